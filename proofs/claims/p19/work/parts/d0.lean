section
theorem dX9_after_0 : decode cX9_after 0 = .ok (.iload_n 0, 1) := by decide +kernel
theorem dX9_after_1 : decode cX9_after 1 = .ok (.iload_n 1, 1) := by decide +kernel
theorem dX9_after_2 : decode cX9_after 2 = .ok (.iadd, 1) := by decide +kernel
theorem dX9_after_3 : decode cX9_after 3 = .ok (.bipush 63, 2) := by decide +kernel
theorem dX9_after_5 : decode cX9_after 5 = .ok (.iand, 1) := by decide +kernel
theorem dX9_after_6 : decode cX9_after 6 = .ok (.ireturn, 1) := by decide +kernel
set_option maxHeartbeats 4000000 in
set_option maxRecDepth 100000 in
theorem c_X9_after (l : Launch) (p0 p1 : Int32) : Met l yX9_after [Cond.code yX9_after cX9_after 2 (some .int)] ({ frames := 0, cells := 0, slots := 0, locals := 0 } : Room) (fun v _ => v = ([.int p0, .int p1] : List Value).toArray) (QcRead ((p0 + p1) &&& 63)) 0 0 (fun _ => False) := by
  refine Met.ofW (cc := cX9_after) (maxL := 2) (ret := (some .int)) (by decide) rfl ?_
  intro p e s m args below meth c s₁ B hml hv
  subst hv
  have hx := B.exec
  have hb := B.bytes
  have hr := B.returns
  have hlocks := B.notSynchronized
  have hl := lv_entry ([.int p0, .int p1]) (n := 2) (Nat.le_of_ble_eq_true rfl)
  rw [lg_entry_eq]
  generalize (lg_sl ([.int p0, .int p1]) ++ List.replicate (2 - (lg_sl ([.int p0, .int p1])).length) Slot.unset).toArray = ls at hl ⊢
  have hl : lv_has ls 2 [(0, .int p0), (1, .int p1)] := hl
  refine lv_iload_n hx hb dX9_after_0 rfl (lv_at hl 0 rfl) ?_
  refine lv_iload_n hx hb dX9_after_1 rfl (lv_at hl 1 rfl) ?_
  refine lv_iadd hx hb dX9_after_2 ?_
  refine lv_bipush (v := 63) hx hb dX9_after_3 (by decide) ?_
  refine lv_iand hx hb dX9_after_5 ?_
  exact W.iret (v := ((p0 + p1) &&& 63)) hx hb hr (fun t ht hW => ⟨rfl, ht⟩) (fun q hq => nomatch hq) dX9_after_6
theorem dX9_distance_0 : decode cX9_distance 0 = .ok (.iload_n 1, 1) := by decide +kernel
theorem dX9_distance_1 : decode cX9_distance 1 = .ok (.iload_n 0, 1) := by decide +kernel
theorem dX9_distance_2 : decode cX9_distance 2 = .ok (.isub, 1) := by decide +kernel
theorem dX9_distance_3 : decode cX9_distance 3 = .ok (.bipush 63, 2) := by decide +kernel
theorem dX9_distance_5 : decode cX9_distance 5 = .ok (.iand, 1) := by decide +kernel
theorem dX9_distance_6 : decode cX9_distance 6 = .ok (.ireturn, 1) := by decide +kernel
set_option maxHeartbeats 4000000 in
set_option maxRecDepth 100000 in
theorem c_X9_distance (l : Launch) (p0 p1 : Int32) : Met l yX9_distance [Cond.code yX9_distance cX9_distance 2 (some .int)] ({ frames := 0, cells := 0, slots := 0, locals := 0 } : Room) (fun v _ => v = ([.int p0, .int p1] : List Value).toArray) (QcRead ((p1 - p0) &&& 63)) 0 0 (fun _ => False) := by
  refine Met.ofW (cc := cX9_distance) (maxL := 2) (ret := (some .int)) (by decide) rfl ?_
  intro p e s m args below meth c s₁ B hml hv
  subst hv
  have hx := B.exec
  have hb := B.bytes
  have hr := B.returns
  have hlocks := B.notSynchronized
  have hl := lv_entry ([.int p0, .int p1]) (n := 2) (Nat.le_of_ble_eq_true rfl)
  rw [lg_entry_eq]
  generalize (lg_sl ([.int p0, .int p1]) ++ List.replicate (2 - (lg_sl ([.int p0, .int p1])).length) Slot.unset).toArray = ls at hl ⊢
  have hl : lv_has ls 2 [(0, .int p0), (1, .int p1)] := hl
  refine lv_iload_n hx hb dX9_distance_0 rfl (lv_at hl 1 rfl) ?_
  refine lv_iload_n hx hb dX9_distance_1 rfl (lv_at hl 0 rfl) ?_
  refine lv_isub hx hb dX9_distance_2 ?_
  refine lv_bipush (v := 63) hx hb dX9_distance_3 (by decide) ?_
  refine lv_iand hx hb dX9_distance_5 ?_
  exact W.iret (v := ((p1 - p0) &&& 63)) hx hb hr (fun t ht hW => ⟨rfl, ht⟩) (fun q hq => nomatch hq) dX9_distance_6
theorem dX9_numbersFor_0 : decode cX9_numbersFor 0 = .ok (.iload_n 0, 1) := by decide +kernel
theorem dX9_numbersFor_1 : decode cX9_numbersFor 1 = .ok (.iconst 4, 1) := by decide +kernel
theorem dX9_numbersFor_2 : decode cX9_numbersFor 2 = .ok (.iadd, 1) := by decide +kernel
theorem dX9_numbersFor_3 : decode cX9_numbersFor 3 = .ok (.iconst 1, 1) := by decide +kernel
theorem dX9_numbersFor_4 : decode cX9_numbersFor 4 = .ok (.isub, 1) := by decide +kernel
theorem dX9_numbersFor_5 : decode cX9_numbersFor 5 = .ok (.iconst 4, 1) := by decide +kernel
theorem dX9_numbersFor_6 : decode cX9_numbersFor 6 = .ok (.idiv, 1) := by decide +kernel
theorem dX9_numbersFor_7 : decode cX9_numbersFor 7 = .ok (.ireturn, 1) := by decide +kernel
set_option maxHeartbeats 4000000 in
set_option maxRecDepth 100000 in
theorem c_X9_numbersFor (l : Launch) (p0 : Int32) : Met l yX9_numbersFor [Cond.code yX9_numbersFor cX9_numbersFor 1 (some .int)] ({ frames := 0, cells := 0, slots := 0, locals := 0 } : Room) (fun v _ => v = ([.int p0] : List Value).toArray) (QcRead (((p0 + 4) - 1) / 4)) 0 0 (fun _ => False) := by
  refine Met.ofW (cc := cX9_numbersFor) (maxL := 1) (ret := (some .int)) (by decide) rfl ?_
  intro p e s m args below meth c s₁ B hml hv
  subst hv
  have hx := B.exec
  have hb := B.bytes
  have hr := B.returns
  have hlocks := B.notSynchronized
  have hl := lv_entry ([.int p0]) (n := 1) (Nat.le_of_ble_eq_true rfl)
  rw [lg_entry_eq]
  generalize (lg_sl ([.int p0]) ++ List.replicate (1 - (lg_sl ([.int p0])).length) Slot.unset).toArray = ls at hl ⊢
  have hl : lv_has ls 1 [(0, .int p0)] := hl
  refine lv_iload_n hx hb dX9_numbersFor_0 rfl (lv_at hl 0 rfl) ?_
  refine lv_iconst (v := 4) hx hb dX9_numbersFor_1 (by decide) ?_
  refine lv_iadd hx hb dX9_numbersFor_2 ?_
  refine lv_iconst (v := 1) hx hb dX9_numbersFor_3 (by decide) ?_
  refine lv_isub hx hb dX9_numbersFor_4 ?_
  refine lv_iconst (v := 4) hx hb dX9_numbersFor_5 (by decide) ?_
  refine lv_idiv hx hb dX9_numbersFor_6 (by decide) ?_
  exact W.iret (v := (((p0 + 4) - 1) / 4)) hx hb hr (fun t ht hW => ⟨rfl, ht⟩) (fun q hq => nomatch hq) dX9_numbersFor_7
theorem dX9_before_0 : decode cX9_before 0 = .ok (.iload_n 0, 1) := by decide +kernel
theorem dX9_before_1 : decode cX9_before 1 = .ok (.iconst (-1), 1) := by decide +kernel
theorem dX9_before_2 : decode cX9_before 2 = .ok (.invokestatic 203, 3) := by decide +kernel
theorem dX9_before_5 : decode cX9_before 5 = .ok (.ireturn, 1) := by decide +kernel
set_option maxHeartbeats 4000000 in
set_option maxRecDepth 100000 in
theorem x_X9_before (l : Launch) (E : EE) (z0 : Nat) (p0 : Int32) : Met l yX9_before [Cond.code yX9_before cX9_before 1 (some .int)] ({ frames := 1, cells := 0, slots := 0, locals := 21 } : Room) (va_Pc [.int p0] (fun U => True ∧ KS E z0 U)) (va_Qi (fun (r : Int32) (_ : Unit) => r = (p0 + (-1)) &&& 63) (fun _ _ => True) (fun _ : Nat => False)) 0 0 (fun _ : Nat => False) := by
  refine Met.ofW (cc := cX9_before) (maxL := 1) (ret := (some .int)) (by decide) rfl ?_
  intro p e s m args below meth c s₁ B hml hv
  obtain ⟨rfl, -, hK⟩ := hv
  have hx := B.exec
  have hb := B.bytes
  have hr := B.returns
  have hts : ∀ w ∈ TS, w.before ([.int p0] : List Value).toArray s = true := fun w hw => hK.2.1 w hw _
  have hown : s.vm.findClass RX9 = some m.cls := findClass_of_methodNamed B.named
  have hS : va_S (fun _ : Nat => False) s.heap s.heap [] := va_S.rf
  have hl := lv_entry ([.int p0]) (n := 1) (Nat.le_of_ble_eq_true rfl)
  rw [lg_entry_eq]
  generalize (lg_sl ([.int p0]) ++ List.replicate (1 - (lg_sl ([.int p0])).length) Slot.unset).toArray = ls at hl ⊢
  have hl : lv_has ls 1 [(0, .int p0)] := hl
  refine lv_iload_n hx hb dX9_before_0 rfl (lv_at hl 0 rfl) ?_
  refine lv_iconst (v := (-1)) hx hb dX9_before_1 (by decide) ?_
  refine W.callR (W.runS (As := [.int p0, .int (-1)]) (rest := []) ⟨hx, hb, hml, hown, hts⟩ (c_X9_after l p0 ((-1))) (cwS 2 hts (gdS ml_X9_203 st_X9_after in_X9 co_X9_after rfl) rfl rfl rfl (by decide +kernel) ⟨Nat.le_of_ble_eq_true rfl, Nat.le_of_ble_eq_true rfl⟩) preEq rfl rfl hl.1 rfl (lv_room (Nat.le_of_ble_eq_true rfl)) dX9_before_2 ⟨Nat.le_of_ble_eq_true rfl, Nat.le_of_ble_eq_true rfl⟩) ?_
  refine W.eq (g2 := F0 m 5 ls [.int ((p0 + (-1)) &&& 63)]) (by rfl) ?_
  exact W.iret (v := (p0 + (-1)) &&& 63) hx hb hr (fun t ht hW => ⟨⟨_, (), rfl, rfl, trivial⟩, hS.F ht⟩) hS.2.2 dX9_before_5
theorem dX6_become_0 : decode cX6_become 0 = .ok (.aload_n 0, 1) := by decide +kernel
theorem dX6_become_1 : decode cX6_become 1 = .ok (.iload_n 1, 1) := by decide +kernel
theorem dX6_become_2 : decode cX6_become 2 = .ok (.putfield 7, 3) := by decide +kernel
theorem dX6_become_5 : decode cX6_become 5 = .ok (.aload_n 0, 1) := by decide +kernel
theorem dX6_become_6 : decode cX6_become 6 = .ok (.iload_n 2, 1) := by decide +kernel
theorem dX6_become_7 : decode cX6_become 7 = .ok (.putfield 13, 3) := by decide +kernel
theorem dX6_become_10 : decode cX6_become 10 = .ok (.aload_n 0, 1) := by decide +kernel
theorem dX6_become_11 : decode cX6_become 11 = .ok (.iload_n 3, 1) := by decide +kernel
theorem dX6_become_12 : decode cX6_become 12 = .ok (.putfield 16, 3) := by decide +kernel
theorem dX6_become_15 : decode cX6_become 15 = .ok (.return_, 1) := by decide +kernel
set_option maxHeartbeats 8000000 in
set_option maxRecDepth 100000 in
theorem x_X6_become (l : Launch) (E : EE) (z0 : Nat) (G : Nat → Nat) (hGz : ∀ q, G q ≠ 0 → z0 ≤ q) (B : AA) (R : RR) (hW : TW G B R) (h0 : Nat) (p0 : Int32) (p1 : Int32) (p2 : Int32) (hG : G h0 = 7) : Met l yX6_become [Cond.code yX6_become cX6_become 4 none] ({ frames := 0, cells := 0, slots := 0, locals := 0 } : Room) (va_Pc [.ref h0, .int p0, .int p1, .int p2] (fun U => TX E G B R U.heap ∧ KS E z0 U)) (va_Qv (fun (u : AA) => (TW G u R) ∧ (Fr G ([7] : List Nat) B u) ∧ (C_X6_become G B R h0 p0 p1 p2 u)) (fun u t => TX E G u R t.heap) (fun q : Nat => G q ∈ ([7] : List Nat))) 0 0 (fun q : Nat => G q ∈ ([7] : List Nat)) := by
  refine Met.ofW (cc := cX6_become) (maxL := 4) (ret := none) (by decide) rfl ?_
  intro p e s m args below meth c s₁ B9 hml hv
  obtain ⟨rfl, hT, hK⟩ := hv
  have hx := B9.exec
  have hb := B9.bytes
  have hr := B9.returns
  have hts : ∀ w ∈ TS, w.before ([.ref h0, .int p0, .int p1, .int p2] : List Value).toArray s = true := fun w hw => hK.2.1 w hw _
  have hown : s.vm.findClass RX6 = some m.cls := findClass_of_methodNamed B9.named
  have hlocks := B9.notSynchronized
  have hS : va_S (fun q : Nat => G q ∈ ([7] : List Nat)) s.heap s.heap [] := va_S.rf
  have hAz : ∀ q, (fun q : Nat => G q ∈ ([7] : List Nat)) q → z0 ≤ q := zL hGz (by decide)
  have hW_0 := hW
  have hl := lv_entry ([.ref h0, .int p0, .int p1, .int p2]) (n := 4) (Nat.le_of_ble_eq_true rfl)
  rw [lg_entry_eq]
  generalize (lg_sl ([.ref h0, .int p0, .int p1, .int p2]) ++ List.replicate (4 - (lg_sl ([.ref h0, .int p0, .int p1, .int p2])).length) Slot.unset).toArray = ls at hl ⊢
  have hl : lv_has ls 4 [(0, .ref h0), (1, .int p0), (2, .int p1), (3, .int p2)] := hl
  refine lv_aload_n hx hb dX6_become_0 rfl (lv_at hl 0 rfl) ?_
  refine lv_iload_n hx hb dX6_become_1 rfl (lv_at hl 1 rfl) ?_
  have ha_1 := tx_7 hT hG
  refine rr_put (D := DG E) (ci := 6) (v := .int p0) (ty := .int) (C := RX6) (T := TX6) (N := 3) hx hb hts iw_X6 tyX6 tyX6_ok nmX6 hown hK.1 ha_1 hS (by show G h0 ∈ ([7] : List Nat); rw [hG]; decide) rfl 0 (by decide) (hts _ fl_X6_7) (fun _ h9 => h9) rfl (by decide +kernel) rfl rfl (Nat.le_of_ble_eq_true rfl) dX6_become_2 (fun H locs hn ho hz hS => ?_)
  obtain ⟨B_2, eB_2⟩ : ∃ z : AA, z = uA B h0 (upd (B h0) 0 p0) := ⟨_, rfl⟩
  have sB_2 : B_2 h0 0 = p0 := by rw [eB_2, uA_s]; exact upd_s
  have nB_2 : ∀ k, k ≠ 0 → B_2 h0 k = B h0 k := fun k hk => by rw [eB_2, uA_s]; exact upd_n hk
  have fB_2 : ∀ c, G c ≠ 7 → B_2 c = B c := fun c hc => by rw [eB_2]; exact uA_n (fun e => hc (by rw [e]; exact hG))
  have hT : TX E G B_2 R H := by rw [eB_2]; exact hT.w (by rw [hG]; exact hn) ho
  have hWB_2 : TW G B_2 R := by rw [eB_2]; exact hW_0.w (by rw [hG]; exact trivial)
  have hW := hWB_2
  refine lv_aload_n hx hb dX6_become_5 rfl (lv_at hl 0 rfl) ?_
  refine lv_iload_n hx hb dX6_become_6 rfl (lv_at hl 2 rfl) ?_
  have ha_3 := tx_7 hT hG
  refine rr_put (D := DG E) (ci := 6) (v := .int p1) (ty := .int) (C := RX6) (T := TX6) (N := 3) hx hb hts iw_X6 tyX6 tyX6_ok nmX6 hown hK.1 ha_3 hS (by show G h0 ∈ ([7] : List Nat); rw [hG]; decide) rfl 1 (by decide) (hts _ fl_X6_13) (fun _ h9 => h9) rfl (by decide +kernel) rfl rfl (Nat.le_of_ble_eq_true rfl) dX6_become_7 (fun H locs hn ho hz hS => ?_)
  obtain ⟨B_4, eB_4⟩ : ∃ z : AA, z = uA B_2 h0 (upd (B_2 h0) 1 p1) := ⟨_, rfl⟩
  have sB_4 : B_4 h0 1 = p1 := by rw [eB_4, uA_s]; exact upd_s
  have nB_4 : ∀ k, k ≠ 1 → B_4 h0 k = B_2 h0 k := fun k hk => by rw [eB_4, uA_s]; exact upd_n hk
  have fB_4 : ∀ c, G c ≠ 7 → B_4 c = B_2 c := fun c hc => by rw [eB_4]; exact uA_n (fun e => hc (by rw [e]; exact hG))
  have hT : TX E G B_4 R H := by rw [eB_4]; exact hT.w (by rw [hG]; exact hn) ho
  have hWB_4 : TW G B_4 R := by rw [eB_4]; exact hWB_2.w (by rw [hG]; exact trivial)
  have hW := hWB_4
  refine lv_aload_n hx hb dX6_become_10 rfl (lv_at hl 0 rfl) ?_
  refine lv_iload_n hx hb dX6_become_11 rfl (lv_at hl 3 rfl) ?_
  have ha_5 := tx_7 hT hG
  refine rr_put (D := DG E) (ci := 6) (v := .int p2) (ty := .int) (C := RX6) (T := TX6) (N := 3) hx hb hts iw_X6 tyX6 tyX6_ok nmX6 hown hK.1 ha_5 hS (by show G h0 ∈ ([7] : List Nat); rw [hG]; decide) rfl 2 (by decide) (hts _ fl_X6_16) (fun _ h9 => h9) rfl (by decide +kernel) rfl rfl (Nat.le_of_ble_eq_true rfl) dX6_become_12 (fun H locs hn ho hz hS => ?_)
  obtain ⟨B_6, eB_6⟩ : ∃ z : AA, z = uA B_4 h0 (upd (B_4 h0) 2 p2) := ⟨_, rfl⟩
  have sB_6 : B_6 h0 2 = p2 := by rw [eB_6, uA_s]; exact upd_s
  have nB_6 : ∀ k, k ≠ 2 → B_6 h0 k = B_4 h0 k := fun k hk => by rw [eB_6, uA_s]; exact upd_n hk
  have fB_6 : ∀ c, G c ≠ 7 → B_6 c = B_4 c := fun c hc => by rw [eB_6]; exact uA_n (fun e => hc (by rw [e]; exact hG))
  have hT : TX E G B_6 R H := by rw [eB_6]; exact hT.w (by rw [hG]; exact hn) ho
  have hWB_6 : TW G B_6 R := by rw [eB_6]; exact hWB_4.w (by rw [hG]; exact trivial)
  have hW := hWB_6
  exact W.vret hx hb hr (fun t ht hW9 => ⟨⟨B_6, rfl, ⟨hW, (Fr.w (Fr.w (Fr.w Fr.rf hG (by decide) eB_2) hG (by decide) eB_4) hG (by decide) eB_6), ⟨B_2, eB_2, B_4, eB_4, B_6, eB_6, rfl⟩⟩, (by show TX E G B_6 R t.heap; rw [ht]; exact hT)⟩, hS.F ht⟩) hS.2.2 dX6_become_15
theorem dX6_allows_0 : decode cX6_allows 0 = .ok (.aload_n 0, 1) := by decide +kernel
theorem dX6_allows_1 : decode cX6_allows 1 = .ok (.getfield 13, 3) := by decide +kernel
theorem dX6_allows_4 : decode cX6_allows 4 = .ok (.ifCond .le 39, 3) := by decide +kernel
theorem dX6_allows_7 : decode cX6_allows 7 = .ok (.iload_n 1, 1) := by decide +kernel
theorem dX6_allows_8 : decode cX6_allows 8 = .ok (.aload_n 0, 1) := by decide +kernel
theorem dX6_allows_9 : decode cX6_allows 9 = .ok (.getfield 7, 3) := by decide +kernel
theorem dX6_allows_12 : decode cX6_allows 12 = .ok (.if_icmp .lt 31, 3) := by decide +kernel
theorem dX6_allows_15 : decode cX6_allows 15 = .ok (.iload_n 1, 1) := by decide +kernel
theorem dX6_allows_16 : decode cX6_allows 16 = .ok (.iload_n 2, 1) := by decide +kernel
theorem dX6_allows_17 : decode cX6_allows 17 = .ok (.iadd, 1) := by decide +kernel
theorem dX6_allows_18 : decode cX6_allows 18 = .ok (.aload_n 0, 1) := by decide +kernel
theorem dX6_allows_19 : decode cX6_allows 19 = .ok (.getfield 7, 3) := by decide +kernel
theorem dX6_allows_22 : decode cX6_allows 22 = .ok (.aload_n 0, 1) := by decide +kernel
theorem dX6_allows_23 : decode cX6_allows 23 = .ok (.getfield 13, 3) := by decide +kernel
theorem dX6_allows_26 : decode cX6_allows 26 = .ok (.iadd, 1) := by decide +kernel
theorem dX6_allows_27 : decode cX6_allows 27 = .ok (.if_icmp .gt 16, 3) := by decide +kernel
theorem dX6_allows_30 : decode cX6_allows 30 = .ok (.aload_n 0, 1) := by decide +kernel
theorem dX6_allows_31 : decode cX6_allows 31 = .ok (.getfield 16, 3) := by decide +kernel
theorem dX6_allows_34 : decode cX6_allows 34 = .ok (.iload_n 3, 1) := by decide +kernel
theorem dX6_allows_35 : decode cX6_allows 35 = .ok (.iand, 1) := by decide +kernel
theorem dX6_allows_36 : decode cX6_allows 36 = .ok (.ifCond .eq 7, 3) := by decide +kernel
theorem dX6_allows_39 : decode cX6_allows 39 = .ok (.iconst 1, 1) := by decide +kernel
theorem dX6_allows_40 : decode cX6_allows 40 = .ok (.goto 4, 3) := by decide +kernel
theorem dX6_allows_43 : decode cX6_allows 43 = .ok (.iconst 0, 1) := by decide +kernel
theorem dX6_allows_44 : decode cX6_allows 44 = .ok (.ireturn, 1) := by decide +kernel
set_option maxHeartbeats 8000000 in
set_option maxRecDepth 100000 in
theorem x_X6_allows (l : Launch) (E : EE) (z0 : Nat) (G : Nat → Nat) (hGz : ∀ q, G q ≠ 0 → z0 ≤ q) (B : AA) (R : RR) (hW : TW G B R) (h0 : Nat) (p0 : Int32) (p1 : Int32) (p2 : Int32) (hG : G h0 = 7) : Met l yX6_allows [Cond.code yX6_allows cX6_allows 4 (some .boolean)] ({ frames := 0, cells := 0, slots := 0, locals := 0 } : Room) (va_Pc [.ref h0, .int p0, .int p1, .int p2] (fun U => TX E G B R U.heap ∧ KS E z0 U)) (va_Qi (fun (r : Int32) (u : Unit) => (r = 0 ∨ r = 1) ∧ (C_X6_allows G B R h0 p0 p1 p2 r)) (fun u t => True) (fun _ : Nat => False)) 0 0 (fun _ : Nat => False) := by
  refine Met.ofW (cc := cX6_allows) (maxL := 4) (ret := (some .boolean)) (by decide) rfl ?_
  intro p e s m args below meth c s₁ B9 hml hv
  obtain ⟨rfl, hT, hK⟩ := hv
  have hx := B9.exec
  have hb := B9.bytes
  have hr := B9.returns
  have hts : ∀ w ∈ TS, w.before ([.ref h0, .int p0, .int p1, .int p2] : List Value).toArray s = true := fun w hw => hK.2.1 w hw _
  have hown : s.vm.findClass RX6 = some m.cls := findClass_of_methodNamed B9.named
  have hlocks := B9.notSynchronized
  have hS : va_S (fun _ : Nat => False) s.heap s.heap [] := va_S.rf
  have hAz : ∀ q, (fun _ : Nat => False) q → z0 ≤ q := fun _ h => h.elim
  have hW_0 := hW
  have hl := lv_entry ([.ref h0, .int p0, .int p1, .int p2]) (n := 4) (Nat.le_of_ble_eq_true rfl)
  rw [lg_entry_eq]
  generalize (lg_sl ([.ref h0, .int p0, .int p1, .int p2]) ++ List.replicate (4 - (lg_sl ([.ref h0, .int p0, .int p1, .int p2])).length) Slot.unset).toArray = ls at hl ⊢
  have hl : lv_has ls 4 [(0, .ref h0), (1, .int p0), (2, .int p1), (3, .int p2)] := hl
  refine lv_aload_n hx hb dX6_allows_0 rfl (lv_at hl 0 rfl) ?_
  have ha_1 := tx_7 hT hG
  refine va_get (D := DG E) (ci := 6) (v := .int (B h0 1)) (C := RX6) (T := TX6) (N := 3) hx hb hts iw_X6 hown hK.1 (va_one ha_1) 0 rfl rfl 1 (by decide) (hts _ fl_X6_13) (fun _ h9 => h9) rfl dX6_allows_1 ?_
  refine lv_if_le (tgt := 43) hx hb dX6_allows_4 (by decide) (fun c_2 => ?_) (fun c_2 => ?_)
  · simp only [lt_I, le_I, eq_I, i_0, i_1, i_2, i_3, i_4, i_5, i_6, i_7, i_8, i_10, i_12, i_16, i_20, i_23, i_24, i_31, i_32, i_63, i_64, i_m1] at c_2
    refine lv_iconst (v := 0) hx hb dX6_allows_43 (by decide) ?_
    exact W.zret (v := 0) (ty := .boolean) hx hb hr rfl (fun t ht hW9 => ⟨⟨0, (), rfl, ⟨(by decide), (Or.inl ⟨c_2, rfl⟩)⟩, trivial⟩, hS.F ht⟩) hS.2.2 dX6_allows_44
  · simp only [lt_I, le_I, eq_I, i_0, i_1, i_2, i_3, i_4, i_5, i_6, i_7, i_8, i_10, i_12, i_16, i_20, i_23, i_24, i_31, i_32, i_63, i_64, i_m1] at c_2
    refine lv_iload_n hx hb dX6_allows_7 rfl (lv_at hl 1 rfl) ?_
    refine lv_aload_n hx hb dX6_allows_8 rfl (lv_at hl 0 rfl) ?_
    refine va_get (D := DG E) (ci := 6) (v := .int (B h0 0)) (C := RX6) (T := TX6) (N := 3) hx hb hts iw_X6 hown hK.1 (va_one ha_1) 0 rfl rfl 0 (by decide) (hts _ fl_X6_7) (fun _ h9 => h9) rfl dX6_allows_9 ?_
    refine lv_icmp_lt (tgt := 43) hx hb dX6_allows_12 (by decide) (fun c_3 => ?_) (fun c_3 => ?_)
    · simp only [lt_I, le_I, eq_I, i_0, i_1, i_2, i_3, i_4, i_5, i_6, i_7, i_8, i_10, i_12, i_16, i_20, i_23, i_24, i_31, i_32, i_63, i_64, i_m1] at c_3
      refine lv_iconst (v := 0) hx hb dX6_allows_43 (by decide) ?_
      exact W.zret (v := 0) (ty := .boolean) hx hb hr rfl (fun t ht hW9 => ⟨⟨0, (), rfl, ⟨(by decide), (Or.inr (Or.inl ⟨c_2, c_3, rfl⟩))⟩, trivial⟩, hS.F ht⟩) hS.2.2 dX6_allows_44
    · simp only [lt_I, le_I, eq_I, i_0, i_1, i_2, i_3, i_4, i_5, i_6, i_7, i_8, i_10, i_12, i_16, i_20, i_23, i_24, i_31, i_32, i_63, i_64, i_m1] at c_3
      refine lv_iload_n hx hb dX6_allows_15 rfl (lv_at hl 1 rfl) ?_
      refine lv_iload_n hx hb dX6_allows_16 rfl (lv_at hl 2 rfl) ?_
      refine lv_iadd hx hb dX6_allows_17 ?_
      refine lv_topi (fun x_4 ex_4 => ?_)
      refine lv_aload_n hx hb dX6_allows_18 rfl (lv_at hl 0 rfl) ?_
      refine va_get (D := DG E) (ci := 6) (v := .int (B h0 0)) (C := RX6) (T := TX6) (N := 3) hx hb hts iw_X6 hown hK.1 (va_one ha_1) 0 rfl rfl 0 (by decide) (hts _ fl_X6_7) (fun _ h9 => h9) rfl dX6_allows_19 ?_
      refine lv_aload_n hx hb dX6_allows_22 rfl (lv_at hl 0 rfl) ?_
      refine va_get (D := DG E) (ci := 6) (v := .int (B h0 1)) (C := RX6) (T := TX6) (N := 3) hx hb hts iw_X6 hown hK.1 (va_one ha_1) 0 rfl rfl 1 (by decide) (hts _ fl_X6_13) (fun _ h9 => h9) rfl dX6_allows_23 ?_
      refine lv_iadd hx hb dX6_allows_26 ?_
      refine lv_topi (fun x_5 ex_5 => ?_)
      refine lv_icmp_gt (tgt := 43) hx hb dX6_allows_27 (by decide) (fun c_6 => ?_) (fun c_6 => ?_)
      · simp only [lt_I, le_I, eq_I, i_0, i_1, i_2, i_3, i_4, i_5, i_6, i_7, i_8, i_10, i_12, i_16, i_20, i_23, i_24, i_31, i_32, i_63, i_64, i_m1] at c_6
        refine lv_iconst (v := 0) hx hb dX6_allows_43 (by decide) ?_
        exact W.zret (v := 0) (ty := .boolean) hx hb hr rfl (fun t ht hW9 => ⟨⟨0, (), rfl, ⟨(by decide), (Or.inr (Or.inr (Or.inl ⟨c_2, c_3, x_4, ex_4, x_5, ex_5, c_6, rfl⟩)))⟩, trivial⟩, hS.F ht⟩) hS.2.2 dX6_allows_44
      · simp only [lt_I, le_I, eq_I, i_0, i_1, i_2, i_3, i_4, i_5, i_6, i_7, i_8, i_10, i_12, i_16, i_20, i_23, i_24, i_31, i_32, i_63, i_64, i_m1] at c_6
        refine lv_aload_n hx hb dX6_allows_30 rfl (lv_at hl 0 rfl) ?_
        refine va_get (D := DG E) (ci := 6) (v := .int (B h0 2)) (C := RX6) (T := TX6) (N := 3) hx hb hts iw_X6 hown hK.1 (va_one ha_1) 0 rfl rfl 2 (by decide) (hts _ fl_X6_16) (fun _ h9 => h9) rfl dX6_allows_31 ?_
        refine lv_iload_n hx hb dX6_allows_34 rfl (lv_at hl 3 rfl) ?_
        refine lv_iand hx hb dX6_allows_35 ?_
        refine lv_topi (fun x_7 ex_7 => ?_)
        refine lv_if_eq (tgt := 43) hx hb dX6_allows_36 (by decide) (fun c_8 => ?_) (fun c_8 => ?_)
        · simp only [lt_I, le_I, eq_I, i_0, i_1, i_2, i_3, i_4, i_5, i_6, i_7, i_8, i_10, i_12, i_16, i_20, i_23, i_24, i_31, i_32, i_63, i_64, i_m1] at c_8
          refine lv_iconst (v := 0) hx hb dX6_allows_43 (by decide) ?_
          exact W.zret (v := 0) (ty := .boolean) hx hb hr rfl (fun t ht hW9 => ⟨⟨0, (), rfl, ⟨(by decide), (Or.inr (Or.inr (Or.inr (Or.inl ⟨c_2, c_3, x_4, ex_4, x_5, ex_5, c_6, x_7, ex_7, c_8, rfl⟩))))⟩, trivial⟩, hS.F ht⟩) hS.2.2 dX6_allows_44
        · simp only [lt_I, le_I, eq_I, i_0, i_1, i_2, i_3, i_4, i_5, i_6, i_7, i_8, i_10, i_12, i_16, i_20, i_23, i_24, i_31, i_32, i_63, i_64, i_m1] at c_8
          refine lv_iconst (v := 1) hx hb dX6_allows_39 (by decide) ?_
          refine lv_goto (tgt := 44) hx hb dX6_allows_40 (by decide) ?_
          exact W.zret (v := 1) (ty := .boolean) hx hb hr rfl (fun t ht hW9 => ⟨⟨1, (), rfl, ⟨(by decide), (Or.inr (Or.inr (Or.inr (Or.inr ⟨c_2, c_3, x_4, ex_4, x_5, ex_5, c_6, x_7, ex_7, c_8, rfl⟩))))⟩, trivial⟩, hS.F ht⟩) hS.2.2 dX6_allows_44
theorem dX1_at_0 : decode cX1_at 0 = .ok (.iload_n 1, 1) := by decide +kernel
theorem dX1_at_1 : decode cX1_at 1 = .ok (.invokestatic 25, 3) := by decide +kernel
theorem dX1_at_4 : decode cX1_at 4 = .ok (.ifCond .eq 12, 3) := by decide +kernel
theorem dX1_at_7 : decode cX1_at 7 = .ok (.aload_n 0, 1) := by decide +kernel
theorem dX1_at_8 : decode cX1_at 8 = .ok (.getfield 9, 3) := by decide +kernel
theorem dX1_at_11 : decode cX1_at 11 = .ok (.iload_n 1, 1) := by decide +kernel
theorem dX1_at_12 : decode cX1_at 12 = .ok (.iaload, 1) := by decide +kernel
theorem dX1_at_13 : decode cX1_at 13 = .ok (.goto 4, 3) := by decide +kernel
theorem dX1_at_16 : decode cX1_at 16 = .ok (.iconst 0, 1) := by decide +kernel
theorem dX1_at_17 : decode cX1_at 17 = .ok (.ireturn, 1) := by decide +kernel
set_option maxHeartbeats 8000000 in
set_option maxRecDepth 100000 in
theorem x_X1_at (l : Launch) (E : EE) (z0 : Nat) (G : Nat → Nat) (hGz : ∀ q, G q ≠ 0 → z0 ≤ q) (B : AA) (R : RR) (hW : TW G B R) (h0 : Nat) (p0 : Int32) (hG : G h0 = 5) : Met l yX1_at [Cond.code yX1_at cX1_at 2 (some .int)] ({ frames := 1, cells := 0, slots := 0, locals := 20 } : Room) (va_Pc [.ref h0, .int p0] (fun U => TX E G B R U.heap ∧ KS E z0 U)) (va_Qi (fun (r : Int32) (u : Unit) => (C_X1_at G B R h0 p0 r)) (fun u t => True) (fun _ : Nat => False)) 0 0 (fun _ : Nat => False) := by
  refine Met.ofW (cc := cX1_at) (maxL := 2) (ret := (some .int)) (by decide) rfl ?_
  intro p e s m args below meth c s₁ B9 hml hv
  obtain ⟨rfl, hT, hK⟩ := hv
  have hx := B9.exec
  have hb := B9.bytes
  have hr := B9.returns
  have hts : ∀ w ∈ TS, w.before ([.ref h0, .int p0] : List Value).toArray s = true := fun w hw => hK.2.1 w hw _
  have hown : s.vm.findClass RX1 = some m.cls := findClass_of_methodNamed B9.named
  have hlocks := B9.notSynchronized
  have hS : va_S (fun _ : Nat => False) s.heap s.heap [] := va_S.rf
  have hAz : ∀ q, (fun _ : Nat => False) q → z0 ≤ q := fun _ h => h.elim
  have hW_0 := hW
  have hl := lv_entry ([.ref h0, .int p0]) (n := 2) (Nat.le_of_ble_eq_true rfl)
  rw [lg_entry_eq]
  generalize (lg_sl ([.ref h0, .int p0]) ++ List.replicate (2 - (lg_sl ([.ref h0, .int p0])).length) Slot.unset).toArray = ls at hl ⊢
  have hl : lv_has ls 2 [(0, .ref h0), (1, .int p0)] := hl
  refine lv_iload_n hx hb dX1_at_0 rfl (lv_at hl 1 rfl) ?_
  refine rnSN (As := [.int p0]) (rest := []) ⟨hx, hb, hml, hown, hts⟩ (c_X9_isCell l p0) ⟨va_cnB (host := RX9) 1 hts (gd1 co_X9_isCell rfl) rfl rfl rfl (hK.2.1 _ mn_X1_25 #[]) (hts _ in_X9) (by decide +kernel) ⟨Nat.le_of_ble_eq_true rfl, Nat.le_of_ble_eq_true rfl⟩, hts _ st_X9_isCell, trivial⟩ rfl rfl hl.1 rfl (lv_room (Nat.le_of_ble_eq_true rfl)) dX1_at_1 ⟨Nat.le_of_ble_eq_true rfl, Nat.le_of_ble_eq_true rfl⟩ ?_
  refine W.eq (g2 := F0 m 4 ls [.int (bI (0 ≤ p0.toInt ∧ p0.toInt < 32))]) (by rfl) ?_
  refine lv_if_eq (tgt := 16) hx hb dX1_at_4 (by decide) (fun c_1 => ?_) (fun c_1 => ?_)
  · have c_1 := bI_0 c_1
    refine lv_iconst (v := 0) hx hb dX1_at_16 (by decide) ?_
    exact W.iret (v := 0) hx hb hr (fun t ht hW9 => ⟨⟨0, (), rfl, (Or.inl ⟨c_1, rfl⟩), trivial⟩, hS.F ht⟩) hS.2.2 dX1_at_17
  · have c_1 := bI_n c_1
    refine lv_aload_n hx hb dX1_at_7 rfl (lv_at hl 0 rfl) ?_
    have ha_2 := tx_5 hT hG
    have hg_3 : G (R h0 0) = 14 := (tw_5 hW hG).1
    refine va_get (D := DG E) (ci := 1) (v := .ref (R h0 0)) (C := RX1) (T := TX1) (N := 5) hx hb hts iw_X1 hown hK.1 (va_one ha_2) 0 rfl rfl 0 (by decide) (hts _ fl_X1_9) (fun _ h9 => h9) rfl dX1_at_8 ?_
    refine lv_iload_n hx hb dX1_at_11 rfl (lv_at hl 1 rfl) ?_
    have ha_4 := tx_14 hT hg_3
    have hi_5 : vp_in p0 32 := vp_in_iff.mpr (by omega)
    obtain ⟨n_6, hn_6, en_6⟩ := x_nat (x := p0) (by omega)
    refine va_iald (D := DG E) hx hb hK.1 (va_one ha_4) 0 0 rfl rfl hi_5 dX1_at_12 ?_
    refine W.eq (g2 := F0 m 13 ls [.int (B (R h0 0) n_6)]) (by rw [en_6]) ?_
    refine lv_goto (tgt := 17) hx hb dX1_at_13 (by decide) ?_
    exact W.iret (v := (B (R h0 0) n_6)) hx hb hr (fun t ht hW9 => ⟨⟨(B (R h0 0) n_6), (), rfl, (Or.inr ⟨c_1, n_6, hn_6, rfl⟩), trivial⟩, hS.F ht⟩) hS.2.2 dX1_at_17
theorem dX1_put_0 : decode cX1_put 0 = .ok (.iload_n 1, 1) := by decide +kernel
theorem dX1_put_1 : decode cX1_put 1 = .ok (.invokestatic 25, 3) := by decide +kernel
theorem dX1_put_4 : decode cX1_put 4 = .ok (.ifCond .eq 10, 3) := by decide +kernel
theorem dX1_put_7 : decode cX1_put 7 = .ok (.aload_n 0, 1) := by decide +kernel
theorem dX1_put_8 : decode cX1_put 8 = .ok (.getfield 9, 3) := by decide +kernel
theorem dX1_put_11 : decode cX1_put 11 = .ok (.iload_n 1, 1) := by decide +kernel
theorem dX1_put_12 : decode cX1_put 12 = .ok (.iload_n 2, 1) := by decide +kernel
theorem dX1_put_13 : decode cX1_put 13 = .ok (.iastore, 1) := by decide +kernel
theorem dX1_put_14 : decode cX1_put 14 = .ok (.return_, 1) := by decide +kernel
set_option maxHeartbeats 8000000 in
set_option maxRecDepth 100000 in
theorem x_X1_put (l : Launch) (E : EE) (z0 : Nat) (G : Nat → Nat) (hGz : ∀ q, G q ≠ 0 → z0 ≤ q) (B : AA) (R : RR) (hW : TW G B R) (h0 : Nat) (p0 : Int32) (p1 : Int32) (hG : G h0 = 5) : Met l yX1_put [Cond.code yX1_put cX1_put 3 none] ({ frames := 1, cells := 0, slots := 0, locals := 20 } : Room) (va_Pc [.ref h0, .int p0, .int p1] (fun U => TX E G B R U.heap ∧ KS E z0 U)) (va_Qv (fun (u : AA) => (TW G u R) ∧ (Fr G ([14] : List Nat) B u) ∧ (C_X1_put G B R h0 p0 p1 u)) (fun u t => TX E G u R t.heap) (fun q : Nat => G q ∈ ([14] : List Nat))) 0 0 (fun q : Nat => G q ∈ ([14] : List Nat)) := by
  refine Met.ofW (cc := cX1_put) (maxL := 3) (ret := none) (by decide) rfl ?_
  intro p e s m args below meth c s₁ B9 hml hv
  obtain ⟨rfl, hT, hK⟩ := hv
  have hx := B9.exec
  have hb := B9.bytes
  have hr := B9.returns
  have hts : ∀ w ∈ TS, w.before ([.ref h0, .int p0, .int p1] : List Value).toArray s = true := fun w hw => hK.2.1 w hw _
  have hown : s.vm.findClass RX1 = some m.cls := findClass_of_methodNamed B9.named
  have hlocks := B9.notSynchronized
  have hS : va_S (fun q : Nat => G q ∈ ([14] : List Nat)) s.heap s.heap [] := va_S.rf
  have hAz : ∀ q, (fun q : Nat => G q ∈ ([14] : List Nat)) q → z0 ≤ q := zL hGz (by decide)
  have hW_0 := hW
  have hl := lv_entry ([.ref h0, .int p0, .int p1]) (n := 3) (Nat.le_of_ble_eq_true rfl)
  rw [lg_entry_eq]
  generalize (lg_sl ([.ref h0, .int p0, .int p1]) ++ List.replicate (3 - (lg_sl ([.ref h0, .int p0, .int p1])).length) Slot.unset).toArray = ls at hl ⊢
  have hl : lv_has ls 3 [(0, .ref h0), (1, .int p0), (2, .int p1)] := hl
  refine lv_iload_n hx hb dX1_put_0 rfl (lv_at hl 1 rfl) ?_
  refine rnSN (As := [.int p0]) (rest := []) ⟨hx, hb, hml, hown, hts⟩ (c_X9_isCell l p0) ⟨va_cnB (host := RX9) 1 hts (gd1 co_X9_isCell rfl) rfl rfl rfl (hK.2.1 _ mn_X1_25 #[]) (hts _ in_X9) (by decide +kernel) ⟨Nat.le_of_ble_eq_true rfl, Nat.le_of_ble_eq_true rfl⟩, hts _ st_X9_isCell, trivial⟩ rfl rfl hl.1 rfl (lv_room (Nat.le_of_ble_eq_true rfl)) dX1_put_1 ⟨Nat.le_of_ble_eq_true rfl, Nat.le_of_ble_eq_true rfl⟩ ?_
  refine W.eq (g2 := F0 m 4 ls [.int (bI (0 ≤ p0.toInt ∧ p0.toInt < 32))]) (by rfl) ?_
  refine lv_if_eq (tgt := 14) hx hb dX1_put_4 (by decide) (fun c_1 => ?_) (fun c_1 => ?_)
  · have c_1 := bI_0 c_1
    exact W.vret hx hb hr (fun t ht hW9 => ⟨⟨B, rfl, ⟨hW, Fr.rf, (Or.inl ⟨c_1, rfl⟩)⟩, (by show TX E G B R t.heap; rw [ht]; exact hT)⟩, hS.F ht⟩) hS.2.2 dX1_put_14
  · have c_1 := bI_n c_1
    refine lv_aload_n hx hb dX1_put_7 rfl (lv_at hl 0 rfl) ?_
    have ha_2 := tx_5 hT hG
    have hg_3 : G (R h0 0) = 14 := (tw_5 hW hG).1
    refine va_get (D := DG E) (ci := 1) (v := .ref (R h0 0)) (C := RX1) (T := TX1) (N := 5) hx hb hts iw_X1 hown hK.1 (va_one ha_2) 0 rfl rfl 0 (by decide) (hts _ fl_X1_9) (fun _ h9 => h9) rfl dX1_put_8 ?_
    refine lv_iload_n hx hb dX1_put_11 rfl (lv_at hl 1 rfl) ?_
    refine lv_iload_n hx hb dX1_put_12 rfl (lv_at hl 2 rfl) ?_
    have ha_4 := tx_14 hT hg_3
    have hi_5 : vp_in p0 32 := vp_in_iff.mpr (by omega)
    obtain ⟨n_6, hn_6, en_6⟩ := x_nat (x := p0) (by omega)
    refine rr_iast (D := DG E) hx hb hK.1 0 ha_4 hS (by show G (R h0 0) ∈ ([14] : List Nat); rw [hg_3]; decide) rfl hi_5 dX1_put_13 (fun H locs hn ho hz hS => ?_)
    rw [en_6] at hn
    obtain ⟨B_7, eB_7⟩ : ∃ z : AA, z = uA B (R h0 0) (upd (B (R h0 0)) n_6 p1) := ⟨_, rfl⟩
    have sB_7 : B_7 (R h0 0) n_6 = p1 := by rw [eB_7, uA_s]; exact upd_s
    have nB_7 : ∀ k, k ≠ n_6 → B_7 (R h0 0) k = B (R h0 0) k := fun k hk => by rw [eB_7, uA_s]; exact upd_n hk
    have fB_7 : ∀ c, G c ≠ 14 → B_7 c = B c := fun c hc => by rw [eB_7]; exact uA_n (fun e => hc (by rw [e]; exact hg_3))
    have hT : TX E G B_7 R H := by rw [eB_7]; exact hT.w (by rw [hg_3]; exact hn) ho
    have hWB_7 : TW G B_7 R := by rw [eB_7]; exact hW_0.w (by rw [hg_3]; exact trivial)
    have hW := hWB_7
    exact W.vret hx hb hr (fun t ht hW9 => ⟨⟨B_7, rfl, ⟨hW, (Fr.w Fr.rf hg_3 (by decide) eB_7), (Or.inr ⟨c_1, n_6, hn_6, B_7, eB_7, rfl⟩)⟩, (by show TX E G B_7 R t.heap; rw [ht]; exact hT)⟩, hS.F ht⟩) hS.2.2 dX1_put_14
theorem dX1_allows_0 : decode cX1_allows 0 = .ok (.iload_n 1, 1) := by decide +kernel
theorem dX1_allows_1 : decode cX1_allows 1 = .ok (.invokestatic 29, 3) := by decide +kernel
theorem dX1_allows_4 : decode cX1_allows 4 = .ok (.ifCond .eq 23, 3) := by decide +kernel
theorem dX1_allows_7 : decode cX1_allows 7 = .ok (.aload_n 0, 1) := by decide +kernel
theorem dX1_allows_8 : decode cX1_allows 8 = .ok (.getfield 17, 3) := by decide +kernel
theorem dX1_allows_11 : decode cX1_allows 11 = .ok (.iload_n 1, 1) := by decide +kernel
theorem dX1_allows_12 : decode cX1_allows 12 = .ok (.aaload, 1) := by decide +kernel
theorem dX1_allows_13 : decode cX1_allows 13 = .ok (.iload_n 2, 1) := by decide +kernel
theorem dX1_allows_14 : decode cX1_allows 14 = .ok (.iload_n 3, 1) := by decide +kernel
theorem dX1_allows_15 : decode cX1_allows 15 = .ok (.iload 4, 2) := by decide +kernel
theorem dX1_allows_17 : decode cX1_allows 17 = .ok (.invokevirtual 32, 3) := by decide +kernel
theorem dX1_allows_20 : decode cX1_allows 20 = .ok (.ifCond .eq 7, 3) := by decide +kernel
theorem dX1_allows_23 : decode cX1_allows 23 = .ok (.iconst 1, 1) := by decide +kernel
theorem dX1_allows_24 : decode cX1_allows 24 = .ok (.goto 4, 3) := by decide +kernel
theorem dX1_allows_27 : decode cX1_allows 27 = .ok (.iconst 0, 1) := by decide +kernel
theorem dX1_allows_28 : decode cX1_allows 28 = .ok (.ireturn, 1) := by decide +kernel
set_option maxHeartbeats 8000000 in
set_option maxRecDepth 100000 in
theorem x_X1_allows (l : Launch) (E : EE) (z0 : Nat) (G : Nat → Nat) (hGz : ∀ q, G q ≠ 0 → z0 ≤ q) (B : AA) (R : RR) (hW : TW G B R) (h0 : Nat) (p0 : Int32) (p1 : Int32) (p2 : Int32) (p3 : Int32) (hG : G h0 = 5) : Met l yX1_allows [Cond.code yX1_allows cX1_allows 5 (some .boolean)] ({ frames := 1, cells := 0, slots := 0, locals := 23 } : Room) (va_Pc [.ref h0, .int p0, .int p1, .int p2, .int p3] (fun U => TX E G B R U.heap ∧ KS E z0 U)) (va_Qi (fun (r : Int32) (u : Unit) => (r = 0 ∨ r = 1) ∧ (C_X1_allows G B R h0 p0 p1 p2 p3 r)) (fun u t => True) (fun _ : Nat => False)) 0 0 (fun _ : Nat => False) := by
  refine Met.ofW (cc := cX1_allows) (maxL := 5) (ret := (some .boolean)) (by decide) rfl ?_
  intro p e s m args below meth c s₁ B9 hml hv
  obtain ⟨rfl, hT, hK⟩ := hv
  have hx := B9.exec
  have hb := B9.bytes
  have hr := B9.returns
  have hts : ∀ w ∈ TS, w.before ([.ref h0, .int p0, .int p1, .int p2, .int p3] : List Value).toArray s = true := fun w hw => hK.2.1 w hw _
  have hown : s.vm.findClass RX1 = some m.cls := findClass_of_methodNamed B9.named
  have hlocks := B9.notSynchronized
  have hS : va_S (fun _ : Nat => False) s.heap s.heap [] := va_S.rf
  have hAz : ∀ q, (fun _ : Nat => False) q → z0 ≤ q := fun _ h => h.elim
  have hW_0 := hW
  have hl := lv_entry ([.ref h0, .int p0, .int p1, .int p2, .int p3]) (n := 5) (Nat.le_of_ble_eq_true rfl)
  rw [lg_entry_eq]
  generalize (lg_sl ([.ref h0, .int p0, .int p1, .int p2, .int p3]) ++ List.replicate (5 - (lg_sl ([.ref h0, .int p0, .int p1, .int p2, .int p3])).length) Slot.unset).toArray = ls at hl ⊢
  have hl : lv_has ls 5 [(0, .ref h0), (1, .int p0), (2, .int p1), (3, .int p2), (4, .int p3)] := hl
  refine lv_iload_n hx hb dX1_allows_0 rfl (lv_at hl 1 rfl) ?_
  refine rnSN (As := [.int p0]) (rest := []) ⟨hx, hb, hml, hown, hts⟩ (c_X9_isRegion l p0) ⟨va_cnB (host := RX9) 1 hts (gd1 co_X9_isRegion rfl) rfl rfl rfl (hK.2.1 _ mn_X1_29 #[]) (hts _ in_X9) (by decide +kernel) ⟨Nat.le_of_ble_eq_true rfl, Nat.le_of_ble_eq_true rfl⟩, hts _ st_X9_isRegion, trivial⟩ rfl rfl hl.1 rfl (lv_room (Nat.le_of_ble_eq_true rfl)) dX1_allows_1 ⟨Nat.le_of_ble_eq_true rfl, Nat.le_of_ble_eq_true rfl⟩ ?_
  refine W.eq (g2 := F0 m 4 ls [.int (bI (0 ≤ p0.toInt ∧ p0.toInt < 6))]) (by rfl) ?_
  refine lv_if_eq (tgt := 27) hx hb dX1_allows_4 (by decide) (fun c_1 => ?_) (fun c_1 => ?_)
  · have c_1 := bI_0 c_1
    refine lv_iconst (v := 0) hx hb dX1_allows_27 (by decide) ?_
    exact W.zret (v := 0) (ty := .boolean) hx hb hr rfl (fun t ht hW9 => ⟨⟨0, (), rfl, ⟨(by decide), (Or.inl ⟨c_1, rfl⟩)⟩, trivial⟩, hS.F ht⟩) hS.2.2 dX1_allows_28
  · have c_1 := bI_n c_1
    refine lv_aload_n hx hb dX1_allows_7 rfl (lv_at hl 0 rfl) ?_
    have ha_2 := tx_5 hT hG
    have hg_3 : G (R h0 1) = 6 := (tw_5 hW hG).2.1
    refine va_get (D := DG E) (ci := 1) (v := .ref (R h0 1)) (C := RX1) (T := TX1) (N := 5) hx hb hts iw_X1 hown hK.1 (va_one ha_2) 0 rfl rfl 1 (by decide) (hts _ fl_X1_17) (fun _ h9 => h9) rfl dX1_allows_8 ?_
    refine lv_iload_n hx hb dX1_allows_11 rfl (lv_at hl 1 rfl) ?_
    have ha_4 := tx_6 hT hg_3
    have hi_5 : vp_in p0 6 := vp_in_iff.mpr (by omega)
    obtain ⟨n_6, hn_6, en_6⟩ := x_nat (x := p0) (by omega)
    have hg_7 : G (R (R h0 1) n_6) = 7 := (tw_6 hW hg_3) n_6 (by omega)
    refine va_aldq (D := DG E) hx hb hK.1 (va_one ha_4) 0 4 rfl rfl hi_5 dX1_allows_12 ?_
    refine W.eq (g2 := F0 m 13 ls [.ref (R (R h0 1) n_6)]) (by rw [en_6]; rfl) ?_
    refine lv_iload_n hx hb dX1_allows_13 rfl (lv_at hl 2 rfl) ?_
    refine lv_iload_n hx hb dX1_allows_14 rfl (lv_at hl 3 rfl) ?_
    refine lv_iload hx hb dX1_allows_15 (lv_at hl 4 rfl) ?_
    have ha_8 := tx_7 hT hg_7
    refine va_calli (rnV (fun H => TX E G B R H) (As := [.int p1, .int p2, .int p3]) (rest := []) ⟨hx, hb, hml, hown, hts⟩ (x_X6_allows l E z0 G hGz B R hW (R (R h0 1) n_6) p1 p2 p3 hg_7) (cwV 3 hts (gdV ml_X1_32 im_X6_allows se_X6_X6_allows in_X6 co_X6_allows rfl) rfl rfl rfl (by decide +kernel) ⟨Nat.le_of_ble_eq_true rfl, Nat.le_of_ble_eq_true rfl⟩) hT (fun U hU hW => hK.go hW hS hAz hU) (va_recv hK.1 (va_one ha_8) (ci := 6) (q0 := 0) rfl rfl) rfl rfl hl.1 rfl (lv_room (Nat.le_of_ble_eq_true rfl)) dX1_allows_17 ⟨Nat.le_of_ble_eq_true rfl, Nat.le_of_ble_eq_true rfl⟩) hS (fun q _ h => h.elim) (fun q h => h.elim) (fun r_9 _ t H locs ht hvm hwr_9 hB hz hk hS => ?_)
    have hT : TX E G B R H := hT.kept (fun q hq => hk q hq (fun h => h))
    have hbr_9 : r_9 = 0 ∨ r_9 = 1 := hwr_9.1
    have hCr_9 : C_X6_allows G B R (R (R h0 1) n_6) p1 p2 p3 r_9 := hwr_9.2
    have hzr_9 := s_rng hbr_9
    refine lv_if_eq (tgt := 27) hx hb dX1_allows_20 (by decide) (fun c_10 => ?_) (fun c_10 => ?_)
    · simp only [lt_I, le_I, eq_I, i_0, i_1, i_2, i_3, i_4, i_5, i_6, i_7, i_8, i_10, i_12, i_16, i_20, i_23, i_24, i_31, i_32, i_63, i_64, i_m1] at c_10
      refine lv_iconst (v := 0) hx hb dX1_allows_27 (by decide) ?_
      exact W.zret (v := 0) (ty := .boolean) hx hb hr rfl (fun t ht hW9 => ⟨⟨0, (), rfl, ⟨(by decide), (Or.inr (Or.inl ⟨c_1, n_6, hn_6, r_9, hCr_9, c_10, rfl⟩))⟩, trivial⟩, hS.F ht⟩) hS.2.2 dX1_allows_28
    · simp only [lt_I, le_I, eq_I, i_0, i_1, i_2, i_3, i_4, i_5, i_6, i_7, i_8, i_10, i_12, i_16, i_20, i_23, i_24, i_31, i_32, i_63, i_64, i_m1] at c_10
      refine lv_iconst (v := 1) hx hb dX1_allows_23 (by decide) ?_
      refine lv_goto (tgt := 28) hx hb dX1_allows_24 (by decide) ?_
      exact W.zret (v := 1) (ty := .boolean) hx hb hr rfl (fun t ht hW9 => ⟨⟨1, (), rfl, ⟨(by decide), (Or.inr (Or.inr ⟨c_1, n_6, hn_6, r_9, hCr_9, c_10, rfl⟩))⟩, trivial⟩, hS.F ht⟩) hS.2.2 dX1_allows_28
theorem gdX1_complete_0 : (decode cX1_complete 0 = .ok (.aload_n 0, 1)) ∧ (decode cX1_complete 1 = .ok (.getfield 36, 3)) ∧ (decode cX1_complete 4 = .ok (.bipush 16, 2)) ∧ (decode cX1_complete 6 = .ok (.if_icmp .ne 4, 3)) ∧ (decode cX1_complete 9 = .ok (.return_, 1)) ∧ (decode cX1_complete 10 = .ok (.aload_n 0, 1)) ∧ (decode cX1_complete 11 = .ok (.getfield 40, 3)) ∧ (decode cX1_complete 14 = .ok (.aload_n 0, 1)) ∧ (decode cX1_complete 15 = .ok (.getfield 36, 3)) ∧ (decode cX1_complete 18 = .ok (.iadd, 1)) ∧ (decode cX1_complete 19 = .ok (.bipush 16, 2)) ∧ (decode cX1_complete 21 = .ok (.irem, 1)) ∧ (decode cX1_complete 22 = .ok (.iconst 5, 1)) ∧ (decode cX1_complete 23 = .ok (.imul, 1)) ∧ (decode cX1_complete 24 = .ok (.istore 4, 2)) ∧ (decode cX1_complete 26 = .ok (.aload_n 0, 1)) := by decide +kernel
theorem dX1_complete_0 : decode cX1_complete 0 = .ok (.aload_n 0, 1) := gdX1_complete_0.1
theorem dX1_complete_1 : decode cX1_complete 1 = .ok (.getfield 36, 3) := gdX1_complete_0.2.1
theorem dX1_complete_4 : decode cX1_complete 4 = .ok (.bipush 16, 2) := gdX1_complete_0.2.2.1
theorem dX1_complete_6 : decode cX1_complete 6 = .ok (.if_icmp .ne 4, 3) := gdX1_complete_0.2.2.2.1
theorem dX1_complete_9 : decode cX1_complete 9 = .ok (.return_, 1) := gdX1_complete_0.2.2.2.2.1
theorem dX1_complete_10 : decode cX1_complete 10 = .ok (.aload_n 0, 1) := gdX1_complete_0.2.2.2.2.2.1
theorem dX1_complete_11 : decode cX1_complete 11 = .ok (.getfield 40, 3) := gdX1_complete_0.2.2.2.2.2.2.1
theorem dX1_complete_14 : decode cX1_complete 14 = .ok (.aload_n 0, 1) := gdX1_complete_0.2.2.2.2.2.2.2.1
theorem dX1_complete_15 : decode cX1_complete 15 = .ok (.getfield 36, 3) := gdX1_complete_0.2.2.2.2.2.2.2.2.1
theorem dX1_complete_18 : decode cX1_complete 18 = .ok (.iadd, 1) := gdX1_complete_0.2.2.2.2.2.2.2.2.2.1
theorem dX1_complete_19 : decode cX1_complete 19 = .ok (.bipush 16, 2) := gdX1_complete_0.2.2.2.2.2.2.2.2.2.2.1
theorem dX1_complete_21 : decode cX1_complete 21 = .ok (.irem, 1) := gdX1_complete_0.2.2.2.2.2.2.2.2.2.2.2.1
theorem dX1_complete_22 : decode cX1_complete 22 = .ok (.iconst 5, 1) := gdX1_complete_0.2.2.2.2.2.2.2.2.2.2.2.2.1
theorem dX1_complete_23 : decode cX1_complete 23 = .ok (.imul, 1) := gdX1_complete_0.2.2.2.2.2.2.2.2.2.2.2.2.2.1
theorem dX1_complete_24 : decode cX1_complete 24 = .ok (.istore 4, 2) := gdX1_complete_0.2.2.2.2.2.2.2.2.2.2.2.2.2.2.1
theorem dX1_complete_26 : decode cX1_complete 26 = .ok (.aload_n 0, 1) := gdX1_complete_0.2.2.2.2.2.2.2.2.2.2.2.2.2.2.2
theorem gdX1_complete_27 : (decode cX1_complete 27 = .ok (.getfield 21, 3)) ∧ (decode cX1_complete 30 = .ok (.iload 4, 2)) ∧ (decode cX1_complete 32 = .ok (.iload_n 1, 1)) ∧ (decode cX1_complete 33 = .ok (.iastore, 1)) ∧ (decode cX1_complete 34 = .ok (.aload_n 0, 1)) ∧ (decode cX1_complete 35 = .ok (.getfield 21, 3)) ∧ (decode cX1_complete 38 = .ok (.iload 4, 2)) ∧ (decode cX1_complete 40 = .ok (.iconst 1, 1)) ∧ (decode cX1_complete 41 = .ok (.iadd, 1)) ∧ (decode cX1_complete 42 = .ok (.aload_n 2, 1)) ∧ (decode cX1_complete 43 = .ok (.getfield 43, 3)) ∧ (decode cX1_complete 46 = .ok (.iastore, 1)) ∧ (decode cX1_complete 47 = .ok (.aload_n 0, 1)) ∧ (decode cX1_complete 48 = .ok (.getfield 21, 3)) ∧ (decode cX1_complete 51 = .ok (.iload 4, 2)) ∧ (decode cX1_complete 53 = .ok (.iconst 2, 1)) := by decide +kernel
theorem dX1_complete_27 : decode cX1_complete 27 = .ok (.getfield 21, 3) := gdX1_complete_27.1
theorem dX1_complete_30 : decode cX1_complete 30 = .ok (.iload 4, 2) := gdX1_complete_27.2.1
theorem dX1_complete_32 : decode cX1_complete 32 = .ok (.iload_n 1, 1) := gdX1_complete_27.2.2.1
theorem dX1_complete_33 : decode cX1_complete 33 = .ok (.iastore, 1) := gdX1_complete_27.2.2.2.1
theorem dX1_complete_34 : decode cX1_complete 34 = .ok (.aload_n 0, 1) := gdX1_complete_27.2.2.2.2.1
theorem dX1_complete_35 : decode cX1_complete 35 = .ok (.getfield 21, 3) := gdX1_complete_27.2.2.2.2.2.1
theorem dX1_complete_38 : decode cX1_complete 38 = .ok (.iload 4, 2) := gdX1_complete_27.2.2.2.2.2.2.1
theorem dX1_complete_40 : decode cX1_complete 40 = .ok (.iconst 1, 1) := gdX1_complete_27.2.2.2.2.2.2.2.1
theorem dX1_complete_41 : decode cX1_complete 41 = .ok (.iadd, 1) := gdX1_complete_27.2.2.2.2.2.2.2.2.1
theorem dX1_complete_42 : decode cX1_complete 42 = .ok (.aload_n 2, 1) := gdX1_complete_27.2.2.2.2.2.2.2.2.2.1
theorem dX1_complete_43 : decode cX1_complete 43 = .ok (.getfield 43, 3) := gdX1_complete_27.2.2.2.2.2.2.2.2.2.2.1
theorem dX1_complete_46 : decode cX1_complete 46 = .ok (.iastore, 1) := gdX1_complete_27.2.2.2.2.2.2.2.2.2.2.2.1
theorem dX1_complete_47 : decode cX1_complete 47 = .ok (.aload_n 0, 1) := gdX1_complete_27.2.2.2.2.2.2.2.2.2.2.2.2.1
theorem dX1_complete_48 : decode cX1_complete 48 = .ok (.getfield 21, 3) := gdX1_complete_27.2.2.2.2.2.2.2.2.2.2.2.2.2.1
theorem dX1_complete_51 : decode cX1_complete 51 = .ok (.iload 4, 2) := gdX1_complete_27.2.2.2.2.2.2.2.2.2.2.2.2.2.2.1
theorem dX1_complete_53 : decode cX1_complete 53 = .ok (.iconst 2, 1) := gdX1_complete_27.2.2.2.2.2.2.2.2.2.2.2.2.2.2.2
theorem gdX1_complete_54 : (decode cX1_complete 54 = .ok (.iadd, 1)) ∧ (decode cX1_complete 55 = .ok (.aload_n 2, 1)) ∧ (decode cX1_complete 56 = .ok (.getfield 48, 3)) ∧ (decode cX1_complete 59 = .ok (.iastore, 1)) ∧ (decode cX1_complete 60 = .ok (.aload_n 0, 1)) ∧ (decode cX1_complete 61 = .ok (.getfield 21, 3)) ∧ (decode cX1_complete 64 = .ok (.iload 4, 2)) ∧ (decode cX1_complete 66 = .ok (.iconst 3, 1)) ∧ (decode cX1_complete 67 = .ok (.iadd, 1)) ∧ (decode cX1_complete 68 = .ok (.iload_n 3, 1)) ∧ (decode cX1_complete 69 = .ok (.iastore, 1)) ∧ (decode cX1_complete 70 = .ok (.aload_n 0, 1)) ∧ (decode cX1_complete 71 = .ok (.getfield 21, 3)) ∧ (decode cX1_complete 74 = .ok (.iload 4, 2)) ∧ (decode cX1_complete 76 = .ok (.iconst 4, 1)) ∧ (decode cX1_complete 77 = .ok (.iadd, 1)) := by decide +kernel
theorem dX1_complete_54 : decode cX1_complete 54 = .ok (.iadd, 1) := gdX1_complete_54.1
theorem dX1_complete_55 : decode cX1_complete 55 = .ok (.aload_n 2, 1) := gdX1_complete_54.2.1
theorem dX1_complete_56 : decode cX1_complete 56 = .ok (.getfield 48, 3) := gdX1_complete_54.2.2.1
theorem dX1_complete_59 : decode cX1_complete 59 = .ok (.iastore, 1) := gdX1_complete_54.2.2.2.1
theorem dX1_complete_60 : decode cX1_complete 60 = .ok (.aload_n 0, 1) := gdX1_complete_54.2.2.2.2.1
theorem dX1_complete_61 : decode cX1_complete 61 = .ok (.getfield 21, 3) := gdX1_complete_54.2.2.2.2.2.1
theorem dX1_complete_64 : decode cX1_complete 64 = .ok (.iload 4, 2) := gdX1_complete_54.2.2.2.2.2.2.1
theorem dX1_complete_66 : decode cX1_complete 66 = .ok (.iconst 3, 1) := gdX1_complete_54.2.2.2.2.2.2.2.1
theorem dX1_complete_67 : decode cX1_complete 67 = .ok (.iadd, 1) := gdX1_complete_54.2.2.2.2.2.2.2.2.1
theorem dX1_complete_68 : decode cX1_complete 68 = .ok (.iload_n 3, 1) := gdX1_complete_54.2.2.2.2.2.2.2.2.2.1
theorem dX1_complete_69 : decode cX1_complete 69 = .ok (.iastore, 1) := gdX1_complete_54.2.2.2.2.2.2.2.2.2.2.1
theorem dX1_complete_70 : decode cX1_complete 70 = .ok (.aload_n 0, 1) := gdX1_complete_54.2.2.2.2.2.2.2.2.2.2.2.1
theorem dX1_complete_71 : decode cX1_complete 71 = .ok (.getfield 21, 3) := gdX1_complete_54.2.2.2.2.2.2.2.2.2.2.2.2.1
theorem dX1_complete_74 : decode cX1_complete 74 = .ok (.iload 4, 2) := gdX1_complete_54.2.2.2.2.2.2.2.2.2.2.2.2.2.1
theorem dX1_complete_76 : decode cX1_complete 76 = .ok (.iconst 4, 1) := gdX1_complete_54.2.2.2.2.2.2.2.2.2.2.2.2.2.2.1
theorem dX1_complete_77 : decode cX1_complete 77 = .ok (.iadd, 1) := gdX1_complete_54.2.2.2.2.2.2.2.2.2.2.2.2.2.2.2
theorem gdX1_complete_78 : (decode cX1_complete 78 = .ok (.aload_n 2, 1)) ∧ (decode cX1_complete 79 = .ok (.getfield 43, 3)) ∧ (decode cX1_complete 82 = .ok (.iconst 4, 1)) ∧ (decode cX1_complete 83 = .ok (.if_icmp .ne 10, 3)) ∧ (decode cX1_complete 86 = .ok (.aload_n 2, 1)) ∧ (decode cX1_complete 87 = .ok (.getfield 51, 3)) ∧ (decode cX1_complete 90 = .ok (.goto 7, 3)) ∧ (decode cX1_complete 93 = .ok (.aload_n 2, 1)) ∧ (decode cX1_complete 94 = .ok (.getfield 54, 3)) ∧ (decode cX1_complete 97 = .ok (.iastore, 1)) ∧ (decode cX1_complete 98 = .ok (.aload_n 0, 1)) ∧ (decode cX1_complete 99 = .ok (.dup, 1)) ∧ (decode cX1_complete 100 = .ok (.getfield 36, 3)) ∧ (decode cX1_complete 103 = .ok (.iconst 1, 1)) ∧ (decode cX1_complete 104 = .ok (.iadd, 1)) ∧ (decode cX1_complete 105 = .ok (.putfield 36, 3)) := by decide +kernel
theorem dX1_complete_78 : decode cX1_complete 78 = .ok (.aload_n 2, 1) := gdX1_complete_78.1
theorem dX1_complete_79 : decode cX1_complete 79 = .ok (.getfield 43, 3) := gdX1_complete_78.2.1
theorem dX1_complete_82 : decode cX1_complete 82 = .ok (.iconst 4, 1) := gdX1_complete_78.2.2.1
theorem dX1_complete_83 : decode cX1_complete 83 = .ok (.if_icmp .ne 10, 3) := gdX1_complete_78.2.2.2.1
theorem dX1_complete_86 : decode cX1_complete 86 = .ok (.aload_n 2, 1) := gdX1_complete_78.2.2.2.2.1
theorem dX1_complete_87 : decode cX1_complete 87 = .ok (.getfield 51, 3) := gdX1_complete_78.2.2.2.2.2.1
theorem dX1_complete_90 : decode cX1_complete 90 = .ok (.goto 7, 3) := gdX1_complete_78.2.2.2.2.2.2.1
theorem dX1_complete_93 : decode cX1_complete 93 = .ok (.aload_n 2, 1) := gdX1_complete_78.2.2.2.2.2.2.2.1
theorem dX1_complete_94 : decode cX1_complete 94 = .ok (.getfield 54, 3) := gdX1_complete_78.2.2.2.2.2.2.2.2.1
theorem dX1_complete_97 : decode cX1_complete 97 = .ok (.iastore, 1) := gdX1_complete_78.2.2.2.2.2.2.2.2.2.1
theorem dX1_complete_98 : decode cX1_complete 98 = .ok (.aload_n 0, 1) := gdX1_complete_78.2.2.2.2.2.2.2.2.2.2.1
theorem dX1_complete_99 : decode cX1_complete 99 = .ok (.dup, 1) := gdX1_complete_78.2.2.2.2.2.2.2.2.2.2.2.1
theorem dX1_complete_100 : decode cX1_complete 100 = .ok (.getfield 36, 3) := gdX1_complete_78.2.2.2.2.2.2.2.2.2.2.2.2.1
theorem dX1_complete_103 : decode cX1_complete 103 = .ok (.iconst 1, 1) := gdX1_complete_78.2.2.2.2.2.2.2.2.2.2.2.2.2.1
theorem dX1_complete_104 : decode cX1_complete 104 = .ok (.iadd, 1) := gdX1_complete_78.2.2.2.2.2.2.2.2.2.2.2.2.2.2.1
theorem dX1_complete_105 : decode cX1_complete 105 = .ok (.putfield 36, 3) := gdX1_complete_78.2.2.2.2.2.2.2.2.2.2.2.2.2.2.2
theorem dX1_complete_108 : decode cX1_complete 108 = .ok (.return_, 1) := by decide +kernel
set_option maxHeartbeats 8000000 in
set_option maxRecDepth 100000 in
theorem x_X1_complete (l : Launch) (E : EE) (z0 : Nat) (G : Nat → Nat) (hGz : ∀ q, G q ≠ 0 → z0 ≤ q) (B : AA) (R : RR) (hW : TW G B R) (h0 : Nat) (p0 : Int32) (p1 : Nat) (p2 : Int32) (hG : G h0 = 5) (hG1 : G p1 = 13) : Met l yX1_complete [Cond.code yX1_complete cX1_complete 5 none] ({ frames := 0, cells := 0, slots := 0, locals := 0 } : Room) (va_Pc [.ref h0, .int p0, .ref p1, .int p2] (fun U => TX E G B R U.heap ∧ KS E z0 U)) (va_Qv (fun (u : AA) => (TW G u R) ∧ (Fr G ([5, 15] : List Nat) B u) ∧ (C_X1_complete G B R h0 p0 p1 p2 u)) (fun u t => TX E G u R t.heap) (fun q : Nat => G q ∈ ([5, 15] : List Nat))) 0 0 (fun q : Nat => G q ∈ ([5, 15] : List Nat)) := by
  refine Met.ofW (cc := cX1_complete) (maxL := 5) (ret := none) (by decide) rfl ?_
  intro p e s m args below meth c s₁ B9 hml hv
  obtain ⟨rfl, hT, hK⟩ := hv
  have hx := B9.exec
  have hb := B9.bytes
  have hr := B9.returns
  have hts : ∀ w ∈ TS, w.before ([.ref h0, .int p0, .ref p1, .int p2] : List Value).toArray s = true := fun w hw => hK.2.1 w hw _
  have hown : s.vm.findClass RX1 = some m.cls := findClass_of_methodNamed B9.named
  have hlocks := B9.notSynchronized
  have hS : va_S (fun q : Nat => G q ∈ ([5, 15] : List Nat)) s.heap s.heap [] := va_S.rf
  have hAz : ∀ q, (fun q : Nat => G q ∈ ([5, 15] : List Nat)) q → z0 ≤ q := zL hGz (by decide)
  have hW_0 := hW
  have hl := lv_entry ([.ref h0, .int p0, .ref p1, .int p2]) (n := 5) (Nat.le_of_ble_eq_true rfl)
  rw [lg_entry_eq]
  generalize (lg_sl ([.ref h0, .int p0, .ref p1, .int p2]) ++ List.replicate (5 - (lg_sl ([.ref h0, .int p0, .ref p1, .int p2])).length) Slot.unset).toArray = ls at hl ⊢
  have hl : lv_has ls 5 [(0, .ref h0), (1, .int p0), (2, .ref p1), (3, .int p2)] := hl
  refine lv_aload_n hx hb dX1_complete_0 rfl (lv_at hl 0 rfl) ?_
  have ha_1 := tx_5 hT hG
  have hb_2 := (tw_5 hW_0 hG).2.2.2.2
  refine va_get (D := DG E) (ci := 1) (v := .int (B h0 4)) (C := RX1) (T := TX1) (N := 5) hx hb hts iw_X1 hown hK.1 (va_one ha_1) 0 rfl rfl 4 (by decide) (hts _ fl_X1_36) (fun _ h9 => h9) rfl dX1_complete_1 ?_
  refine lv_bipush (v := 16) hx hb dX1_complete_4 (by decide) ?_
  refine lv_icmp_ne (tgt := 10) hx hb dX1_complete_6 (by decide) (fun c_3 => ?_) (fun c_3 => ?_)
  · simp only [lt_I, le_I, eq_I, i_0, i_1, i_2, i_3, i_4, i_5, i_6, i_7, i_8, i_10, i_12, i_16, i_20, i_23, i_24, i_31, i_32, i_63, i_64, i_m1] at c_3
    refine lv_aload_n hx hb dX1_complete_10 rfl (lv_at hl 0 rfl) ?_
    have hb_4 := (tw_5 hW_0 hG).2.2.2.1
    refine va_get (D := DG E) (ci := 1) (v := .int (B h0 3)) (C := RX1) (T := TX1) (N := 5) hx hb hts iw_X1 hown hK.1 (va_one ha_1) 0 rfl rfl 3 (by decide) (hts _ fl_X1_40) (fun _ h9 => h9) rfl dX1_complete_11 ?_
    refine lv_aload_n hx hb dX1_complete_14 rfl (lv_at hl 0 rfl) ?_
    refine va_get (D := DG E) (ci := 1) (v := .int (B h0 4)) (C := RX1) (T := TX1) (N := 5) hx hb hts iw_X1 hown hK.1 (va_one ha_1) 0 rfl rfl 4 (by decide) (hts _ fl_X1_36) (fun _ h9 => h9) rfl dX1_complete_15 ?_
    refine lv_iadd hx hb dX1_complete_18 ?_
    refine lv_topi (fun x_5 ex_5 => ?_)
    have fx_5 : x_5.toInt = (B h0 3).toInt + (B h0 4).toInt := by have h9 := s_add (x := (B h0 3)) (y := (B h0 4)) (by omega) (by omega); rw [ex_5]; exact h9
    refine lv_bipush (v := 16) hx hb dX1_complete_19 (by decide) ?_
    refine lv_irem hx hb dX1_complete_21 (by decide) ?_
    refine lv_topi (fun x_6 ex_6 => ?_)
    have fx_6 : x_6.toInt = x_5.toInt % 16 := by have h9 := s_rem (x := x_5) 16 (by decide) (by decide) (by omega); rw [ex_6]; exact h9
    refine lv_iconst (v := 5) hx hb dX1_complete_22 (by decide) ?_
    refine lv_imul hx hb dX1_complete_23 ?_
    refine lv_topi (fun x_7 ex_7 => ?_)
    have fx_7 : x_7.toInt = x_6.toInt * 5 := by rw [ex_7]; exact s_mulR i_5 (by omega) (by omega)
    refine lv_istore (lv' := [(4, .int x_7), (0, .ref h0), (1, .int p0), (2, .ref p1), (3, .int p2)]) hx hb dX1_complete_24 hl (by decide) rfl (fun ls hl => ?_)
    refine lv_aload_n hx hb dX1_complete_26 rfl (lv_at hl 1 rfl) ?_
    have hg_8 : G (R h0 2) = 15 := (tw_5 hW hG).2.2.1
    refine va_get (D := DG E) (ci := 1) (v := .ref (R h0 2)) (C := RX1) (T := TX1) (N := 5) hx hb hts iw_X1 hown hK.1 (va_one ha_1) 0 rfl rfl 2 (by decide) (hts _ fl_X1_21) (fun _ h9 => h9) rfl dX1_complete_27 ?_
    refine lv_iload hx hb dX1_complete_30 (lv_at hl 0 rfl) ?_
    refine lv_iload_n hx hb dX1_complete_32 rfl (lv_at hl 2 rfl) ?_
    have ha_9 := tx_15 hT hg_8
    have hi_10 : vp_in x_7 80 := vp_in_iff.mpr (by omega)
    obtain ⟨n_11, hn_11, en_11⟩ := x_nat (x := x_7) (by omega)
    refine rr_iast (D := DG E) hx hb hK.1 0 ha_9 hS (by show G (R h0 2) ∈ ([5, 15] : List Nat); rw [hg_8]; decide) rfl hi_10 dX1_complete_33 (fun H locs hn ho hz hS => ?_)
    rw [en_11] at hn
    obtain ⟨B_12, eB_12⟩ : ∃ z : AA, z = uA B (R h0 2) (upd (B (R h0 2)) n_11 p0) := ⟨_, rfl⟩
    have sB_12 : B_12 (R h0 2) n_11 = p0 := by rw [eB_12, uA_s]; exact upd_s
    have nB_12 : ∀ k, k ≠ n_11 → B_12 (R h0 2) k = B (R h0 2) k := fun k hk => by rw [eB_12, uA_s]; exact upd_n hk
    have fB_12 : ∀ c, G c ≠ 15 → B_12 c = B c := fun c hc => by rw [eB_12]; exact uA_n (fun e => hc (by rw [e]; exact hg_8))
    have hT : TX E G B_12 R H := by rw [eB_12]; exact hT.w (by rw [hg_8]; exact hn) ho
    have hWB_12 : TW G B_12 R := by rw [eB_12]; exact hW_0.w (by rw [hg_8]; exact trivial)
    have hW := hWB_12
    refine lv_aload_n hx hb dX1_complete_34 rfl (lv_at hl 1 rfl) ?_
    have ha_13 := tx_5 hT hG
    refine va_get (D := DG E) (ci := 1) (v := .ref (R h0 2)) (C := RX1) (T := TX1) (N := 5) hx hb hts iw_X1 hown hK.1 (va_one ha_13) 0 rfl rfl 2 (by decide) (hts _ fl_X1_21) (fun _ h9 => h9) rfl dX1_complete_35 ?_
    refine lv_iload hx hb dX1_complete_38 (lv_at hl 0 rfl) ?_
    refine lv_iconst (v := 1) hx hb dX1_complete_40 (by decide) ?_
    refine lv_iadd hx hb dX1_complete_41 ?_
    refine lv_topi (fun x_14 ex_14 => ?_)
    have fx_14 : x_14.toInt = x_7.toInt + 1 := by have h9 := s_add (x := x_7) (y := 1) (by rw [i_1]; omega) (by rw [i_1]; omega); rw [i_1] at h9; rw [ex_14]; exact h9
    refine lv_aload_n hx hb dX1_complete_42 rfl (lv_at hl 3 rfl) ?_
    have ha_15 := tx_13 hT hG1
    have l_16 : B_12 p1 0 = (B p1 0) := (congrFun (fB_12 p1 (by rw [hG1]; decide)) 0)
    refine va_get (D := DG E) (ci := 4) (v := .int (B_12 p1 0)) (C := RX4) (T := TX4) (N := 10) hx hb hts iw_X4 hown hK.1 (va_one ha_15) 0 rfl rfl 0 (by decide) (hts _ fl_X1_43) (fun _ h9 => h9) rfl dX1_complete_43 ?_
    refine W.eq (g2 := F0 m 46 ls [.int (B p1 0), .int x_14, .ref (R h0 2)]) (by rw [l_16]) ?_
    have ha_17 := tx_15 hT hg_8
    have hi_18 : vp_in x_14 80 := vp_in_iff.mpr (by omega)
    obtain ⟨n_19, hn_19, en_19⟩ := x_nat (x := x_14) (by omega)
    refine rr_iast (D := DG E) hx hb hK.1 0 ha_17 hS (by show G (R h0 2) ∈ ([5, 15] : List Nat); rw [hg_8]; decide) rfl hi_18 dX1_complete_46 (fun H locs hn ho hz hS => ?_)
    rw [en_19] at hn
    obtain ⟨B_20, eB_20⟩ : ∃ z : AA, z = uA B_12 (R h0 2) (upd (B_12 (R h0 2)) n_19 (B p1 0)) := ⟨_, rfl⟩
    have sB_20 : B_20 (R h0 2) n_19 = (B p1 0) := by rw [eB_20, uA_s]; exact upd_s
    have nB_20 : ∀ k, k ≠ n_19 → B_20 (R h0 2) k = B_12 (R h0 2) k := fun k hk => by rw [eB_20, uA_s]; exact upd_n hk
    have fB_20 : ∀ c, G c ≠ 15 → B_20 c = B_12 c := fun c hc => by rw [eB_20]; exact uA_n (fun e => hc (by rw [e]; exact hg_8))
    have hT : TX E G B_20 R H := by rw [eB_20]; exact hT.w (by rw [hg_8]; exact hn) ho
    have hWB_20 : TW G B_20 R := by rw [eB_20]; exact hWB_12.w (by rw [hg_8]; exact trivial)
    have hW := hWB_20
    refine lv_aload_n hx hb dX1_complete_47 rfl (lv_at hl 1 rfl) ?_
    have ha_21 := tx_5 hT hG
    refine va_get (D := DG E) (ci := 1) (v := .ref (R h0 2)) (C := RX1) (T := TX1) (N := 5) hx hb hts iw_X1 hown hK.1 (va_one ha_21) 0 rfl rfl 2 (by decide) (hts _ fl_X1_21) (fun _ h9 => h9) rfl dX1_complete_48 ?_
    refine lv_iload hx hb dX1_complete_51 (lv_at hl 0 rfl) ?_
    refine lv_iconst (v := 2) hx hb dX1_complete_53 (by decide) ?_
    refine lv_iadd hx hb dX1_complete_54 ?_
    refine lv_topi (fun x_22 ex_22 => ?_)
    have fx_22 : x_22.toInt = x_7.toInt + 2 := by have h9 := s_add (x := x_7) (y := 2) (by rw [i_2]; omega) (by rw [i_2]; omega); rw [i_2] at h9; rw [ex_22]; exact h9
    refine lv_aload_n hx hb dX1_complete_55 rfl (lv_at hl 3 rfl) ?_
    have ha_23 := tx_13 hT hG1
    have l_24 : B_20 p1 1 = (B p1 1) := ((congrFun (fB_20 p1 (by rw [hG1]; decide)) 1)).trans ((congrFun (fB_12 p1 (by rw [hG1]; decide)) 1))
    refine va_get (D := DG E) (ci := 4) (v := .int (B_20 p1 1)) (C := RX4) (T := TX4) (N := 10) hx hb hts iw_X4 hown hK.1 (va_one ha_23) 0 rfl rfl 1 (by decide) (hts _ fl_X1_48) (fun _ h9 => h9) rfl dX1_complete_56 ?_
    refine W.eq (g2 := F0 m 59 ls [.int (B p1 1), .int x_22, .ref (R h0 2)]) (by rw [l_24]) ?_
    have ha_25 := tx_15 hT hg_8
    have hi_26 : vp_in x_22 80 := vp_in_iff.mpr (by omega)
    obtain ⟨n_27, hn_27, en_27⟩ := x_nat (x := x_22) (by omega)
    refine rr_iast (D := DG E) hx hb hK.1 0 ha_25 hS (by show G (R h0 2) ∈ ([5, 15] : List Nat); rw [hg_8]; decide) rfl hi_26 dX1_complete_59 (fun H locs hn ho hz hS => ?_)
    rw [en_27] at hn
    obtain ⟨B_28, eB_28⟩ : ∃ z : AA, z = uA B_20 (R h0 2) (upd (B_20 (R h0 2)) n_27 (B p1 1)) := ⟨_, rfl⟩
    have sB_28 : B_28 (R h0 2) n_27 = (B p1 1) := by rw [eB_28, uA_s]; exact upd_s
    have nB_28 : ∀ k, k ≠ n_27 → B_28 (R h0 2) k = B_20 (R h0 2) k := fun k hk => by rw [eB_28, uA_s]; exact upd_n hk
    have fB_28 : ∀ c, G c ≠ 15 → B_28 c = B_20 c := fun c hc => by rw [eB_28]; exact uA_n (fun e => hc (by rw [e]; exact hg_8))
    have hT : TX E G B_28 R H := by rw [eB_28]; exact hT.w (by rw [hg_8]; exact hn) ho
    have hWB_28 : TW G B_28 R := by rw [eB_28]; exact hWB_20.w (by rw [hg_8]; exact trivial)
    have hW := hWB_28
    refine lv_aload_n hx hb dX1_complete_60 rfl (lv_at hl 1 rfl) ?_
    have ha_29 := tx_5 hT hG
    refine va_get (D := DG E) (ci := 1) (v := .ref (R h0 2)) (C := RX1) (T := TX1) (N := 5) hx hb hts iw_X1 hown hK.1 (va_one ha_29) 0 rfl rfl 2 (by decide) (hts _ fl_X1_21) (fun _ h9 => h9) rfl dX1_complete_61 ?_
    refine lv_iload hx hb dX1_complete_64 (lv_at hl 0 rfl) ?_
    refine lv_iconst (v := 3) hx hb dX1_complete_66 (by decide) ?_
    refine lv_iadd hx hb dX1_complete_67 ?_
    refine lv_topi (fun x_30 ex_30 => ?_)
    have fx_30 : x_30.toInt = x_7.toInt + 3 := by have h9 := s_add (x := x_7) (y := 3) (by rw [i_3]; omega) (by rw [i_3]; omega); rw [i_3] at h9; rw [ex_30]; exact h9
    refine lv_iload_n hx hb dX1_complete_68 rfl (lv_at hl 4 rfl) ?_
    have ha_31 := tx_15 hT hg_8
    have hi_32 : vp_in x_30 80 := vp_in_iff.mpr (by omega)
    obtain ⟨n_33, hn_33, en_33⟩ := x_nat (x := x_30) (by omega)
    refine rr_iast (D := DG E) hx hb hK.1 0 ha_31 hS (by show G (R h0 2) ∈ ([5, 15] : List Nat); rw [hg_8]; decide) rfl hi_32 dX1_complete_69 (fun H locs hn ho hz hS => ?_)
    rw [en_33] at hn
    obtain ⟨B_34, eB_34⟩ : ∃ z : AA, z = uA B_28 (R h0 2) (upd (B_28 (R h0 2)) n_33 p2) := ⟨_, rfl⟩
    have sB_34 : B_34 (R h0 2) n_33 = p2 := by rw [eB_34, uA_s]; exact upd_s
    have nB_34 : ∀ k, k ≠ n_33 → B_34 (R h0 2) k = B_28 (R h0 2) k := fun k hk => by rw [eB_34, uA_s]; exact upd_n hk
    have fB_34 : ∀ c, G c ≠ 15 → B_34 c = B_28 c := fun c hc => by rw [eB_34]; exact uA_n (fun e => hc (by rw [e]; exact hg_8))
    have hT : TX E G B_34 R H := by rw [eB_34]; exact hT.w (by rw [hg_8]; exact hn) ho
    have hWB_34 : TW G B_34 R := by rw [eB_34]; exact hWB_28.w (by rw [hg_8]; exact trivial)
    have hW := hWB_34
    refine lv_aload_n hx hb dX1_complete_70 rfl (lv_at hl 1 rfl) ?_
    have ha_35 := tx_5 hT hG
    refine va_get (D := DG E) (ci := 1) (v := .ref (R h0 2)) (C := RX1) (T := TX1) (N := 5) hx hb hts iw_X1 hown hK.1 (va_one ha_35) 0 rfl rfl 2 (by decide) (hts _ fl_X1_21) (fun _ h9 => h9) rfl dX1_complete_71 ?_
    refine lv_iload hx hb dX1_complete_74 (lv_at hl 0 rfl) ?_
    refine lv_iconst (v := 4) hx hb dX1_complete_76 (by decide) ?_
    refine lv_iadd hx hb dX1_complete_77 ?_
    refine lv_topi (fun x_36 ex_36 => ?_)
    have fx_36 : x_36.toInt = x_7.toInt + 4 := by have h9 := s_add (x := x_7) (y := 4) (by rw [i_4]; omega) (by rw [i_4]; omega); rw [i_4] at h9; rw [ex_36]; exact h9
    refine lv_aload_n hx hb dX1_complete_78 rfl (lv_at hl 3 rfl) ?_
    have ha_37 := tx_13 hT hG1
    have l_38 : B_34 p1 0 = (B p1 0) := ((congrFun (fB_34 p1 (by rw [hG1]; decide)) 0)).trans (((congrFun (fB_28 p1 (by rw [hG1]; decide)) 0)).trans (((congrFun (fB_20 p1 (by rw [hG1]; decide)) 0)).trans ((congrFun (fB_12 p1 (by rw [hG1]; decide)) 0))))
    refine va_get (D := DG E) (ci := 4) (v := .int (B_34 p1 0)) (C := RX4) (T := TX4) (N := 10) hx hb hts iw_X4 hown hK.1 (va_one ha_37) 0 rfl rfl 0 (by decide) (hts _ fl_X1_43) (fun _ h9 => h9) rfl dX1_complete_79 ?_
    refine W.eq (g2 := F0 m 82 ls [.int (B p1 0), .int x_36, .ref (R h0 2)]) (by rw [l_38]) ?_
    refine lv_iconst (v := 4) hx hb dX1_complete_82 (by decide) ?_
    refine lv_icmp_ne (tgt := 93) hx hb dX1_complete_83 (by decide) (fun c_39 => ?_) (fun c_39 => ?_)
    · simp only [lt_I, le_I, eq_I, i_0, i_1, i_2, i_3, i_4, i_5, i_6, i_7, i_8, i_10, i_12, i_16, i_20, i_23, i_24, i_31, i_32, i_63, i_64, i_m1] at c_39
      refine lv_aload_n hx hb dX1_complete_93 rfl (lv_at hl 3 rfl) ?_
      have l_40 : B_34 p1 3 = (B p1 3) := ((congrFun (fB_34 p1 (by rw [hG1]; decide)) 3)).trans (((congrFun (fB_28 p1 (by rw [hG1]; decide)) 3)).trans (((congrFun (fB_20 p1 (by rw [hG1]; decide)) 3)).trans ((congrFun (fB_12 p1 (by rw [hG1]; decide)) 3))))
      have hb_41 := (tw_13 hW_0 hG1)
      refine va_get (D := DG E) (ci := 4) (v := .int (B_34 p1 3)) (C := RX4) (T := TX4) (N := 10) hx hb hts iw_X4 hown hK.1 (va_one ha_37) 0 rfl rfl 3 (by decide) (hts _ fl_X1_54) (fun _ h9 => h9) rfl dX1_complete_94 ?_
      refine W.eq (g2 := F0 m 97 ls [.int (B p1 3), .int x_36, .ref (R h0 2)]) (by rw [l_40]) ?_
      have ha_42 := tx_15 hT hg_8
      have hi_43 : vp_in x_36 80 := vp_in_iff.mpr (by omega)
      obtain ⟨n_44, hn_44, en_44⟩ := x_nat (x := x_36) (by omega)
      refine rr_iast (D := DG E) hx hb hK.1 0 ha_42 hS (by show G (R h0 2) ∈ ([5, 15] : List Nat); rw [hg_8]; decide) rfl hi_43 dX1_complete_97 (fun H locs hn ho hz hS => ?_)
      rw [en_44] at hn
      obtain ⟨B_45, eB_45⟩ : ∃ z : AA, z = uA B_34 (R h0 2) (upd (B_34 (R h0 2)) n_44 (B p1 3)) := ⟨_, rfl⟩
      have sB_45 : B_45 (R h0 2) n_44 = (B p1 3) := by rw [eB_45, uA_s]; exact upd_s
      have nB_45 : ∀ k, k ≠ n_44 → B_45 (R h0 2) k = B_34 (R h0 2) k := fun k hk => by rw [eB_45, uA_s]; exact upd_n hk
      have fB_45 : ∀ c, G c ≠ 15 → B_45 c = B_34 c := fun c hc => by rw [eB_45]; exact uA_n (fun e => hc (by rw [e]; exact hg_8))
      have hT : TX E G B_45 R H := by rw [eB_45]; exact hT.w (by rw [hg_8]; exact hn) ho
      have hWB_45 : TW G B_45 R := by rw [eB_45]; exact hWB_34.w (by rw [hg_8]; exact trivial)
      have hW := hWB_45
      refine lv_aload_n hx hb dX1_complete_98 rfl (lv_at hl 1 rfl) ?_
      refine lv_dup hx hb dX1_complete_99 rfl ?_
      have ha_46 := tx_5 hT hG
      have l_47 : B_45 h0 4 = (B h0 4) := ((congrFun (fB_45 h0 (by rw [hG]; decide)) 4)).trans (((congrFun (fB_34 h0 (by rw [hG]; decide)) 4)).trans (((congrFun (fB_28 h0 (by rw [hG]; decide)) 4)).trans (((congrFun (fB_20 h0 (by rw [hG]; decide)) 4)).trans ((congrFun (fB_12 h0 (by rw [hG]; decide)) 4)))))
      refine va_get (D := DG E) (ci := 1) (v := .int (B_45 h0 4)) (C := RX1) (T := TX1) (N := 5) hx hb hts iw_X1 hown hK.1 (va_one ha_46) 0 rfl rfl 4 (by decide) (hts _ fl_X1_36) (fun _ h9 => h9) rfl dX1_complete_100 ?_
      refine W.eq (g2 := F0 m 103 ls [.int (B h0 4), .ref h0]) (by rw [l_47]) ?_
      refine lv_iconst (v := 1) hx hb dX1_complete_103 (by decide) ?_
      refine lv_iadd hx hb dX1_complete_104 ?_
      refine lv_topi (fun x_48 ex_48 => ?_)
      have fx_48 : x_48.toInt = (B h0 4).toInt + 1 := by have h9 := s_add (x := (B h0 4)) (y := 1) (by rw [i_1]; omega) (by rw [i_1]; omega); rw [i_1] at h9; rw [ex_48]; exact h9
      have h9_49 := tw_5 hWB_45 hG
      refine rr_put (D := DG E) (ci := 1) (v := .int x_48) (ty := .int) (C := RX1) (T := TX1) (N := 5) hx hb hts iw_X1 tyX1 tyX1_ok nmX1 hown hK.1 ha_46 hS (by show G h0 ∈ ([5, 15] : List Nat); rw [hG]; decide) rfl 4 (by decide) (hts _ fl_X1_36) (fun _ h9 => h9) rfl (by decide +kernel) rfl rfl (Nat.le_of_ble_eq_true rfl) dX1_complete_105 (fun H locs hn ho hz hS => ?_)
      obtain ⟨B_50, eB_50⟩ : ∃ z : AA, z = uA B_45 h0 (upd (B_45 h0) 4 x_48) := ⟨_, rfl⟩
      have sB_50 : B_50 h0 4 = x_48 := by rw [eB_50, uA_s]; exact upd_s
      have nB_50 : ∀ k, k ≠ 4 → B_50 h0 k = B_45 h0 k := fun k hk => by rw [eB_50, uA_s]; exact upd_n hk
      have fB_50 : ∀ c, G c ≠ 5 → B_50 c = B_45 c := fun c hc => by rw [eB_50]; exact uA_n (fun e => hc (by rw [e]; exact hG))
      have hT : TX E G B_50 R H := by rw [eB_50]; exact hT.w (by rw [hG]; exact hn) ho
      have hWB_50 : TW G B_50 R := by rw [eB_50]; exact hWB_45.w (by rw [hG]; exact ⟨h9_49.1, h9_49.2.1, h9_49.2.2.1, h9_49.2.2.2.1, (show 0 ≤ (x_48 : Int32).toInt ∧ (x_48 : Int32).toInt ≤ 16 from by omega)⟩)
      have hW := hWB_50
      exact W.vret hx hb hr (fun t ht hW9 => ⟨⟨B_50, rfl, ⟨hW, (Fr.w (Fr.w (Fr.w (Fr.w (Fr.w (Fr.w Fr.rf hg_8 (by decide) eB_12) hg_8 (by decide) eB_20) hg_8 (by decide) eB_28) hg_8 (by decide) eB_34) hg_8 (by decide) eB_45) hG (by decide) eB_50), (Or.inl ⟨c_3, x_5, ex_5, fx_5, x_6, ex_6, fx_6, x_7, ex_7, fx_7, n_11, hn_11, B_12, eB_12, x_14, ex_14, fx_14, n_19, hn_19, B_20, eB_20, x_22, ex_22, fx_22, n_27, hn_27, B_28, eB_28, x_30, ex_30, fx_30, n_33, hn_33, B_34, eB_34, x_36, ex_36, fx_36, c_39, n_44, hn_44, B_45, eB_45, x_48, ex_48, fx_48, B_50, eB_50, rfl⟩)⟩, (by show TX E G B_50 R t.heap; rw [ht]; exact hT)⟩, hS.F ht⟩) hS.2.2 dX1_complete_108
    · simp only [lt_I, le_I, eq_I, i_0, i_1, i_2, i_3, i_4, i_5, i_6, i_7, i_8, i_10, i_12, i_16, i_20, i_23, i_24, i_31, i_32, i_63, i_64, i_m1] at c_39
      refine lv_aload_n hx hb dX1_complete_86 rfl (lv_at hl 3 rfl) ?_
      have l_51 : B_34 p1 9 = (B p1 9) := ((congrFun (fB_34 p1 (by rw [hG1]; decide)) 9)).trans (((congrFun (fB_28 p1 (by rw [hG1]; decide)) 9)).trans (((congrFun (fB_20 p1 (by rw [hG1]; decide)) 9)).trans ((congrFun (fB_12 p1 (by rw [hG1]; decide)) 9))))
      refine va_get (D := DG E) (ci := 4) (v := .int (B_34 p1 9)) (C := RX4) (T := TX4) (N := 10) hx hb hts iw_X4 hown hK.1 (va_one ha_37) 0 rfl rfl 9 (by decide) (hts _ fl_X1_51) (fun _ h9 => h9) rfl dX1_complete_87 ?_
      refine W.eq (g2 := F0 m 90 ls [.int (B p1 9), .int x_36, .ref (R h0 2)]) (by rw [l_51]) ?_
      refine lv_goto (tgt := 97) hx hb dX1_complete_90 (by decide) ?_
      have ha_52 := tx_15 hT hg_8
      have hi_53 : vp_in x_36 80 := vp_in_iff.mpr (by omega)
      obtain ⟨n_54, hn_54, en_54⟩ := x_nat (x := x_36) (by omega)
      refine rr_iast (D := DG E) hx hb hK.1 0 ha_52 hS (by show G (R h0 2) ∈ ([5, 15] : List Nat); rw [hg_8]; decide) rfl hi_53 dX1_complete_97 (fun H locs hn ho hz hS => ?_)
      rw [en_54] at hn
      obtain ⟨B_55, eB_55⟩ : ∃ z : AA, z = uA B_34 (R h0 2) (upd (B_34 (R h0 2)) n_54 (B p1 9)) := ⟨_, rfl⟩
      have sB_55 : B_55 (R h0 2) n_54 = (B p1 9) := by rw [eB_55, uA_s]; exact upd_s
      have nB_55 : ∀ k, k ≠ n_54 → B_55 (R h0 2) k = B_34 (R h0 2) k := fun k hk => by rw [eB_55, uA_s]; exact upd_n hk
      have fB_55 : ∀ c, G c ≠ 15 → B_55 c = B_34 c := fun c hc => by rw [eB_55]; exact uA_n (fun e => hc (by rw [e]; exact hg_8))
      have hT : TX E G B_55 R H := by rw [eB_55]; exact hT.w (by rw [hg_8]; exact hn) ho
      have hWB_55 : TW G B_55 R := by rw [eB_55]; exact hWB_34.w (by rw [hg_8]; exact trivial)
      have hW := hWB_55
      refine lv_aload_n hx hb dX1_complete_98 rfl (lv_at hl 1 rfl) ?_
      refine lv_dup hx hb dX1_complete_99 rfl ?_
      have ha_56 := tx_5 hT hG
      have l_57 : B_55 h0 4 = (B h0 4) := ((congrFun (fB_55 h0 (by rw [hG]; decide)) 4)).trans (((congrFun (fB_34 h0 (by rw [hG]; decide)) 4)).trans (((congrFun (fB_28 h0 (by rw [hG]; decide)) 4)).trans (((congrFun (fB_20 h0 (by rw [hG]; decide)) 4)).trans ((congrFun (fB_12 h0 (by rw [hG]; decide)) 4)))))
      refine va_get (D := DG E) (ci := 1) (v := .int (B_55 h0 4)) (C := RX1) (T := TX1) (N := 5) hx hb hts iw_X1 hown hK.1 (va_one ha_56) 0 rfl rfl 4 (by decide) (hts _ fl_X1_36) (fun _ h9 => h9) rfl dX1_complete_100 ?_
      refine W.eq (g2 := F0 m 103 ls [.int (B h0 4), .ref h0]) (by rw [l_57]) ?_
      refine lv_iconst (v := 1) hx hb dX1_complete_103 (by decide) ?_
      refine lv_iadd hx hb dX1_complete_104 ?_
      refine lv_topi (fun x_58 ex_58 => ?_)
      have fx_58 : x_58.toInt = (B h0 4).toInt + 1 := by have h9 := s_add (x := (B h0 4)) (y := 1) (by rw [i_1]; omega) (by rw [i_1]; omega); rw [i_1] at h9; rw [ex_58]; exact h9
      have h9_59 := tw_5 hWB_55 hG
      refine rr_put (D := DG E) (ci := 1) (v := .int x_58) (ty := .int) (C := RX1) (T := TX1) (N := 5) hx hb hts iw_X1 tyX1 tyX1_ok nmX1 hown hK.1 ha_56 hS (by show G h0 ∈ ([5, 15] : List Nat); rw [hG]; decide) rfl 4 (by decide) (hts _ fl_X1_36) (fun _ h9 => h9) rfl (by decide +kernel) rfl rfl (Nat.le_of_ble_eq_true rfl) dX1_complete_105 (fun H locs hn ho hz hS => ?_)
      obtain ⟨B_60, eB_60⟩ : ∃ z : AA, z = uA B_55 h0 (upd (B_55 h0) 4 x_58) := ⟨_, rfl⟩
      have sB_60 : B_60 h0 4 = x_58 := by rw [eB_60, uA_s]; exact upd_s
      have nB_60 : ∀ k, k ≠ 4 → B_60 h0 k = B_55 h0 k := fun k hk => by rw [eB_60, uA_s]; exact upd_n hk
      have fB_60 : ∀ c, G c ≠ 5 → B_60 c = B_55 c := fun c hc => by rw [eB_60]; exact uA_n (fun e => hc (by rw [e]; exact hG))
      have hT : TX E G B_60 R H := by rw [eB_60]; exact hT.w (by rw [hG]; exact hn) ho
      have hWB_60 : TW G B_60 R := by rw [eB_60]; exact hWB_55.w (by rw [hG]; exact ⟨h9_59.1, h9_59.2.1, h9_59.2.2.1, h9_59.2.2.2.1, (show 0 ≤ (x_58 : Int32).toInt ∧ (x_58 : Int32).toInt ≤ 16 from by omega)⟩)
      have hW := hWB_60
      exact W.vret hx hb hr (fun t ht hW9 => ⟨⟨B_60, rfl, ⟨hW, (Fr.w (Fr.w (Fr.w (Fr.w (Fr.w (Fr.w Fr.rf hg_8 (by decide) eB_12) hg_8 (by decide) eB_20) hg_8 (by decide) eB_28) hg_8 (by decide) eB_34) hg_8 (by decide) eB_55) hG (by decide) eB_60), (Or.inr (Or.inl ⟨c_3, x_5, ex_5, fx_5, x_6, ex_6, fx_6, x_7, ex_7, fx_7, n_11, hn_11, B_12, eB_12, x_14, ex_14, fx_14, n_19, hn_19, B_20, eB_20, x_22, ex_22, fx_22, n_27, hn_27, B_28, eB_28, x_30, ex_30, fx_30, n_33, hn_33, B_34, eB_34, x_36, ex_36, fx_36, c_39, n_54, hn_54, B_55, eB_55, x_58, ex_58, fx_58, B_60, eB_60, rfl⟩))⟩, (by show TX E G B_60 R t.heap; rw [ht]; exact hT)⟩, hS.F ht⟩) hS.2.2 dX1_complete_108
  · simp only [lt_I, le_I, eq_I, i_0, i_1, i_2, i_3, i_4, i_5, i_6, i_7, i_8, i_10, i_12, i_16, i_20, i_23, i_24, i_31, i_32, i_63, i_64, i_m1] at c_3
    exact W.vret hx hb hr (fun t ht hW9 => ⟨⟨B, rfl, ⟨hW, Fr.rf, (Or.inr (Or.inr ⟨c_3, rfl⟩))⟩, (by show TX E G B R t.heap; rw [ht]; exact hT)⟩, hS.F ht⟩) hS.2.2 dX1_complete_9
theorem dX1_tellFirst_0 : decode cX1_tellFirst 0 = .ok (.aload_n 0, 1) := by decide +kernel
theorem dX1_tellFirst_1 : decode cX1_tellFirst 1 = .ok (.getfield 21, 3) := by decide +kernel
theorem dX1_tellFirst_4 : decode cX1_tellFirst 4 = .ok (.aload_n 0, 1) := by decide +kernel
theorem dX1_tellFirst_5 : decode cX1_tellFirst 5 = .ok (.getfield 40, 3) := by decide +kernel
theorem dX1_tellFirst_8 : decode cX1_tellFirst 8 = .ok (.iconst 5, 1) := by decide +kernel
theorem dX1_tellFirst_9 : decode cX1_tellFirst 9 = .ok (.imul, 1) := by decide +kernel
theorem dX1_tellFirst_10 : decode cX1_tellFirst 10 = .ok (.iload_n 1, 1) := by decide +kernel
theorem dX1_tellFirst_11 : decode cX1_tellFirst 11 = .ok (.iadd, 1) := by decide +kernel
theorem dX1_tellFirst_12 : decode cX1_tellFirst 12 = .ok (.iaload, 1) := by decide +kernel
theorem dX1_tellFirst_13 : decode cX1_tellFirst 13 = .ok (.ireturn, 1) := by decide +kernel
set_option maxHeartbeats 8000000 in
set_option maxRecDepth 100000 in
theorem x_X1_tellFirst (l : Launch) (E : EE) (z0 : Nat) (G : Nat → Nat) (hGz : ∀ q, G q ≠ 0 → z0 ≤ q) (B : AA) (R : RR) (hW : TW G B R) (h0 : Nat) (p0 : Int32) (hG : G h0 = 5) (hy0 : 0 ≤ p0.toInt ∧ p0.toInt ≤ 4) : Met l yX1_tellFirst [Cond.code yX1_tellFirst cX1_tellFirst 2 (some .int)] ({ frames := 0, cells := 0, slots := 0, locals := 0 } : Room) (va_Pc [.ref h0, .int p0] (fun U => TX E G B R U.heap ∧ KS E z0 U)) (va_Qi (fun (r : Int32) (u : Unit) => (C_X1_tellFirst G B R h0 p0 r)) (fun u t => True) (fun _ : Nat => False)) 0 0 (fun _ : Nat => False) := by
  refine Met.ofW (cc := cX1_tellFirst) (maxL := 2) (ret := (some .int)) (by decide) rfl ?_
  intro p e s m args below meth c s₁ B9 hml hv
  obtain ⟨rfl, hT, hK⟩ := hv
  have hx := B9.exec
  have hb := B9.bytes
  have hr := B9.returns
  have hts : ∀ w ∈ TS, w.before ([.ref h0, .int p0] : List Value).toArray s = true := fun w hw => hK.2.1 w hw _
  have hown : s.vm.findClass RX1 = some m.cls := findClass_of_methodNamed B9.named
  have hlocks := B9.notSynchronized
  have hS : va_S (fun _ : Nat => False) s.heap s.heap [] := va_S.rf
  have hAz : ∀ q, (fun _ : Nat => False) q → z0 ≤ q := fun _ h => h.elim
  have hW_0 := hW
  have hl := lv_entry ([.ref h0, .int p0]) (n := 2) (Nat.le_of_ble_eq_true rfl)
  rw [lg_entry_eq]
  generalize (lg_sl ([.ref h0, .int p0]) ++ List.replicate (2 - (lg_sl ([.ref h0, .int p0])).length) Slot.unset).toArray = ls at hl ⊢
  have hl : lv_has ls 2 [(0, .ref h0), (1, .int p0)] := hl
  refine lv_aload_n hx hb dX1_tellFirst_0 rfl (lv_at hl 0 rfl) ?_
  have ha_1 := tx_5 hT hG
  have hg_2 : G (R h0 2) = 15 := (tw_5 hW hG).2.2.1
  refine va_get (D := DG E) (ci := 1) (v := .ref (R h0 2)) (C := RX1) (T := TX1) (N := 5) hx hb hts iw_X1 hown hK.1 (va_one ha_1) 0 rfl rfl 2 (by decide) (hts _ fl_X1_21) (fun _ h9 => h9) rfl dX1_tellFirst_1 ?_
  refine lv_aload_n hx hb dX1_tellFirst_4 rfl (lv_at hl 0 rfl) ?_
  have hb_3 := (tw_5 hW_0 hG).2.2.2.1
  refine va_get (D := DG E) (ci := 1) (v := .int (B h0 3)) (C := RX1) (T := TX1) (N := 5) hx hb hts iw_X1 hown hK.1 (va_one ha_1) 0 rfl rfl 3 (by decide) (hts _ fl_X1_40) (fun _ h9 => h9) rfl dX1_tellFirst_5 ?_
  refine lv_iconst (v := 5) hx hb dX1_tellFirst_8 (by decide) ?_
  refine lv_imul hx hb dX1_tellFirst_9 ?_
  refine lv_topi (fun x_4 ex_4 => ?_)
  have fx_4 : x_4.toInt = (B h0 3).toInt * 5 := by rw [ex_4]; exact s_mulR i_5 (by omega) (by omega)
  refine lv_iload_n hx hb dX1_tellFirst_10 rfl (lv_at hl 1 rfl) ?_
  refine lv_iadd hx hb dX1_tellFirst_11 ?_
  refine lv_topi (fun x_5 ex_5 => ?_)
  have fx_5 : x_5.toInt = x_4.toInt + p0.toInt := by have h9 := s_add (x := x_4) (y := p0) (by omega) (by omega); rw [ex_5]; exact h9
  have ha_6 := tx_15 hT hg_2
  have hi_7 : vp_in x_5 80 := vp_in_iff.mpr (by omega)
  obtain ⟨n_8, hn_8, en_8⟩ := x_nat (x := x_5) (by omega)
  refine va_iald (D := DG E) hx hb hK.1 (va_one ha_6) 0 0 rfl rfl hi_7 dX1_tellFirst_12 ?_
  refine W.eq (g2 := F0 m 13 ls [.int (B (R h0 2) n_8)]) (by rw [en_8]) ?_
  exact W.iret (v := (B (R h0 2) n_8)) hx hb hr (fun t ht hW9 => ⟨⟨(B (R h0 2) n_8), (), rfl, ⟨x_4, ex_4, fx_4, x_5, ex_5, fx_5, n_8, hn_8, rfl⟩, trivial⟩, hS.F ht⟩) hS.2.2 dX1_tellFirst_13
theorem dX1_dropFirst_0 : decode cX1_dropFirst 0 = .ok (.aload_n 0, 1) := by decide +kernel
theorem dX1_dropFirst_1 : decode cX1_dropFirst 1 = .ok (.aload_n 0, 1) := by decide +kernel
theorem dX1_dropFirst_2 : decode cX1_dropFirst 2 = .ok (.getfield 40, 3) := by decide +kernel
theorem dX1_dropFirst_5 : decode cX1_dropFirst 5 = .ok (.iconst 1, 1) := by decide +kernel
theorem dX1_dropFirst_6 : decode cX1_dropFirst 6 = .ok (.iadd, 1) := by decide +kernel
theorem dX1_dropFirst_7 : decode cX1_dropFirst 7 = .ok (.bipush 16, 2) := by decide +kernel
theorem dX1_dropFirst_9 : decode cX1_dropFirst 9 = .ok (.irem, 1) := by decide +kernel
theorem dX1_dropFirst_10 : decode cX1_dropFirst 10 = .ok (.putfield 40, 3) := by decide +kernel
theorem dX1_dropFirst_13 : decode cX1_dropFirst 13 = .ok (.aload_n 0, 1) := by decide +kernel
theorem dX1_dropFirst_14 : decode cX1_dropFirst 14 = .ok (.dup, 1) := by decide +kernel
theorem dX1_dropFirst_15 : decode cX1_dropFirst 15 = .ok (.getfield 36, 3) := by decide +kernel
theorem dX1_dropFirst_18 : decode cX1_dropFirst 18 = .ok (.iconst 1, 1) := by decide +kernel
theorem dX1_dropFirst_19 : decode cX1_dropFirst 19 = .ok (.isub, 1) := by decide +kernel
theorem dX1_dropFirst_20 : decode cX1_dropFirst 20 = .ok (.putfield 36, 3) := by decide +kernel
theorem dX1_dropFirst_23 : decode cX1_dropFirst 23 = .ok (.return_, 1) := by decide +kernel
set_option maxHeartbeats 8000000 in
set_option maxRecDepth 100000 in
theorem x_X1_dropFirst (l : Launch) (E : EE) (z0 : Nat) (G : Nat → Nat) (hGz : ∀ q, G q ≠ 0 → z0 ≤ q) (B : AA) (R : RR) (hW : TW G B R) (h0 : Nat) (hG : G h0 = 5) (hy0 : 1 ≤ (B h0 4).toInt) : Met l yX1_dropFirst [Cond.code yX1_dropFirst cX1_dropFirst 1 none] ({ frames := 0, cells := 0, slots := 0, locals := 0 } : Room) (va_Pc [.ref h0] (fun U => TX E G B R U.heap ∧ KS E z0 U)) (va_Qv (fun (u : AA) => (TW G u R) ∧ (Fr G ([5] : List Nat) B u) ∧ (C_X1_dropFirst G B R h0 u)) (fun u t => TX E G u R t.heap) (fun q : Nat => G q ∈ ([5] : List Nat))) 0 0 (fun q : Nat => G q ∈ ([5] : List Nat)) := by
  refine Met.ofW (cc := cX1_dropFirst) (maxL := 1) (ret := none) (by decide) rfl ?_
  intro p e s m args below meth c s₁ B9 hml hv
  obtain ⟨rfl, hT, hK⟩ := hv
  have hx := B9.exec
  have hb := B9.bytes
  have hr := B9.returns
  have hts : ∀ w ∈ TS, w.before ([.ref h0] : List Value).toArray s = true := fun w hw => hK.2.1 w hw _
  have hown : s.vm.findClass RX1 = some m.cls := findClass_of_methodNamed B9.named
  have hlocks := B9.notSynchronized
  have hS : va_S (fun q : Nat => G q ∈ ([5] : List Nat)) s.heap s.heap [] := va_S.rf
  have hAz : ∀ q, (fun q : Nat => G q ∈ ([5] : List Nat)) q → z0 ≤ q := zL hGz (by decide)
  have hW_0 := hW
  have hl := lv_entry ([.ref h0]) (n := 1) (Nat.le_of_ble_eq_true rfl)
  rw [lg_entry_eq]
  generalize (lg_sl ([.ref h0]) ++ List.replicate (1 - (lg_sl ([.ref h0])).length) Slot.unset).toArray = ls at hl ⊢
  have hl : lv_has ls 1 [(0, .ref h0)] := hl
  refine lv_aload_n hx hb dX1_dropFirst_0 rfl (lv_at hl 0 rfl) ?_
  refine lv_aload_n hx hb dX1_dropFirst_1 rfl (lv_at hl 0 rfl) ?_
  have ha_1 := tx_5 hT hG
  have hb_2 := (tw_5 hW_0 hG).2.2.2.1
  refine va_get (D := DG E) (ci := 1) (v := .int (B h0 3)) (C := RX1) (T := TX1) (N := 5) hx hb hts iw_X1 hown hK.1 (va_one ha_1) 0 rfl rfl 3 (by decide) (hts _ fl_X1_40) (fun _ h9 => h9) rfl dX1_dropFirst_2 ?_
  refine lv_iconst (v := 1) hx hb dX1_dropFirst_5 (by decide) ?_
  refine lv_iadd hx hb dX1_dropFirst_6 ?_
  refine lv_topi (fun x_3 ex_3 => ?_)
  have fx_3 : x_3.toInt = (B h0 3).toInt + 1 := by have h9 := s_add (x := (B h0 3)) (y := 1) (by rw [i_1]; omega) (by rw [i_1]; omega); rw [i_1] at h9; rw [ex_3]; exact h9
  refine lv_bipush (v := 16) hx hb dX1_dropFirst_7 (by decide) ?_
  refine lv_irem hx hb dX1_dropFirst_9 (by decide) ?_
  refine lv_topi (fun x_4 ex_4 => ?_)
  have fx_4 : x_4.toInt = x_3.toInt % 16 := by have h9 := s_rem (x := x_3) 16 (by decide) (by decide) (by omega); rw [ex_4]; exact h9
  have h9_5 := tw_5 hW_0 hG
  refine rr_put (D := DG E) (ci := 1) (v := .int x_4) (ty := .int) (C := RX1) (T := TX1) (N := 5) hx hb hts iw_X1 tyX1 tyX1_ok nmX1 hown hK.1 ha_1 hS (by show G h0 ∈ ([5] : List Nat); rw [hG]; decide) rfl 3 (by decide) (hts _ fl_X1_40) (fun _ h9 => h9) rfl (by decide +kernel) rfl rfl (Nat.le_of_ble_eq_true rfl) dX1_dropFirst_10 (fun H locs hn ho hz hS => ?_)
  obtain ⟨B_6, eB_6⟩ : ∃ z : AA, z = uA B h0 (upd (B h0) 3 x_4) := ⟨_, rfl⟩
  have sB_6 : B_6 h0 3 = x_4 := by rw [eB_6, uA_s]; exact upd_s
  have nB_6 : ∀ k, k ≠ 3 → B_6 h0 k = B h0 k := fun k hk => by rw [eB_6, uA_s]; exact upd_n hk
  have fB_6 : ∀ c, G c ≠ 5 → B_6 c = B c := fun c hc => by rw [eB_6]; exact uA_n (fun e => hc (by rw [e]; exact hG))
  have hT : TX E G B_6 R H := by rw [eB_6]; exact hT.w (by rw [hG]; exact hn) ho
  have hWB_6 : TW G B_6 R := by rw [eB_6]; exact hW_0.w (by rw [hG]; exact ⟨h9_5.1, h9_5.2.1, h9_5.2.2.1, (show 0 ≤ (x_4 : Int32).toInt ∧ (x_4 : Int32).toInt ≤ 15 from by omega), h9_5.2.2.2.2⟩)
  have hW := hWB_6
  refine lv_aload_n hx hb dX1_dropFirst_13 rfl (lv_at hl 0 rfl) ?_
  refine lv_dup hx hb dX1_dropFirst_14 rfl ?_
  have ha_7 := tx_5 hT hG
  have l_8 : B_6 h0 4 = (B h0 4) := (nB_6 4 (by decide))
  have hb_9 := (tw_5 hW_0 hG).2.2.2.2
  refine va_get (D := DG E) (ci := 1) (v := .int (B_6 h0 4)) (C := RX1) (T := TX1) (N := 5) hx hb hts iw_X1 hown hK.1 (va_one ha_7) 0 rfl rfl 4 (by decide) (hts _ fl_X1_36) (fun _ h9 => h9) rfl dX1_dropFirst_15 ?_
  refine W.eq (g2 := F0 m 18 ls [.int (B h0 4), .ref h0]) (by rw [l_8]) ?_
  refine lv_iconst (v := 1) hx hb dX1_dropFirst_18 (by decide) ?_
  refine lv_isub hx hb dX1_dropFirst_19 ?_
  refine lv_topi (fun x_10 ex_10 => ?_)
  have fx_10 : x_10.toInt = (B h0 4).toInt - 1 := by have h9 := s_sub (x := (B h0 4)) (y := 1) (by rw [i_1]; omega) (by rw [i_1]; omega); rw [i_1] at h9; rw [ex_10]; exact h9
  have h9_11 := tw_5 hWB_6 hG
  refine rr_put (D := DG E) (ci := 1) (v := .int x_10) (ty := .int) (C := RX1) (T := TX1) (N := 5) hx hb hts iw_X1 tyX1 tyX1_ok nmX1 hown hK.1 ha_7 hS (by show G h0 ∈ ([5] : List Nat); rw [hG]; decide) rfl 4 (by decide) (hts _ fl_X1_36) (fun _ h9 => h9) rfl (by decide +kernel) rfl rfl (Nat.le_of_ble_eq_true rfl) dX1_dropFirst_20 (fun H locs hn ho hz hS => ?_)
  obtain ⟨B_12, eB_12⟩ : ∃ z : AA, z = uA B_6 h0 (upd (B_6 h0) 4 x_10) := ⟨_, rfl⟩
  have sB_12 : B_12 h0 4 = x_10 := by rw [eB_12, uA_s]; exact upd_s
  have nB_12 : ∀ k, k ≠ 4 → B_12 h0 k = B_6 h0 k := fun k hk => by rw [eB_12, uA_s]; exact upd_n hk
  have fB_12 : ∀ c, G c ≠ 5 → B_12 c = B_6 c := fun c hc => by rw [eB_12]; exact uA_n (fun e => hc (by rw [e]; exact hG))
  have hT : TX E G B_12 R H := by rw [eB_12]; exact hT.w (by rw [hG]; exact hn) ho
  have hWB_12 : TW G B_12 R := by rw [eB_12]; exact hWB_6.w (by rw [hG]; exact ⟨h9_11.1, h9_11.2.1, h9_11.2.2.1, h9_11.2.2.2.1, (show 0 ≤ (x_10 : Int32).toInt ∧ (x_10 : Int32).toInt ≤ 16 from by omega)⟩)
  have hW := hWB_12
  exact W.vret hx hb hr (fun t ht hW9 => ⟨⟨B_12, rfl, ⟨hW, (Fr.w (Fr.w Fr.rf hG (by decide) eB_6) hG (by decide) eB_12), ⟨x_3, ex_3, fx_3, x_4, ex_4, fx_4, B_6, eB_6, x_10, ex_10, fx_10, B_12, eB_12, rfl⟩⟩, (by show TX E G B_12 R t.heap; rw [ht]; exact hT)⟩, hS.F ht⟩) hS.2.2 dX1_dropFirst_23
theorem dX2_become_0 : decode cX2_become 0 = .ok (.aload_n 0, 1) := by decide +kernel
theorem dX2_become_1 : decode cX2_become 1 = .ok (.iload_n 1, 1) := by decide +kernel
theorem dX2_become_2 : decode cX2_become 2 = .ok (.putfield 15, 3) := by decide +kernel
theorem dX2_become_5 : decode cX2_become 5 = .ok (.aload_n 0, 1) := by decide +kernel
theorem dX2_become_6 : decode cX2_become 6 = .ok (.iload_n 2, 1) := by decide +kernel
theorem dX2_become_7 : decode cX2_become 7 = .ok (.putfield 19, 3) := by decide +kernel
theorem dX2_become_10 : decode cX2_become 10 = .ok (.aload_n 0, 1) := by decide +kernel
theorem dX2_become_11 : decode cX2_become 11 = .ok (.iload_n 3, 1) := by decide +kernel
theorem dX2_become_12 : decode cX2_become 12 = .ok (.putfield 22, 3) := by decide +kernel
theorem dX2_become_15 : decode cX2_become 15 = .ok (.aload_n 0, 1) := by decide +kernel
theorem dX2_become_16 : decode cX2_become 16 = .ok (.iconst 0, 1) := by decide +kernel
theorem dX2_become_17 : decode cX2_become 17 = .ok (.putfield 25, 3) := by decide +kernel
theorem dX2_become_20 : decode cX2_become 20 = .ok (.aload_n 0, 1) := by decide +kernel
theorem dX2_become_21 : decode cX2_become 21 = .ok (.iconst (-1), 1) := by decide +kernel
theorem dX2_become_22 : decode cX2_become 22 = .ok (.putfield 28, 3) := by decide +kernel
theorem dX2_become_25 : decode cX2_become 25 = .ok (.aload_n 0, 1) := by decide +kernel
theorem dX2_become_26 : decode cX2_become 26 = .ok (.iconst (-1), 1) := by decide +kernel
theorem dX2_become_27 : decode cX2_become 27 = .ok (.putfield 31, 3) := by decide +kernel
theorem dX2_become_30 : decode cX2_become 30 = .ok (.aload_n 0, 1) := by decide +kernel
theorem dX2_become_31 : decode cX2_become 31 = .ok (.iconst 0, 1) := by decide +kernel
theorem dX2_become_32 : decode cX2_become 32 = .ok (.putfield 34, 3) := by decide +kernel
theorem dX2_become_35 : decode cX2_become 35 = .ok (.return_, 1) := by decide +kernel
set_option maxHeartbeats 8000000 in
set_option maxRecDepth 100000 in
theorem x_X2_become (l : Launch) (E : EE) (z0 : Nat) (G : Nat → Nat) (hGz : ∀ q, G q ≠ 0 → z0 ≤ q) (B : AA) (R : RR) (hW : TW G B R) (h0 : Nat) (p0 : Int32) (p1 : Int32) (p2 : Int32) (hG : G h0 = 31) (hy0 : 0 ≤ p0.toInt ∧ p0.toInt ≤ 3) : Met l yX2_become [Cond.code yX2_become cX2_become 4 none] ({ frames := 0, cells := 0, slots := 0, locals := 0 } : Room) (va_Pc [.ref h0, .int p0, .int p1, .int p2] (fun U => TX E G B R U.heap ∧ KS E z0 U)) (va_Qv (fun (u : AA) => (TW G u R) ∧ (Fr G ([31] : List Nat) B u) ∧ (C_X2_become G B R h0 p0 p1 p2 u)) (fun u t => TX E G u R t.heap) (fun q : Nat => G q ∈ ([31] : List Nat))) 0 0 (fun q : Nat => G q ∈ ([31] : List Nat)) := by
  refine Met.ofW (cc := cX2_become) (maxL := 4) (ret := none) (by decide) rfl ?_
  intro p e s m args below meth c s₁ B9 hml hv
  obtain ⟨rfl, hT, hK⟩ := hv
  have hx := B9.exec
  have hb := B9.bytes
  have hr := B9.returns
  have hts : ∀ w ∈ TS, w.before ([.ref h0, .int p0, .int p1, .int p2] : List Value).toArray s = true := fun w hw => hK.2.1 w hw _
  have hown : s.vm.findClass RX2 = some m.cls := findClass_of_methodNamed B9.named
  have hlocks := B9.notSynchronized
  have hS : va_S (fun q : Nat => G q ∈ ([31] : List Nat)) s.heap s.heap [] := va_S.rf
  have hAz : ∀ q, (fun q : Nat => G q ∈ ([31] : List Nat)) q → z0 ≤ q := zL hGz (by decide)
  have hW_0 := hW
  have hl := lv_entry ([.ref h0, .int p0, .int p1, .int p2]) (n := 4) (Nat.le_of_ble_eq_true rfl)
  rw [lg_entry_eq]
  generalize (lg_sl ([.ref h0, .int p0, .int p1, .int p2]) ++ List.replicate (4 - (lg_sl ([.ref h0, .int p0, .int p1, .int p2])).length) Slot.unset).toArray = ls at hl ⊢
  have hl : lv_has ls 4 [(0, .ref h0), (1, .int p0), (2, .int p1), (3, .int p2)] := hl
  refine lv_aload_n hx hb dX2_become_0 rfl (lv_at hl 0 rfl) ?_
  refine lv_iload_n hx hb dX2_become_1 rfl (lv_at hl 1 rfl) ?_
  have ha_1 := tx_31 hT hG
  have h9_2 := tw_31 hW_0 hG
  refine rr_put (D := DG E) (ci := 2) (v := .int p0) (ty := .int) (C := RX2) (T := TX2) (N := 8) hx hb hts iw_X2 tyX2 tyX2_ok nmX2 hown hK.1 ha_1 hS (by show G h0 ∈ ([31] : List Nat); rw [hG]; decide) rfl 0 (by decide) (hts _ fl_X2_15) (fun _ h9 => h9) rfl (by decide +kernel) rfl rfl (Nat.le_of_ble_eq_true rfl) dX2_become_2 (fun H locs hn ho hz hS => ?_)
  obtain ⟨B_3, eB_3⟩ : ∃ z : AA, z = uA B h0 (upd (B h0) 0 p0) := ⟨_, rfl⟩
  have sB_3 : B_3 h0 0 = p0 := by rw [eB_3, uA_s]; exact upd_s
  have nB_3 : ∀ k, k ≠ 0 → B_3 h0 k = B h0 k := fun k hk => by rw [eB_3, uA_s]; exact upd_n hk
  have fB_3 : ∀ c, G c ≠ 31 → B_3 c = B c := fun c hc => by rw [eB_3]; exact uA_n (fun e => hc (by rw [e]; exact hG))
  have hT : TX E G B_3 R H := by rw [eB_3]; exact hT.w (by rw [hG]; exact hn) ho
  have hWB_3 : TW G B_3 R := by rw [eB_3]; exact hW_0.w (by rw [hG]; exact ⟨(show 0 ≤ (p0 : Int32).toInt ∧ (p0 : Int32).toInt ≤ 3 from by omega), h9_2.2.1, h9_2.2.2⟩)
  have hW := hWB_3
  refine lv_aload_n hx hb dX2_become_5 rfl (lv_at hl 0 rfl) ?_
  refine lv_iload_n hx hb dX2_become_6 rfl (lv_at hl 2 rfl) ?_
  have ha_4 := tx_31 hT hG
  refine rr_put (D := DG E) (ci := 2) (v := .int p1) (ty := .int) (C := RX2) (T := TX2) (N := 8) hx hb hts iw_X2 tyX2 tyX2_ok nmX2 hown hK.1 ha_4 hS (by show G h0 ∈ ([31] : List Nat); rw [hG]; decide) rfl 1 (by decide) (hts _ fl_X2_19) (fun _ h9 => h9) rfl (by decide +kernel) rfl rfl (Nat.le_of_ble_eq_true rfl) dX2_become_7 (fun H locs hn ho hz hS => ?_)
  obtain ⟨B_5, eB_5⟩ : ∃ z : AA, z = uA B_3 h0 (upd (B_3 h0) 1 p1) := ⟨_, rfl⟩
  have sB_5 : B_5 h0 1 = p1 := by rw [eB_5, uA_s]; exact upd_s
  have nB_5 : ∀ k, k ≠ 1 → B_5 h0 k = B_3 h0 k := fun k hk => by rw [eB_5, uA_s]; exact upd_n hk
  have fB_5 : ∀ c, G c ≠ 31 → B_5 c = B_3 c := fun c hc => by rw [eB_5]; exact uA_n (fun e => hc (by rw [e]; exact hG))
  have hT : TX E G B_5 R H := by rw [eB_5]; exact hT.w (by rw [hG]; exact hn) ho
  have hWB_5 : TW G B_5 R := by rw [eB_5]; exact hWB_3.w (by rw [hG]; exact tw_31 hWB_3 hG)
  have hW := hWB_5
  refine lv_aload_n hx hb dX2_become_10 rfl (lv_at hl 0 rfl) ?_
  refine lv_iload_n hx hb dX2_become_11 rfl (lv_at hl 3 rfl) ?_
  have ha_6 := tx_31 hT hG
  refine rr_put (D := DG E) (ci := 2) (v := .int p2) (ty := .int) (C := RX2) (T := TX2) (N := 8) hx hb hts iw_X2 tyX2 tyX2_ok nmX2 hown hK.1 ha_6 hS (by show G h0 ∈ ([31] : List Nat); rw [hG]; decide) rfl 2 (by decide) (hts _ fl_X2_22) (fun _ h9 => h9) rfl (by decide +kernel) rfl rfl (Nat.le_of_ble_eq_true rfl) dX2_become_12 (fun H locs hn ho hz hS => ?_)
  obtain ⟨B_7, eB_7⟩ : ∃ z : AA, z = uA B_5 h0 (upd (B_5 h0) 2 p2) := ⟨_, rfl⟩
  have sB_7 : B_7 h0 2 = p2 := by rw [eB_7, uA_s]; exact upd_s
  have nB_7 : ∀ k, k ≠ 2 → B_7 h0 k = B_5 h0 k := fun k hk => by rw [eB_7, uA_s]; exact upd_n hk
  have fB_7 : ∀ c, G c ≠ 31 → B_7 c = B_5 c := fun c hc => by rw [eB_7]; exact uA_n (fun e => hc (by rw [e]; exact hG))
  have hT : TX E G B_7 R H := by rw [eB_7]; exact hT.w (by rw [hG]; exact hn) ho
  have hWB_7 : TW G B_7 R := by rw [eB_7]; exact hWB_5.w (by rw [hG]; exact tw_31 hWB_5 hG)
  have hW := hWB_7
  refine lv_aload_n hx hb dX2_become_15 rfl (lv_at hl 0 rfl) ?_
  refine lv_iconst (v := 0) hx hb dX2_become_16 (by decide) ?_
  have ha_8 := tx_31 hT hG
  have h9_9 := tw_31 hWB_7 hG
  refine rr_put (D := DG E) (ci := 2) (v := .int 0) (ty := .int) (C := RX2) (T := TX2) (N := 8) hx hb hts iw_X2 tyX2 tyX2_ok nmX2 hown hK.1 ha_8 hS (by show G h0 ∈ ([31] : List Nat); rw [hG]; decide) rfl 3 (by decide) (hts _ fl_X2_25) (fun _ h9 => h9) rfl (by decide +kernel) rfl rfl (Nat.le_of_ble_eq_true rfl) dX2_become_17 (fun H locs hn ho hz hS => ?_)
  obtain ⟨B_10, eB_10⟩ : ∃ z : AA, z = uA B_7 h0 (upd (B_7 h0) 3 0) := ⟨_, rfl⟩
  have sB_10 : B_10 h0 3 = 0 := by rw [eB_10, uA_s]; exact upd_s
  have nB_10 : ∀ k, k ≠ 3 → B_10 h0 k = B_7 h0 k := fun k hk => by rw [eB_10, uA_s]; exact upd_n hk
  have fB_10 : ∀ c, G c ≠ 31 → B_10 c = B_7 c := fun c hc => by rw [eB_10]; exact uA_n (fun e => hc (by rw [e]; exact hG))
  have hT : TX E G B_10 R H := by rw [eB_10]; exact hT.w (by rw [hG]; exact hn) ho
  have hWB_10 : TW G B_10 R := by rw [eB_10]; exact hWB_7.w (by rw [hG]; exact ⟨h9_9.1, (show (0 : Int32).toInt ≤ 12 from by decide), h9_9.2.2⟩)
  have hW := hWB_10
  refine lv_aload_n hx hb dX2_become_20 rfl (lv_at hl 0 rfl) ?_
  refine lv_iconst (v := (-1)) hx hb dX2_become_21 (by decide) ?_
  have ha_11 := tx_31 hT hG
  refine rr_put (D := DG E) (ci := 2) (v := .int (-1)) (ty := .int) (C := RX2) (T := TX2) (N := 8) hx hb hts iw_X2 tyX2 tyX2_ok nmX2 hown hK.1 ha_11 hS (by show G h0 ∈ ([31] : List Nat); rw [hG]; decide) rfl 4 (by decide) (hts _ fl_X2_28) (fun _ h9 => h9) rfl (by decide +kernel) rfl rfl (Nat.le_of_ble_eq_true rfl) dX2_become_22 (fun H locs hn ho hz hS => ?_)
  obtain ⟨B_12, eB_12⟩ : ∃ z : AA, z = uA B_10 h0 (upd (B_10 h0) 4 (-1)) := ⟨_, rfl⟩
  have sB_12 : B_12 h0 4 = (-1) := by rw [eB_12, uA_s]; exact upd_s
  have nB_12 : ∀ k, k ≠ 4 → B_12 h0 k = B_10 h0 k := fun k hk => by rw [eB_12, uA_s]; exact upd_n hk
  have fB_12 : ∀ c, G c ≠ 31 → B_12 c = B_10 c := fun c hc => by rw [eB_12]; exact uA_n (fun e => hc (by rw [e]; exact hG))
  have hT : TX E G B_12 R H := by rw [eB_12]; exact hT.w (by rw [hG]; exact hn) ho
  have hWB_12 : TW G B_12 R := by rw [eB_12]; exact hWB_10.w (by rw [hG]; exact tw_31 hWB_10 hG)
  have hW := hWB_12
  refine lv_aload_n hx hb dX2_become_25 rfl (lv_at hl 0 rfl) ?_
  refine lv_iconst (v := (-1)) hx hb dX2_become_26 (by decide) ?_
  have ha_13 := tx_31 hT hG
  refine rr_put (D := DG E) (ci := 2) (v := .int (-1)) (ty := .int) (C := RX2) (T := TX2) (N := 8) hx hb hts iw_X2 tyX2 tyX2_ok nmX2 hown hK.1 ha_13 hS (by show G h0 ∈ ([31] : List Nat); rw [hG]; decide) rfl 5 (by decide) (hts _ fl_X2_31) (fun _ h9 => h9) rfl (by decide +kernel) rfl rfl (Nat.le_of_ble_eq_true rfl) dX2_become_27 (fun H locs hn ho hz hS => ?_)
  obtain ⟨B_14, eB_14⟩ : ∃ z : AA, z = uA B_12 h0 (upd (B_12 h0) 5 (-1)) := ⟨_, rfl⟩
  have sB_14 : B_14 h0 5 = (-1) := by rw [eB_14, uA_s]; exact upd_s
  have nB_14 : ∀ k, k ≠ 5 → B_14 h0 k = B_12 h0 k := fun k hk => by rw [eB_14, uA_s]; exact upd_n hk
  have fB_14 : ∀ c, G c ≠ 31 → B_14 c = B_12 c := fun c hc => by rw [eB_14]; exact uA_n (fun e => hc (by rw [e]; exact hG))
  have hT : TX E G B_14 R H := by rw [eB_14]; exact hT.w (by rw [hG]; exact hn) ho
  have hWB_14 : TW G B_14 R := by rw [eB_14]; exact hWB_12.w (by rw [hG]; exact tw_31 hWB_12 hG)
  have hW := hWB_14
  refine lv_aload_n hx hb dX2_become_30 rfl (lv_at hl 0 rfl) ?_
  refine lv_iconst (v := 0) hx hb dX2_become_31 (by decide) ?_
  have ha_15 := tx_31 hT hG
  refine rr_put (D := DG E) (ci := 2) (v := .int 0) (ty := .int) (C := RX2) (T := TX2) (N := 8) hx hb hts iw_X2 tyX2 tyX2_ok nmX2 hown hK.1 ha_15 hS (by show G h0 ∈ ([31] : List Nat); rw [hG]; decide) rfl 6 (by decide) (hts _ fl_X2_34) (fun _ h9 => h9) rfl (by decide +kernel) rfl rfl (Nat.le_of_ble_eq_true rfl) dX2_become_32 (fun H locs hn ho hz hS => ?_)
  obtain ⟨B_16, eB_16⟩ : ∃ z : AA, z = uA B_14 h0 (upd (B_14 h0) 6 0) := ⟨_, rfl⟩
  have sB_16 : B_16 h0 6 = 0 := by rw [eB_16, uA_s]; exact upd_s
  have nB_16 : ∀ k, k ≠ 6 → B_16 h0 k = B_14 h0 k := fun k hk => by rw [eB_16, uA_s]; exact upd_n hk
  have fB_16 : ∀ c, G c ≠ 31 → B_16 c = B_14 c := fun c hc => by rw [eB_16]; exact uA_n (fun e => hc (by rw [e]; exact hG))
  have hT : TX E G B_16 R H := by rw [eB_16]; exact hT.w (by rw [hG]; exact hn) ho
  have hWB_16 : TW G B_16 R := by rw [eB_16]; exact hWB_14.w (by rw [hG]; exact tw_31 hWB_14 hG)
  have hW := hWB_16
  exact W.vret hx hb hr (fun t ht hW9 => ⟨⟨B_16, rfl, ⟨hW, (Fr.w (Fr.w (Fr.w (Fr.w (Fr.w (Fr.w (Fr.w Fr.rf hG (by decide) eB_3) hG (by decide) eB_5) hG (by decide) eB_7) hG (by decide) eB_10) hG (by decide) eB_12) hG (by decide) eB_14) hG (by decide) eB_16), ⟨B_3, eB_3, B_5, eB_5, B_7, eB_7, B_10, eB_10, B_12, eB_12, B_14, eB_14, B_16, eB_16, rfl⟩⟩, (by show TX E G B_16 R t.heap; rw [ht]; exact hT)⟩, hS.F ht⟩) hS.2.2 dX2_become_35
theorem gdX2_becomeLike_0 : (decode cX2_becomeLike 0 = .ok (.aload_n 0, 1)) ∧ (decode cX2_becomeLike 1 = .ok (.aload_n 1, 1)) ∧ (decode cX2_becomeLike 2 = .ok (.getfield 15, 3)) ∧ (decode cX2_becomeLike 5 = .ok (.aload_n 1, 1)) ∧ (decode cX2_becomeLike 6 = .ok (.getfield 19, 3)) ∧ (decode cX2_becomeLike 9 = .ok (.aload_n 1, 1)) ∧ (decode cX2_becomeLike 10 = .ok (.getfield 22, 3)) ∧ (decode cX2_becomeLike 13 = .ok (.invokevirtual 37, 3)) ∧ (decode cX2_becomeLike 16 = .ok (.aload_n 0, 1)) ∧ (decode cX2_becomeLike 17 = .ok (.aload_n 1, 1)) ∧ (decode cX2_becomeLike 18 = .ok (.getfield 25, 3)) ∧ (decode cX2_becomeLike 21 = .ok (.putfield 25, 3)) ∧ (decode cX2_becomeLike 24 = .ok (.aload_n 0, 1)) ∧ (decode cX2_becomeLike 25 = .ok (.aload_n 1, 1)) ∧ (decode cX2_becomeLike 26 = .ok (.getfield 28, 3)) ∧ (decode cX2_becomeLike 29 = .ok (.putfield 28, 3)) := by decide +kernel
theorem dX2_becomeLike_0 : decode cX2_becomeLike 0 = .ok (.aload_n 0, 1) := gdX2_becomeLike_0.1
theorem dX2_becomeLike_1 : decode cX2_becomeLike 1 = .ok (.aload_n 1, 1) := gdX2_becomeLike_0.2.1
theorem dX2_becomeLike_2 : decode cX2_becomeLike 2 = .ok (.getfield 15, 3) := gdX2_becomeLike_0.2.2.1
theorem dX2_becomeLike_5 : decode cX2_becomeLike 5 = .ok (.aload_n 1, 1) := gdX2_becomeLike_0.2.2.2.1
theorem dX2_becomeLike_6 : decode cX2_becomeLike 6 = .ok (.getfield 19, 3) := gdX2_becomeLike_0.2.2.2.2.1
theorem dX2_becomeLike_9 : decode cX2_becomeLike 9 = .ok (.aload_n 1, 1) := gdX2_becomeLike_0.2.2.2.2.2.1
theorem dX2_becomeLike_10 : decode cX2_becomeLike 10 = .ok (.getfield 22, 3) := gdX2_becomeLike_0.2.2.2.2.2.2.1
theorem dX2_becomeLike_13 : decode cX2_becomeLike 13 = .ok (.invokevirtual 37, 3) := gdX2_becomeLike_0.2.2.2.2.2.2.2.1
theorem dX2_becomeLike_16 : decode cX2_becomeLike 16 = .ok (.aload_n 0, 1) := gdX2_becomeLike_0.2.2.2.2.2.2.2.2.1
theorem dX2_becomeLike_17 : decode cX2_becomeLike 17 = .ok (.aload_n 1, 1) := gdX2_becomeLike_0.2.2.2.2.2.2.2.2.2.1
theorem dX2_becomeLike_18 : decode cX2_becomeLike 18 = .ok (.getfield 25, 3) := gdX2_becomeLike_0.2.2.2.2.2.2.2.2.2.2.1
theorem dX2_becomeLike_21 : decode cX2_becomeLike 21 = .ok (.putfield 25, 3) := gdX2_becomeLike_0.2.2.2.2.2.2.2.2.2.2.2.1
theorem dX2_becomeLike_24 : decode cX2_becomeLike 24 = .ok (.aload_n 0, 1) := gdX2_becomeLike_0.2.2.2.2.2.2.2.2.2.2.2.2.1
theorem dX2_becomeLike_25 : decode cX2_becomeLike 25 = .ok (.aload_n 1, 1) := gdX2_becomeLike_0.2.2.2.2.2.2.2.2.2.2.2.2.2.1
theorem dX2_becomeLike_26 : decode cX2_becomeLike 26 = .ok (.getfield 28, 3) := gdX2_becomeLike_0.2.2.2.2.2.2.2.2.2.2.2.2.2.2.1
theorem dX2_becomeLike_29 : decode cX2_becomeLike 29 = .ok (.putfield 28, 3) := gdX2_becomeLike_0.2.2.2.2.2.2.2.2.2.2.2.2.2.2.2
theorem gdX2_becomeLike_32 : (decode cX2_becomeLike 32 = .ok (.aload_n 0, 1)) ∧ (decode cX2_becomeLike 33 = .ok (.aload_n 1, 1)) ∧ (decode cX2_becomeLike 34 = .ok (.getfield 31, 3)) ∧ (decode cX2_becomeLike 37 = .ok (.putfield 31, 3)) ∧ (decode cX2_becomeLike 40 = .ok (.aload_n 0, 1)) ∧ (decode cX2_becomeLike 41 = .ok (.aload_n 1, 1)) ∧ (decode cX2_becomeLike 42 = .ok (.getfield 34, 3)) ∧ (decode cX2_becomeLike 45 = .ok (.putfield 34, 3)) ∧ (decode cX2_becomeLike 48 = .ok (.iconst 0, 1)) ∧ (decode cX2_becomeLike 49 = .ok (.istore_n 2, 1)) ∧ (decode cX2_becomeLike 50 = .ok (.iload_n 2, 1)) ∧ (decode cX2_becomeLike 51 = .ok (.iconst 4, 1)) ∧ (decode cX2_becomeLike 52 = .ok (.if_icmp .ge 21, 3)) ∧ (decode cX2_becomeLike 55 = .ok (.aload_n 0, 1)) ∧ (decode cX2_becomeLike 56 = .ok (.getfield 9, 3)) ∧ (decode cX2_becomeLike 59 = .ok (.iload_n 2, 1)) := by decide +kernel
theorem dX2_becomeLike_32 : decode cX2_becomeLike 32 = .ok (.aload_n 0, 1) := gdX2_becomeLike_32.1
theorem dX2_becomeLike_33 : decode cX2_becomeLike 33 = .ok (.aload_n 1, 1) := gdX2_becomeLike_32.2.1
theorem dX2_becomeLike_34 : decode cX2_becomeLike 34 = .ok (.getfield 31, 3) := gdX2_becomeLike_32.2.2.1
theorem dX2_becomeLike_37 : decode cX2_becomeLike 37 = .ok (.putfield 31, 3) := gdX2_becomeLike_32.2.2.2.1
theorem dX2_becomeLike_40 : decode cX2_becomeLike 40 = .ok (.aload_n 0, 1) := gdX2_becomeLike_32.2.2.2.2.1
theorem dX2_becomeLike_41 : decode cX2_becomeLike 41 = .ok (.aload_n 1, 1) := gdX2_becomeLike_32.2.2.2.2.2.1
theorem dX2_becomeLike_42 : decode cX2_becomeLike 42 = .ok (.getfield 34, 3) := gdX2_becomeLike_32.2.2.2.2.2.2.1
theorem dX2_becomeLike_45 : decode cX2_becomeLike 45 = .ok (.putfield 34, 3) := gdX2_becomeLike_32.2.2.2.2.2.2.2.1
theorem dX2_becomeLike_48 : decode cX2_becomeLike 48 = .ok (.iconst 0, 1) := gdX2_becomeLike_32.2.2.2.2.2.2.2.2.1
theorem dX2_becomeLike_49 : decode cX2_becomeLike 49 = .ok (.istore_n 2, 1) := gdX2_becomeLike_32.2.2.2.2.2.2.2.2.2.1
theorem dX2_becomeLike_50 : decode cX2_becomeLike 50 = .ok (.iload_n 2, 1) := gdX2_becomeLike_32.2.2.2.2.2.2.2.2.2.2.1
theorem dX2_becomeLike_51 : decode cX2_becomeLike 51 = .ok (.iconst 4, 1) := gdX2_becomeLike_32.2.2.2.2.2.2.2.2.2.2.2.1
theorem dX2_becomeLike_52 : decode cX2_becomeLike 52 = .ok (.if_icmp .ge 21, 3) := gdX2_becomeLike_32.2.2.2.2.2.2.2.2.2.2.2.2.1
theorem dX2_becomeLike_55 : decode cX2_becomeLike 55 = .ok (.aload_n 0, 1) := gdX2_becomeLike_32.2.2.2.2.2.2.2.2.2.2.2.2.2.1
theorem dX2_becomeLike_56 : decode cX2_becomeLike 56 = .ok (.getfield 9, 3) := gdX2_becomeLike_32.2.2.2.2.2.2.2.2.2.2.2.2.2.2.1
theorem dX2_becomeLike_59 : decode cX2_becomeLike 59 = .ok (.iload_n 2, 1) := gdX2_becomeLike_32.2.2.2.2.2.2.2.2.2.2.2.2.2.2.2
theorem gdX2_becomeLike_60 : (decode cX2_becomeLike 60 = .ok (.aload_n 1, 1)) ∧ (decode cX2_becomeLike 61 = .ok (.getfield 9, 3)) ∧ (decode cX2_becomeLike 64 = .ok (.iload_n 2, 1)) ∧ (decode cX2_becomeLike 65 = .ok (.iaload, 1)) ∧ (decode cX2_becomeLike 66 = .ok (.iastore, 1)) ∧ (decode cX2_becomeLike 67 = .ok (.iinc 2 1, 3)) ∧ (decode cX2_becomeLike 70 = .ok (.goto (-20), 3)) ∧ (decode cX2_becomeLike 73 = .ok (.return_, 1)) := by decide +kernel
theorem dX2_becomeLike_60 : decode cX2_becomeLike 60 = .ok (.aload_n 1, 1) := gdX2_becomeLike_60.1
theorem dX2_becomeLike_61 : decode cX2_becomeLike 61 = .ok (.getfield 9, 3) := gdX2_becomeLike_60.2.1
theorem dX2_becomeLike_64 : decode cX2_becomeLike 64 = .ok (.iload_n 2, 1) := gdX2_becomeLike_60.2.2.1
theorem dX2_becomeLike_65 : decode cX2_becomeLike 65 = .ok (.iaload, 1) := gdX2_becomeLike_60.2.2.2.1
theorem dX2_becomeLike_66 : decode cX2_becomeLike 66 = .ok (.iastore, 1) := gdX2_becomeLike_60.2.2.2.2.1
theorem dX2_becomeLike_67 : decode cX2_becomeLike 67 = .ok (.iinc 2 1, 3) := gdX2_becomeLike_60.2.2.2.2.2.1
theorem dX2_becomeLike_70 : decode cX2_becomeLike 70 = .ok (.goto (-20), 3) := gdX2_becomeLike_60.2.2.2.2.2.2.1
theorem dX2_becomeLike_73 : decode cX2_becomeLike 73 = .ok (.return_, 1) := gdX2_becomeLike_60.2.2.2.2.2.2.2
set_option maxHeartbeats 8000000 in
set_option maxRecDepth 100000 in
theorem x_X2_becomeLike (l : Launch) (E : EE) (z0 : Nat) (G : Nat → Nat) (hGz : ∀ q, G q ≠ 0 → z0 ≤ q) (B : AA) (R : RR) (hW : TW G B R) (h0 : Nat) (p0 : Nat) (hG : G h0 = 31) (hG0 : G p0 = 31) : Met l yX2_becomeLike [Cond.code yX2_becomeLike cX2_becomeLike 3 none] ({ frames := 1, cells := 0, slots := 0, locals := 23 } : Room) (va_Pc [.ref h0, .ref p0] (fun U => TX E G B R U.heap ∧ KS E z0 U)) (va_Qv (fun (u : AA) => (TW G u R) ∧ (Fr G ([31, 32] : List Nat) B u) ∧ (C_X2_becomeLike G B R h0 p0 u)) (fun u t => TX E G u R t.heap) (fun q : Nat => G q ∈ ([31, 32] : List Nat))) 0 0 (fun q : Nat => G q ∈ ([31, 32] : List Nat)) := by
  refine Met.ofW (cc := cX2_becomeLike) (maxL := 3) (ret := none) (by decide) rfl ?_
  intro p e s m args below meth c s₁ B9 hml hv
  obtain ⟨rfl, hT, hK⟩ := hv
  have hx := B9.exec
  have hb := B9.bytes
  have hr := B9.returns
  have hts : ∀ w ∈ TS, w.before ([.ref h0, .ref p0] : List Value).toArray s = true := fun w hw => hK.2.1 w hw _
  have hown : s.vm.findClass RX2 = some m.cls := findClass_of_methodNamed B9.named
  have hlocks := B9.notSynchronized
  have hS : va_S (fun q : Nat => G q ∈ ([31, 32] : List Nat)) s.heap s.heap [] := va_S.rf
  have hAz : ∀ q, (fun q : Nat => G q ∈ ([31, 32] : List Nat)) q → z0 ≤ q := zL hGz (by decide)
  have hW_0 := hW
  have hl := lv_entry ([.ref h0, .ref p0]) (n := 3) (Nat.le_of_ble_eq_true rfl)
  rw [lg_entry_eq]
  generalize (lg_sl ([.ref h0, .ref p0]) ++ List.replicate (3 - (lg_sl ([.ref h0, .ref p0])).length) Slot.unset).toArray = ls at hl ⊢
  have hl : lv_has ls 3 [(0, .ref h0), (1, .ref p0)] := hl
  refine lv_aload_n hx hb dX2_becomeLike_0 rfl (lv_at hl 0 rfl) ?_
  refine lv_aload_n hx hb dX2_becomeLike_1 rfl (lv_at hl 1 rfl) ?_
  have ha_1 := tx_31 hT hG0
  have hb_2 := (tw_31 hW_0 hG0).1
  refine va_get (D := DG E) (ci := 2) (v := .int (B p0 0)) (C := RX2) (T := TX2) (N := 8) hx hb hts iw_X2 hown hK.1 (va_one ha_1) 0 rfl rfl 0 (by decide) (hts _ fl_X2_15) (fun _ h9 => h9) rfl dX2_becomeLike_2 ?_
  refine lv_aload_n hx hb dX2_becomeLike_5 rfl (lv_at hl 1 rfl) ?_
  refine va_get (D := DG E) (ci := 2) (v := .int (B p0 1)) (C := RX2) (T := TX2) (N := 8) hx hb hts iw_X2 hown hK.1 (va_one ha_1) 0 rfl rfl 1 (by decide) (hts _ fl_X2_19) (fun _ h9 => h9) rfl dX2_becomeLike_6 ?_
  refine lv_aload_n hx hb dX2_becomeLike_9 rfl (lv_at hl 1 rfl) ?_
  refine va_get (D := DG E) (ci := 2) (v := .int (B p0 2)) (C := RX2) (T := TX2) (N := 8) hx hb hts iw_X2 hown hK.1 (va_one ha_1) 0 rfl rfl 2 (by decide) (hts _ fl_X2_22) (fun _ h9 => h9) rfl dX2_becomeLike_10 ?_
  have ha_3 := tx_31 hT hG
  refine va_callv (rnV (fun H => TX E G B R H) (As := [.int (B p0 0), .int (B p0 1), .int (B p0 2)]) (rest := []) ⟨hx, hb, hml, hown, hts⟩ (x_X2_become l E z0 G hGz B R hW h0 (B p0 0) (B p0 1) (B p0 2) hG (show 0 ≤ (B p0 0).toInt ∧ (B p0 0).toInt ≤ 3 from by first | decide | omega)) (cwV 3 hts (gdV ml_X2_37 im_X2_become se_X2_X2_become in_X2 co_X2_become rfl) rfl rfl rfl (by decide +kernel) ⟨Nat.le_of_ble_eq_true rfl, Nat.le_of_ble_eq_true rfl⟩) hT (fun U hU hW => hK.go hW hS hAz hU) (va_recv hK.1 (va_one ha_3) (ci := 2) (q0 := 0) rfl rfl) rfl rfl hl.1 rfl (lv_room (Nat.le_of_ble_eq_true rfl)) dX2_becomeLike_13 ⟨Nat.le_of_ble_eq_true rfl, Nat.le_of_ble_eq_true rfl⟩) hS (fun q _ h => mL (L' := [31]) (L := [31, 32]) (by decide) h) (fun q h => mL (L' := [31]) (L := [31, 32]) (by decide) h) (fun U_5 t H locs ht hvm hwr_4 hB hz hk hS => ?_)
  have hT : TX E G U_5 R H := by rw [ht] at hB; exact hB
  have hWr_4 : TW G U_5 R := hwr_4.1
  have hW := hWr_4
  have hFr_4 : Fr G [31] B U_5 := hwr_4.2.1
  have hCr_4 : C_X2_become G B R h0 (B p0 0) (B p0 1) (B p0 2) U_5 := hwr_4.2.2
  refine lv_aload_n hx hb dX2_becomeLike_16 rfl (lv_at hl 0 rfl) ?_
  refine lv_aload_n hx hb dX2_becomeLike_17 rfl (lv_at hl 1 rfl) ?_
  have ha_6 := tx_31 hT hG0
  have hb_7 := (tw_31 hWr_4 hG0).2.1
  refine va_get (D := DG E) (ci := 2) (v := .int (U_5 p0 3)) (C := RX2) (T := TX2) (N := 8) hx hb hts iw_X2 hown hK.1 (va_one ha_6) 0 rfl rfl 3 (by decide) (hts _ fl_X2_25) (fun _ h9 => h9) rfl dX2_becomeLike_18 ?_
  have ha_8 := tx_31 hT hG
  have h9_9 := tw_31 hWr_4 hG
  refine rr_put (D := DG E) (ci := 2) (v := .int (U_5 p0 3)) (ty := .int) (C := RX2) (T := TX2) (N := 8) hx hb hts iw_X2 tyX2 tyX2_ok nmX2 hown hK.1 ha_8 hS (by show G h0 ∈ ([31, 32] : List Nat); rw [hG]; decide) rfl 3 (by decide) (hts _ fl_X2_25) (fun _ h9 => h9) rfl (by decide +kernel) rfl rfl (Nat.le_of_ble_eq_true rfl) dX2_becomeLike_21 (fun H locs hn ho hz hS => ?_)
  obtain ⟨B_10, eB_10⟩ : ∃ z : AA, z = uA U_5 h0 (upd (U_5 h0) 3 (U_5 p0 3)) := ⟨_, rfl⟩
  have sB_10 : B_10 h0 3 = (U_5 p0 3) := by rw [eB_10, uA_s]; exact upd_s
  have nB_10 : ∀ k, k ≠ 3 → B_10 h0 k = U_5 h0 k := fun k hk => by rw [eB_10, uA_s]; exact upd_n hk
  have fB_10 : ∀ c, G c ≠ 31 → B_10 c = U_5 c := fun c hc => by rw [eB_10]; exact uA_n (fun e => hc (by rw [e]; exact hG))
  have hT : TX E G B_10 R H := by rw [eB_10]; exact hT.w (by rw [hG]; exact hn) ho
  have hWB_10 : TW G B_10 R := by rw [eB_10]; exact hWr_4.w (by rw [hG]; exact ⟨h9_9.1, (show ((U_5 p0 3) : Int32).toInt ≤ 12 from by omega), h9_9.2.2⟩)
  have hW := hWB_10
  refine lv_aload_n hx hb dX2_becomeLike_24 rfl (lv_at hl 0 rfl) ?_
  refine lv_aload_n hx hb dX2_becomeLike_25 rfl (lv_at hl 1 rfl) ?_
  have ha_11 := tx_31 hT hG0
  refine va_get (D := DG E) (ci := 2) (v := .int (B_10 p0 4)) (C := RX2) (T := TX2) (N := 8) hx hb hts iw_X2 hown hK.1 (va_one ha_11) 0 rfl rfl 4 (by decide) (hts _ fl_X2_28) (fun _ h9 => h9) rfl dX2_becomeLike_26 ?_
  have ha_12 := tx_31 hT hG
  refine rr_put (D := DG E) (ci := 2) (v := .int (B_10 p0 4)) (ty := .int) (C := RX2) (T := TX2) (N := 8) hx hb hts iw_X2 tyX2 tyX2_ok nmX2 hown hK.1 ha_12 hS (by show G h0 ∈ ([31, 32] : List Nat); rw [hG]; decide) rfl 4 (by decide) (hts _ fl_X2_28) (fun _ h9 => h9) rfl (by decide +kernel) rfl rfl (Nat.le_of_ble_eq_true rfl) dX2_becomeLike_29 (fun H locs hn ho hz hS => ?_)
  obtain ⟨B_13, eB_13⟩ : ∃ z : AA, z = uA B_10 h0 (upd (B_10 h0) 4 (B_10 p0 4)) := ⟨_, rfl⟩
  have sB_13 : B_13 h0 4 = (B_10 p0 4) := by rw [eB_13, uA_s]; exact upd_s
  have nB_13 : ∀ k, k ≠ 4 → B_13 h0 k = B_10 h0 k := fun k hk => by rw [eB_13, uA_s]; exact upd_n hk
  have fB_13 : ∀ c, G c ≠ 31 → B_13 c = B_10 c := fun c hc => by rw [eB_13]; exact uA_n (fun e => hc (by rw [e]; exact hG))
  have hT : TX E G B_13 R H := by rw [eB_13]; exact hT.w (by rw [hG]; exact hn) ho
  have hWB_13 : TW G B_13 R := by rw [eB_13]; exact hWB_10.w (by rw [hG]; exact tw_31 hWB_10 hG)
  have hW := hWB_13
  refine lv_aload_n hx hb dX2_becomeLike_32 rfl (lv_at hl 0 rfl) ?_
  refine lv_aload_n hx hb dX2_becomeLike_33 rfl (lv_at hl 1 rfl) ?_
  have ha_14 := tx_31 hT hG0
  refine va_get (D := DG E) (ci := 2) (v := .int (B_13 p0 5)) (C := RX2) (T := TX2) (N := 8) hx hb hts iw_X2 hown hK.1 (va_one ha_14) 0 rfl rfl 5 (by decide) (hts _ fl_X2_31) (fun _ h9 => h9) rfl dX2_becomeLike_34 ?_
  have ha_15 := tx_31 hT hG
  refine rr_put (D := DG E) (ci := 2) (v := .int (B_13 p0 5)) (ty := .int) (C := RX2) (T := TX2) (N := 8) hx hb hts iw_X2 tyX2 tyX2_ok nmX2 hown hK.1 ha_15 hS (by show G h0 ∈ ([31, 32] : List Nat); rw [hG]; decide) rfl 5 (by decide) (hts _ fl_X2_31) (fun _ h9 => h9) rfl (by decide +kernel) rfl rfl (Nat.le_of_ble_eq_true rfl) dX2_becomeLike_37 (fun H locs hn ho hz hS => ?_)
  obtain ⟨B_16, eB_16⟩ : ∃ z : AA, z = uA B_13 h0 (upd (B_13 h0) 5 (B_13 p0 5)) := ⟨_, rfl⟩
  have sB_16 : B_16 h0 5 = (B_13 p0 5) := by rw [eB_16, uA_s]; exact upd_s
  have nB_16 : ∀ k, k ≠ 5 → B_16 h0 k = B_13 h0 k := fun k hk => by rw [eB_16, uA_s]; exact upd_n hk
  have fB_16 : ∀ c, G c ≠ 31 → B_16 c = B_13 c := fun c hc => by rw [eB_16]; exact uA_n (fun e => hc (by rw [e]; exact hG))
  have hT : TX E G B_16 R H := by rw [eB_16]; exact hT.w (by rw [hG]; exact hn) ho
  have hWB_16 : TW G B_16 R := by rw [eB_16]; exact hWB_13.w (by rw [hG]; exact tw_31 hWB_13 hG)
  have hW := hWB_16
  refine lv_aload_n hx hb dX2_becomeLike_40 rfl (lv_at hl 0 rfl) ?_
  refine lv_aload_n hx hb dX2_becomeLike_41 rfl (lv_at hl 1 rfl) ?_
  have ha_17 := tx_31 hT hG0
  refine va_get (D := DG E) (ci := 2) (v := .int (B_16 p0 6)) (C := RX2) (T := TX2) (N := 8) hx hb hts iw_X2 hown hK.1 (va_one ha_17) 0 rfl rfl 6 (by decide) (hts _ fl_X2_34) (fun _ h9 => h9) rfl dX2_becomeLike_42 ?_
  have ha_18 := tx_31 hT hG
  refine rr_put (D := DG E) (ci := 2) (v := .int (B_16 p0 6)) (ty := .int) (C := RX2) (T := TX2) (N := 8) hx hb hts iw_X2 tyX2 tyX2_ok nmX2 hown hK.1 ha_18 hS (by show G h0 ∈ ([31, 32] : List Nat); rw [hG]; decide) rfl 6 (by decide) (hts _ fl_X2_34) (fun _ h9 => h9) rfl (by decide +kernel) rfl rfl (Nat.le_of_ble_eq_true rfl) dX2_becomeLike_45 (fun H locs hn ho hz hS => ?_)
  obtain ⟨B_19, eB_19⟩ : ∃ z : AA, z = uA B_16 h0 (upd (B_16 h0) 6 (B_16 p0 6)) := ⟨_, rfl⟩
  have sB_19 : B_19 h0 6 = (B_16 p0 6) := by rw [eB_19, uA_s]; exact upd_s
  have nB_19 : ∀ k, k ≠ 6 → B_19 h0 k = B_16 h0 k := fun k hk => by rw [eB_19, uA_s]; exact upd_n hk
  have fB_19 : ∀ c, G c ≠ 31 → B_19 c = B_16 c := fun c hc => by rw [eB_19]; exact uA_n (fun e => hc (by rw [e]; exact hG))
  have hT : TX E G B_19 R H := by rw [eB_19]; exact hT.w (by rw [hG]; exact hn) ho
  have hWB_19 : TW G B_19 R := by rw [eB_19]; exact hWB_16.w (by rw [hG]; exact tw_31 hWB_16 hG)
  have hW := hWB_19
  refine lv_iconst (v := 0) hx hb dX2_becomeLike_48 (by decide) ?_
  refine lv_istore_n (lv' := [(2, .int 0), (0, .ref h0), (1, .ref p0)]) hx hb dX2_becomeLike_49 rfl hl (by decide) rfl (fun ls hl => ?_)
  refine lv_iload_n hx hb dX2_becomeLike_50 rfl (lv_at hl 0 rfl) ?_
  refine lv_iconst (v := 4) hx hb dX2_becomeLike_51 (by decide) ?_
  refine lv_icmp_ge (tgt := 73) hx hb dX2_becomeLike_52 (by decide) (fun c_20 => absurd c_20 (by decide)) (fun c_20 => ?_)
  refine lv_aload_n hx hb dX2_becomeLike_55 rfl (lv_at hl 1 rfl) ?_
  have ha_21 := tx_31 hT hG
  have hg_22 : G (R h0 7) = 32 := (tw_31 hW hG).2.2
  refine va_get (D := DG E) (ci := 2) (v := .ref (R h0 7)) (C := RX2) (T := TX2) (N := 8) hx hb hts iw_X2 hown hK.1 (va_one ha_21) 0 rfl rfl 7 (by decide) (hts _ fl_X2_9) (fun _ h9 => h9) rfl dX2_becomeLike_56 ?_
  refine lv_iload_n hx hb dX2_becomeLike_59 rfl (lv_at hl 0 rfl) ?_
  refine lv_aload_n hx hb dX2_becomeLike_60 rfl (lv_at hl 2 rfl) ?_
  have ha_23 := tx_31 hT hG0
  have hg_24 : G (R p0 7) = 32 := (tw_31 hW hG0).2.2
  refine va_get (D := DG E) (ci := 2) (v := .ref (R p0 7)) (C := RX2) (T := TX2) (N := 8) hx hb hts iw_X2 hown hK.1 (va_one ha_23) 0 rfl rfl 7 (by decide) (hts _ fl_X2_9) (fun _ h9 => h9) rfl dX2_becomeLike_61 ?_
  refine lv_iload_n hx hb dX2_becomeLike_64 rfl (lv_at hl 0 rfl) ?_
  have ha_25 := tx_32 hT hg_24
  have l_26 : B_19 (R p0 7) 0 = (B (R p0 7) 0) := ((congrFun (fB_19 (R p0 7) (by rw [hg_24]; decide)) 0)).trans (((congrFun (fB_16 (R p0 7) (by rw [hg_24]; decide)) 0)).trans (((congrFun (fB_13 (R p0 7) (by rw [hg_24]; decide)) 0)).trans (((congrFun (fB_10 (R p0 7) (by rw [hg_24]; decide)) 0)).trans ((congrFun (hFr_4 (R p0 7) (by rw [hg_24]; decide)) 0)))))
  refine va_iald (D := DG E) hx hb hK.1 (va_one ha_25) 0 0 rfl rfl (show vp_in (0) 4 from vp_in_iff.mpr ⟨by decide, by decide⟩) dX2_becomeLike_65 ?_
  refine W.eq (g2 := F0 m 66 ls [.int (B (R p0 7) 0), .int 0, .ref (R h0 7)]) (congrArg (fun z => F0 m 66 ls (.int z :: [.int 0, .ref (R h0 7)])) l_26) ?_
  have ha_27 := tx_32 hT hg_22
  refine rr_iast (D := DG E) hx hb hK.1 0 ha_27 hS (by show G (R h0 7) ∈ ([31, 32] : List Nat); rw [hg_22]; decide) rfl (show vp_in (0) 4 from vp_in_iff.mpr ⟨by decide, by decide⟩) dX2_becomeLike_66 (fun H locs hn ho hz hS => ?_)
  obtain ⟨B_28, eB_28⟩ : ∃ z : AA, z = uA B_19 (R h0 7) (upd (B_19 (R h0 7)) 0 (B (R p0 7) 0)) := ⟨_, rfl⟩
  have sB_28 : B_28 (R h0 7) 0 = (B (R p0 7) 0) := by rw [eB_28, uA_s]; exact upd_s
  have nB_28 : ∀ k, k ≠ 0 → B_28 (R h0 7) k = B_19 (R h0 7) k := fun k hk => by rw [eB_28, uA_s]; exact upd_n hk
  have fB_28 : ∀ c, G c ≠ 32 → B_28 c = B_19 c := fun c hc => by rw [eB_28]; exact uA_n (fun e => hc (by rw [e]; exact hg_22))
  have hT : TX E G B_28 R H := by rw [eB_28]; exact hT.w (by rw [hg_22]; exact hn) ho
  have hWB_28 : TW G B_28 R := by rw [eB_28]; exact hWB_19.w (by rw [hg_22]; exact trivial)
  have hW := hWB_28
  refine lv_iinc (v := 1) (lv' := [(2, .int 1), (0, .ref h0), (1, .ref p0)]) hx hb dX2_becomeLike_67 hl (k := 0) rfl (by decide) (by decide) rfl (fun ls hl => ?_)
  refine lv_goto (tgt := 50) hx hb dX2_becomeLike_70 (by decide) ?_
  refine lv_iload_n hx hb dX2_becomeLike_50 rfl (lv_at hl 0 rfl) ?_
  refine lv_iconst (v := 4) hx hb dX2_becomeLike_51 (by decide) ?_
  refine lv_icmp_ge (tgt := 73) hx hb dX2_becomeLike_52 (by decide) (fun c_29 => absurd c_29 (by decide)) (fun c_29 => ?_)
  refine lv_aload_n hx hb dX2_becomeLike_55 rfl (lv_at hl 1 rfl) ?_
  have ha_30 := tx_31 hT hG
  refine va_get (D := DG E) (ci := 2) (v := .ref (R h0 7)) (C := RX2) (T := TX2) (N := 8) hx hb hts iw_X2 hown hK.1 (va_one ha_30) 0 rfl rfl 7 (by decide) (hts _ fl_X2_9) (fun _ h9 => h9) rfl dX2_becomeLike_56 ?_
  refine lv_iload_n hx hb dX2_becomeLike_59 rfl (lv_at hl 0 rfl) ?_
  refine lv_aload_n hx hb dX2_becomeLike_60 rfl (lv_at hl 2 rfl) ?_
  have ha_31 := tx_31 hT hG0
  refine va_get (D := DG E) (ci := 2) (v := .ref (R p0 7)) (C := RX2) (T := TX2) (N := 8) hx hb hts iw_X2 hown hK.1 (va_one ha_31) 0 rfl rfl 7 (by decide) (hts _ fl_X2_9) (fun _ h9 => h9) rfl dX2_becomeLike_61 ?_
  refine lv_iload_n hx hb dX2_becomeLike_64 rfl (lv_at hl 0 rfl) ?_
  have ha_32 := tx_32 hT hg_24
  refine va_iald (D := DG E) hx hb hK.1 (va_one ha_32) 0 0 rfl rfl (show vp_in (1) 4 from vp_in_iff.mpr ⟨by decide, by decide⟩) dX2_becomeLike_65 ?_
  refine W.eq (g2 := F0 m 66 ls [.int (B_28 (R p0 7) 1), .int 1, .ref (R h0 7)]) (by rfl) ?_
  have ha_33 := tx_32 hT hg_22
  refine rr_iast (D := DG E) hx hb hK.1 0 ha_33 hS (by show G (R h0 7) ∈ ([31, 32] : List Nat); rw [hg_22]; decide) rfl (show vp_in (1) 4 from vp_in_iff.mpr ⟨by decide, by decide⟩) dX2_becomeLike_66 (fun H locs hn ho hz hS => ?_)
  obtain ⟨B_34, eB_34⟩ : ∃ z : AA, z = uA B_28 (R h0 7) (upd (B_28 (R h0 7)) 1 (B_28 (R p0 7) 1)) := ⟨_, rfl⟩
  have sB_34 : B_34 (R h0 7) 1 = (B_28 (R p0 7) 1) := by rw [eB_34, uA_s]; exact upd_s
  have nB_34 : ∀ k, k ≠ 1 → B_34 (R h0 7) k = B_28 (R h0 7) k := fun k hk => by rw [eB_34, uA_s]; exact upd_n hk
  have fB_34 : ∀ c, G c ≠ 32 → B_34 c = B_28 c := fun c hc => by rw [eB_34]; exact uA_n (fun e => hc (by rw [e]; exact hg_22))
  have hT : TX E G B_34 R H := by rw [eB_34]; exact hT.w (by rw [hg_22]; exact hn) ho
  have hWB_34 : TW G B_34 R := by rw [eB_34]; exact hWB_28.w (by rw [hg_22]; exact trivial)
  have hW := hWB_34
  refine lv_iinc (v := 2) (lv' := [(2, .int 2), (0, .ref h0), (1, .ref p0)]) hx hb dX2_becomeLike_67 hl (k := 0) rfl (by decide) (by decide) rfl (fun ls hl => ?_)
  refine lv_goto (tgt := 50) hx hb dX2_becomeLike_70 (by decide) ?_
  refine lv_iload_n hx hb dX2_becomeLike_50 rfl (lv_at hl 0 rfl) ?_
  refine lv_iconst (v := 4) hx hb dX2_becomeLike_51 (by decide) ?_
  refine lv_icmp_ge (tgt := 73) hx hb dX2_becomeLike_52 (by decide) (fun c_35 => absurd c_35 (by decide)) (fun c_35 => ?_)
  refine lv_aload_n hx hb dX2_becomeLike_55 rfl (lv_at hl 1 rfl) ?_
  have ha_36 := tx_31 hT hG
  refine va_get (D := DG E) (ci := 2) (v := .ref (R h0 7)) (C := RX2) (T := TX2) (N := 8) hx hb hts iw_X2 hown hK.1 (va_one ha_36) 0 rfl rfl 7 (by decide) (hts _ fl_X2_9) (fun _ h9 => h9) rfl dX2_becomeLike_56 ?_
  refine lv_iload_n hx hb dX2_becomeLike_59 rfl (lv_at hl 0 rfl) ?_
  refine lv_aload_n hx hb dX2_becomeLike_60 rfl (lv_at hl 2 rfl) ?_
  have ha_37 := tx_31 hT hG0
  refine va_get (D := DG E) (ci := 2) (v := .ref (R p0 7)) (C := RX2) (T := TX2) (N := 8) hx hb hts iw_X2 hown hK.1 (va_one ha_37) 0 rfl rfl 7 (by decide) (hts _ fl_X2_9) (fun _ h9 => h9) rfl dX2_becomeLike_61 ?_
  refine lv_iload_n hx hb dX2_becomeLike_64 rfl (lv_at hl 0 rfl) ?_
  have ha_38 := tx_32 hT hg_24
  refine va_iald (D := DG E) hx hb hK.1 (va_one ha_38) 0 0 rfl rfl (show vp_in (2) 4 from vp_in_iff.mpr ⟨by decide, by decide⟩) dX2_becomeLike_65 ?_
  refine W.eq (g2 := F0 m 66 ls [.int (B_34 (R p0 7) 2), .int 2, .ref (R h0 7)]) (by rfl) ?_
  have ha_39 := tx_32 hT hg_22
  refine rr_iast (D := DG E) hx hb hK.1 0 ha_39 hS (by show G (R h0 7) ∈ ([31, 32] : List Nat); rw [hg_22]; decide) rfl (show vp_in (2) 4 from vp_in_iff.mpr ⟨by decide, by decide⟩) dX2_becomeLike_66 (fun H locs hn ho hz hS => ?_)
  obtain ⟨B_40, eB_40⟩ : ∃ z : AA, z = uA B_34 (R h0 7) (upd (B_34 (R h0 7)) 2 (B_34 (R p0 7) 2)) := ⟨_, rfl⟩
  have sB_40 : B_40 (R h0 7) 2 = (B_34 (R p0 7) 2) := by rw [eB_40, uA_s]; exact upd_s
  have nB_40 : ∀ k, k ≠ 2 → B_40 (R h0 7) k = B_34 (R h0 7) k := fun k hk => by rw [eB_40, uA_s]; exact upd_n hk
  have fB_40 : ∀ c, G c ≠ 32 → B_40 c = B_34 c := fun c hc => by rw [eB_40]; exact uA_n (fun e => hc (by rw [e]; exact hg_22))
  have hT : TX E G B_40 R H := by rw [eB_40]; exact hT.w (by rw [hg_22]; exact hn) ho
  have hWB_40 : TW G B_40 R := by rw [eB_40]; exact hWB_34.w (by rw [hg_22]; exact trivial)
  have hW := hWB_40
  refine lv_iinc (v := 3) (lv' := [(2, .int 3), (0, .ref h0), (1, .ref p0)]) hx hb dX2_becomeLike_67 hl (k := 0) rfl (by decide) (by decide) rfl (fun ls hl => ?_)
  refine lv_goto (tgt := 50) hx hb dX2_becomeLike_70 (by decide) ?_
  refine lv_iload_n hx hb dX2_becomeLike_50 rfl (lv_at hl 0 rfl) ?_
  refine lv_iconst (v := 4) hx hb dX2_becomeLike_51 (by decide) ?_
  refine lv_icmp_ge (tgt := 73) hx hb dX2_becomeLike_52 (by decide) (fun c_41 => absurd c_41 (by decide)) (fun c_41 => ?_)
  refine lv_aload_n hx hb dX2_becomeLike_55 rfl (lv_at hl 1 rfl) ?_
  have ha_42 := tx_31 hT hG
  refine va_get (D := DG E) (ci := 2) (v := .ref (R h0 7)) (C := RX2) (T := TX2) (N := 8) hx hb hts iw_X2 hown hK.1 (va_one ha_42) 0 rfl rfl 7 (by decide) (hts _ fl_X2_9) (fun _ h9 => h9) rfl dX2_becomeLike_56 ?_
  refine lv_iload_n hx hb dX2_becomeLike_59 rfl (lv_at hl 0 rfl) ?_
  refine lv_aload_n hx hb dX2_becomeLike_60 rfl (lv_at hl 2 rfl) ?_
  have ha_43 := tx_31 hT hG0
  refine va_get (D := DG E) (ci := 2) (v := .ref (R p0 7)) (C := RX2) (T := TX2) (N := 8) hx hb hts iw_X2 hown hK.1 (va_one ha_43) 0 rfl rfl 7 (by decide) (hts _ fl_X2_9) (fun _ h9 => h9) rfl dX2_becomeLike_61 ?_
  refine lv_iload_n hx hb dX2_becomeLike_64 rfl (lv_at hl 0 rfl) ?_
  have ha_44 := tx_32 hT hg_24
  refine va_iald (D := DG E) hx hb hK.1 (va_one ha_44) 0 0 rfl rfl (show vp_in (3) 4 from vp_in_iff.mpr ⟨by decide, by decide⟩) dX2_becomeLike_65 ?_
  refine W.eq (g2 := F0 m 66 ls [.int (B_40 (R p0 7) 3), .int 3, .ref (R h0 7)]) (by rfl) ?_
  have ha_45 := tx_32 hT hg_22
  refine rr_iast (D := DG E) hx hb hK.1 0 ha_45 hS (by show G (R h0 7) ∈ ([31, 32] : List Nat); rw [hg_22]; decide) rfl (show vp_in (3) 4 from vp_in_iff.mpr ⟨by decide, by decide⟩) dX2_becomeLike_66 (fun H locs hn ho hz hS => ?_)
  obtain ⟨B_46, eB_46⟩ : ∃ z : AA, z = uA B_40 (R h0 7) (upd (B_40 (R h0 7)) 3 (B_40 (R p0 7) 3)) := ⟨_, rfl⟩
  have sB_46 : B_46 (R h0 7) 3 = (B_40 (R p0 7) 3) := by rw [eB_46, uA_s]; exact upd_s
  have nB_46 : ∀ k, k ≠ 3 → B_46 (R h0 7) k = B_40 (R h0 7) k := fun k hk => by rw [eB_46, uA_s]; exact upd_n hk
  have fB_46 : ∀ c, G c ≠ 32 → B_46 c = B_40 c := fun c hc => by rw [eB_46]; exact uA_n (fun e => hc (by rw [e]; exact hg_22))
  have hT : TX E G B_46 R H := by rw [eB_46]; exact hT.w (by rw [hg_22]; exact hn) ho
  have hWB_46 : TW G B_46 R := by rw [eB_46]; exact hWB_40.w (by rw [hg_22]; exact trivial)
  have hW := hWB_46
  refine lv_iinc (v := 4) (lv' := [(2, .int 4), (0, .ref h0), (1, .ref p0)]) hx hb dX2_becomeLike_67 hl (k := 0) rfl (by decide) (by decide) rfl (fun ls hl => ?_)
  refine lv_goto (tgt := 50) hx hb dX2_becomeLike_70 (by decide) ?_
  refine lv_iload_n hx hb dX2_becomeLike_50 rfl (lv_at hl 0 rfl) ?_
  refine lv_iconst (v := 4) hx hb dX2_becomeLike_51 (by decide) ?_
  refine lv_icmp_ge (tgt := 73) hx hb dX2_becomeLike_52 (by decide) (fun c_47 => ?_) (fun c_47 => absurd c_47 (by decide))
  exact W.vret hx hb hr (fun t ht hW9 => ⟨⟨B_46, rfl, ⟨hW, (Fr.w (Fr.w (Fr.w (Fr.w (Fr.w (Fr.w (Fr.w (Fr.w (Fr.c Fr.rf hFr_4 (by decide)) hG (by decide) eB_10) hG (by decide) eB_13) hG (by decide) eB_16) hG (by decide) eB_19) hg_22 (by decide) eB_28) hg_22 (by decide) eB_34) hg_22 (by decide) eB_40) hg_22 (by decide) eB_46), ⟨U_5, hFr_4, hCr_4, B_10, eB_10, B_13, eB_13, B_16, eB_16, B_19, eB_19, B_28, eB_28, B_34, eB_34, B_40, eB_40, B_46, eB_46, rfl⟩⟩, (by show TX E G B_46 R t.heap; rw [ht]; exact hT)⟩, hS.F ht⟩) hS.2.2 dX2_becomeLike_73
theorem dX2_load_0 : decode cX2_load 0 = .ok (.aload_n 0, 1) := by decide +kernel
theorem dX2_load_1 : decode cX2_load 1 = .ok (.iload_n 3, 1) := by decide +kernel
theorem dX2_load_2 : decode cX2_load 2 = .ok (.iconst 4, 1) := by decide +kernel
theorem dX2_load_3 : decode cX2_load 3 = .ok (.invokestatic 41, 3) := by decide +kernel
theorem dX2_load_6 : decode cX2_load 6 = .ok (.putfield 25, 3) := by decide +kernel
theorem dX2_load_9 : decode cX2_load 9 = .ok (.iconst 0, 1) := by decide +kernel
theorem dX2_load_10 : decode cX2_load 10 = .ok (.istore 4, 2) := by decide +kernel
theorem dX2_load_12 : decode cX2_load 12 = .ok (.iload 4, 2) := by decide +kernel
theorem dX2_load_14 : decode cX2_load 14 = .ok (.aload_n 0, 1) := by decide +kernel
theorem dX2_load_15 : decode cX2_load 15 = .ok (.getfield 25, 3) := by decide +kernel
theorem dX2_load_18 : decode cX2_load 18 = .ok (.if_icmp .ge 24, 3) := by decide +kernel
theorem dX2_load_21 : decode cX2_load 21 = .ok (.aload_n 0, 1) := by decide +kernel
theorem dX2_load_22 : decode cX2_load 22 = .ok (.getfield 9, 3) := by decide +kernel
theorem dX2_load_25 : decode cX2_load 25 = .ok (.iload 4, 2) := by decide +kernel
theorem dX2_load_27 : decode cX2_load 27 = .ok (.aload_n 1, 1) := by decide +kernel
theorem dX2_load_28 : decode cX2_load 28 = .ok (.iload_n 2, 1) := by decide +kernel
theorem dX2_load_29 : decode cX2_load 29 = .ok (.iload 4, 2) := by decide +kernel
theorem dX2_load_31 : decode cX2_load 31 = .ok (.iadd, 1) := by decide +kernel
theorem dX2_load_32 : decode cX2_load 32 = .ok (.invokevirtual 47, 3) := by decide +kernel
theorem dX2_load_35 : decode cX2_load 35 = .ok (.iastore, 1) := by decide +kernel
theorem dX2_load_36 : decode cX2_load 36 = .ok (.iinc 4 1, 3) := by decide +kernel
theorem dX2_load_39 : decode cX2_load 39 = .ok (.goto (-27), 3) := by decide +kernel
theorem dX2_load_42 : decode cX2_load 42 = .ok (.return_, 1) := by decide +kernel
set_option maxHeartbeats 8000000 in
set_option maxRecDepth 100000 in
theorem x_X2_load (l : Launch) (E : EE) (z0 : Nat) (G : Nat → Nat) (hGz : ∀ q, G q ≠ 0 → z0 ≤ q) (B : AA) (R : RR) (hW : TW G B R) (h0 : Nat) (p0 : Nat) (p1 : Int32) (p2 : Int32) (hG : G h0 = 31) (hG0 : G p0 = 5) : Met l yX2_load [Cond.code yX2_load cX2_load 5 none] ({ frames := 2, cells := 0, slots := 0, locals := 41 } : Room) (va_Pc [.ref h0, .ref p0, .int p1, .int p2] (fun U => TX E G B R U.heap ∧ KS E z0 U)) (va_Qv (fun (u : AA) => (TW G u R) ∧ (Fr G ([31, 32] : List Nat) B u) ∧ (C_X2_load G B R h0 p0 p1 p2 u)) (fun u t => TX E G u R t.heap) (fun q : Nat => G q ∈ ([31, 32] : List Nat))) 0 0 (fun q : Nat => G q ∈ ([31, 32] : List Nat)) := by
  refine Met.ofW (cc := cX2_load) (maxL := 5) (ret := none) (by decide) rfl ?_
  intro p e s m args below meth c s₁ B9 hml hv
  obtain ⟨rfl, hT, hK⟩ := hv
  have hx := B9.exec
  have hb := B9.bytes
  have hr := B9.returns
  have hts : ∀ w ∈ TS, w.before ([.ref h0, .ref p0, .int p1, .int p2] : List Value).toArray s = true := fun w hw => hK.2.1 w hw _
  have hown : s.vm.findClass RX2 = some m.cls := findClass_of_methodNamed B9.named
  have hlocks := B9.notSynchronized
  have hS : va_S (fun q : Nat => G q ∈ ([31, 32] : List Nat)) s.heap s.heap [] := va_S.rf
  have hAz : ∀ q, (fun q : Nat => G q ∈ ([31, 32] : List Nat)) q → z0 ≤ q := zL hGz (by decide)
  have hW_0 := hW
  have hl := lv_entry ([.ref h0, .ref p0, .int p1, .int p2]) (n := 5) (Nat.le_of_ble_eq_true rfl)
  rw [lg_entry_eq]
  generalize (lg_sl ([.ref h0, .ref p0, .int p1, .int p2]) ++ List.replicate (5 - (lg_sl ([.ref h0, .ref p0, .int p1, .int p2])).length) Slot.unset).toArray = ls at hl ⊢
  have hl : lv_has ls 5 [(0, .ref h0), (1, .ref p0), (2, .int p1), (3, .int p2)] := hl
  refine lv_aload_n hx hb dX2_load_0 rfl (lv_at hl 0 rfl) ?_
  refine lv_iload_n hx hb dX2_load_1 rfl (lv_at hl 3 rfl) ?_
  refine lv_iconst (v := 4) hx hb dX2_load_2 (by decide) ?_
  refine va_mmin hx hb (by rw [hml]; exact hl.1.symm) hown (hts _ ml_X2_41) (hts _ st_Math_min) (hts _ in_Math) (hts _ co_Math_min) (Nat.le_of_ble_eq_true rfl) (Nat.le_of_ble_eq_true rfl) (Nat.zero_le _) (Nat.zero_le _) dX2_load_3 ?_
  refine lv_topi (fun x_1 ex_1 => ?_)
  have fx_1 := s_min ex_1; rw [i_4] at fx_1
  have ha_2 := tx_31 hT hG
  have h9_3 := tw_31 hW_0 hG
  refine rr_put (D := DG E) (ci := 2) (v := .int x_1) (ty := .int) (C := RX2) (T := TX2) (N := 8) hx hb hts iw_X2 tyX2 tyX2_ok nmX2 hown hK.1 ha_2 hS (by show G h0 ∈ ([31, 32] : List Nat); rw [hG]; decide) rfl 3 (by decide) (hts _ fl_X2_25) (fun _ h9 => h9) rfl (by decide +kernel) rfl rfl (Nat.le_of_ble_eq_true rfl) dX2_load_6 (fun H locs hn ho hz hS => ?_)
  obtain ⟨B_4, eB_4⟩ : ∃ z : AA, z = uA B h0 (upd (B h0) 3 x_1) := ⟨_, rfl⟩
  have sB_4 : B_4 h0 3 = x_1 := by rw [eB_4, uA_s]; exact upd_s
  have nB_4 : ∀ k, k ≠ 3 → B_4 h0 k = B h0 k := fun k hk => by rw [eB_4, uA_s]; exact upd_n hk
  have fB_4 : ∀ c, G c ≠ 31 → B_4 c = B c := fun c hc => by rw [eB_4]; exact uA_n (fun e => hc (by rw [e]; exact hG))
  have hT : TX E G B_4 R H := by rw [eB_4]; exact hT.w (by rw [hG]; exact hn) ho
  have hWB_4 : TW G B_4 R := by rw [eB_4]; exact hW_0.w (by rw [hG]; exact ⟨h9_3.1, (show (x_1 : Int32).toInt ≤ 12 from by omega), h9_3.2.2⟩)
  have hW := hWB_4
  refine lv_iconst (v := 0) hx hb dX2_load_9 (by decide) ?_
  refine lv_istore (lv' := [(4, .int 0), (0, .ref h0), (1, .ref p0), (2, .int p1), (3, .int p2)]) hx hb dX2_load_10 hl (by decide) rfl (fun ls hl => ?_)
  refine lv_iload hx hb dX2_load_12 (lv_at hl 0 rfl) ?_
  refine lv_aload_n hx hb dX2_load_14 rfl (lv_at hl 1 rfl) ?_
  have ha_5 := tx_31 hT hG
  have l_6 : B_4 h0 3 = x_1 := sB_4
  refine va_get (D := DG E) (ci := 2) (v := .int (B_4 h0 3)) (C := RX2) (T := TX2) (N := 8) hx hb hts iw_X2 hown hK.1 (va_one ha_5) 0 rfl rfl 3 (by decide) (hts _ fl_X2_25) (fun _ h9 => h9) rfl dX2_load_15 ?_
  refine W.eq (g2 := F0 m 18 ls [.int x_1, .int 0]) (by rw [l_6]) ?_
  refine lv_icmp_ge (tgt := 42) hx hb dX2_load_18 (by decide) (fun c_7 => ?_) (fun c_7 => ?_)
  · simp only [lt_I, le_I, eq_I, i_0, i_1, i_2, i_3, i_4, i_5, i_6, i_7, i_8, i_10, i_12, i_16, i_20, i_23, i_24, i_31, i_32, i_63, i_64, i_m1] at c_7
    exact W.vret hx hb hr (fun t ht hW9 => ⟨⟨B_4, rfl, ⟨hW, (Fr.w Fr.rf hG (by decide) eB_4), (Or.inl ⟨x_1, ex_1, B_4, eB_4, c_7, rfl⟩)⟩, (by show TX E G B_4 R t.heap; rw [ht]; exact hT)⟩, hS.F ht⟩) hS.2.2 dX2_load_42
  · simp only [lt_I, le_I, eq_I, i_0, i_1, i_2, i_3, i_4, i_5, i_6, i_7, i_8, i_10, i_12, i_16, i_20, i_23, i_24, i_31, i_32, i_63, i_64, i_m1] at c_7
    refine lv_aload_n hx hb dX2_load_21 rfl (lv_at hl 1 rfl) ?_
    have hg_8 : G (R h0 7) = 32 := (tw_31 hW hG).2.2
    refine va_get (D := DG E) (ci := 2) (v := .ref (R h0 7)) (C := RX2) (T := TX2) (N := 8) hx hb hts iw_X2 hown hK.1 (va_one ha_5) 0 rfl rfl 7 (by decide) (hts _ fl_X2_9) (fun _ h9 => h9) rfl dX2_load_22 ?_
    refine lv_iload hx hb dX2_load_25 (lv_at hl 0 rfl) ?_
    refine lv_aload_n hx hb dX2_load_27 rfl (lv_at hl 2 rfl) ?_
    refine lv_iload_n hx hb dX2_load_28 rfl (lv_at hl 3 rfl) ?_
    refine lv_iload hx hb dX2_load_29 (lv_at hl 0 rfl) ?_
    refine lv_iadd hx hb dX2_load_31 ?_
    refine lv_topi (fun x_9 ex_9 => ?_)
    have ha_10 := tx_5 hT hG0
    refine va_calli (rnV (fun H => TX E G B_4 R H) (As := [.int x_9]) (rest := [.int 0, .ref (R h0 7)]) ⟨hx, hb, hml, hown, hts⟩ (x_X1_at l E z0 G hGz B_4 R hW p0 x_9 hG0) (cwV 1 hts (gdV ml_X2_47 im_X1_at se_X1_X1_at in_X1 co_X1_at rfl) rfl rfl rfl (by decide +kernel) ⟨Nat.le_of_ble_eq_true rfl, Nat.le_of_ble_eq_true rfl⟩) hT (fun U hU hW => hK.go hW hS hAz hU) (va_recv hK.1 (va_one ha_10) (ci := 1) (q0 := 0) rfl rfl) rfl rfl hl.1 rfl (lv_room (Nat.le_of_ble_eq_true rfl)) dX2_load_32 ⟨Nat.le_of_ble_eq_true rfl, Nat.le_of_ble_eq_true rfl⟩) hS (fun q _ h => h.elim) (fun q h => h.elim) (fun r_11 _ t H locs ht hvm hwr_11 hB hz hk hS => ?_)
    have hT : TX E G B_4 R H := hT.kept (fun q hq => hk q hq (fun h => h))
    have hCr_11 : C_X1_at G B_4 R p0 x_9 r_11 := hwr_11
    have ha_12 := tx_32 hT hg_8
    refine rr_iast (D := DG E) hx hb hK.1 0 ha_12 hS (by show G (R h0 7) ∈ ([31, 32] : List Nat); rw [hg_8]; decide) rfl (show vp_in (0) 4 from vp_in_iff.mpr ⟨by decide, by decide⟩) dX2_load_35 (fun H locs hn ho hz hS => ?_)
    obtain ⟨B_13, eB_13⟩ : ∃ z : AA, z = uA B_4 (R h0 7) (upd (B_4 (R h0 7)) 0 r_11) := ⟨_, rfl⟩
    have sB_13 : B_13 (R h0 7) 0 = r_11 := by rw [eB_13, uA_s]; exact upd_s
    have nB_13 : ∀ k, k ≠ 0 → B_13 (R h0 7) k = B_4 (R h0 7) k := fun k hk => by rw [eB_13, uA_s]; exact upd_n hk
    have fB_13 : ∀ c, G c ≠ 32 → B_13 c = B_4 c := fun c hc => by rw [eB_13]; exact uA_n (fun e => hc (by rw [e]; exact hg_8))
    have hT : TX E G B_13 R H := by rw [eB_13]; exact hT.w (by rw [hg_8]; exact hn) ho
    have hWB_13 : TW G B_13 R := by rw [eB_13]; exact hWB_4.w (by rw [hg_8]; exact trivial)
    have hW := hWB_13
    refine lv_iinc (v := 1) (lv' := [(4, .int 1), (0, .ref h0), (1, .ref p0), (2, .int p1), (3, .int p2)]) hx hb dX2_load_36 hl (k := 0) rfl (by decide) (by decide) rfl (fun ls hl => ?_)
    refine lv_goto (tgt := 12) hx hb dX2_load_39 (by decide) ?_
    refine lv_iload hx hb dX2_load_12 (lv_at hl 0 rfl) ?_
    refine lv_aload_n hx hb dX2_load_14 rfl (lv_at hl 1 rfl) ?_
    have ha_14 := tx_31 hT hG
    have l_15 : B_13 h0 3 = x_1 := ((congrFun (fB_13 h0 (by rw [hG]; decide)) 3)).trans (sB_4)
    refine va_get (D := DG E) (ci := 2) (v := .int (B_13 h0 3)) (C := RX2) (T := TX2) (N := 8) hx hb hts iw_X2 hown hK.1 (va_one ha_14) 0 rfl rfl 3 (by decide) (hts _ fl_X2_25) (fun _ h9 => h9) rfl dX2_load_15 ?_
    refine W.eq (g2 := F0 m 18 ls [.int x_1, .int 1]) (by rw [l_15]) ?_
    refine lv_icmp_ge (tgt := 42) hx hb dX2_load_18 (by decide) (fun c_16 => ?_) (fun c_16 => ?_)
    · simp only [lt_I, le_I, eq_I, i_0, i_1, i_2, i_3, i_4, i_5, i_6, i_7, i_8, i_10, i_12, i_16, i_20, i_23, i_24, i_31, i_32, i_63, i_64, i_m1] at c_16
      exact W.vret hx hb hr (fun t ht hW9 => ⟨⟨B_13, rfl, ⟨hW, (Fr.w (Fr.w Fr.rf hG (by decide) eB_4) hg_8 (by decide) eB_13), (Or.inr (Or.inl ⟨x_1, ex_1, B_4, eB_4, c_7, x_9, ex_9, r_11, hCr_11, B_13, eB_13, c_16, rfl⟩))⟩, (by show TX E G B_13 R t.heap; rw [ht]; exact hT)⟩, hS.F ht⟩) hS.2.2 dX2_load_42
    · simp only [lt_I, le_I, eq_I, i_0, i_1, i_2, i_3, i_4, i_5, i_6, i_7, i_8, i_10, i_12, i_16, i_20, i_23, i_24, i_31, i_32, i_63, i_64, i_m1] at c_16
      refine lv_aload_n hx hb dX2_load_21 rfl (lv_at hl 1 rfl) ?_
      refine va_get (D := DG E) (ci := 2) (v := .ref (R h0 7)) (C := RX2) (T := TX2) (N := 8) hx hb hts iw_X2 hown hK.1 (va_one ha_14) 0 rfl rfl 7 (by decide) (hts _ fl_X2_9) (fun _ h9 => h9) rfl dX2_load_22 ?_
      refine lv_iload hx hb dX2_load_25 (lv_at hl 0 rfl) ?_
      refine lv_aload_n hx hb dX2_load_27 rfl (lv_at hl 2 rfl) ?_
      refine lv_iload_n hx hb dX2_load_28 rfl (lv_at hl 3 rfl) ?_
      refine lv_iload hx hb dX2_load_29 (lv_at hl 0 rfl) ?_
      refine lv_iadd hx hb dX2_load_31 ?_
      refine lv_topi (fun x_17 ex_17 => ?_)
      have ha_18 := tx_5 hT hG0
      refine va_calli (rnV (fun H => TX E G B_13 R H) (As := [.int x_17]) (rest := [.int 1, .ref (R h0 7)]) ⟨hx, hb, hml, hown, hts⟩ (x_X1_at l E z0 G hGz B_13 R hW p0 x_17 hG0) (cwV 1 hts (gdV ml_X2_47 im_X1_at se_X1_X1_at in_X1 co_X1_at rfl) rfl rfl rfl (by decide +kernel) ⟨Nat.le_of_ble_eq_true rfl, Nat.le_of_ble_eq_true rfl⟩) hT (fun U hU hW => hK.go hW hS hAz hU) (va_recv hK.1 (va_one ha_18) (ci := 1) (q0 := 0) rfl rfl) rfl rfl hl.1 rfl (lv_room (Nat.le_of_ble_eq_true rfl)) dX2_load_32 ⟨Nat.le_of_ble_eq_true rfl, Nat.le_of_ble_eq_true rfl⟩) hS (fun q _ h => h.elim) (fun q h => h.elim) (fun r_19 _ t H locs ht hvm hwr_19 hB hz hk hS => ?_)
      have hT : TX E G B_13 R H := hT.kept (fun q hq => hk q hq (fun h => h))
      have hCr_19 : C_X1_at G B_13 R p0 x_17 r_19 := hwr_19
      have ha_20 := tx_32 hT hg_8
      refine rr_iast (D := DG E) hx hb hK.1 0 ha_20 hS (by show G (R h0 7) ∈ ([31, 32] : List Nat); rw [hg_8]; decide) rfl (show vp_in (1) 4 from vp_in_iff.mpr ⟨by decide, by decide⟩) dX2_load_35 (fun H locs hn ho hz hS => ?_)
      obtain ⟨B_21, eB_21⟩ : ∃ z : AA, z = uA B_13 (R h0 7) (upd (B_13 (R h0 7)) 1 r_19) := ⟨_, rfl⟩
      have sB_21 : B_21 (R h0 7) 1 = r_19 := by rw [eB_21, uA_s]; exact upd_s
      have nB_21 : ∀ k, k ≠ 1 → B_21 (R h0 7) k = B_13 (R h0 7) k := fun k hk => by rw [eB_21, uA_s]; exact upd_n hk
      have fB_21 : ∀ c, G c ≠ 32 → B_21 c = B_13 c := fun c hc => by rw [eB_21]; exact uA_n (fun e => hc (by rw [e]; exact hg_8))
      have hT : TX E G B_21 R H := by rw [eB_21]; exact hT.w (by rw [hg_8]; exact hn) ho
      have hWB_21 : TW G B_21 R := by rw [eB_21]; exact hWB_13.w (by rw [hg_8]; exact trivial)
      have hW := hWB_21
      refine lv_iinc (v := 2) (lv' := [(4, .int 2), (0, .ref h0), (1, .ref p0), (2, .int p1), (3, .int p2)]) hx hb dX2_load_36 hl (k := 0) rfl (by decide) (by decide) rfl (fun ls hl => ?_)
      refine lv_goto (tgt := 12) hx hb dX2_load_39 (by decide) ?_
      refine lv_iload hx hb dX2_load_12 (lv_at hl 0 rfl) ?_
      refine lv_aload_n hx hb dX2_load_14 rfl (lv_at hl 1 rfl) ?_
      have ha_22 := tx_31 hT hG
      have l_23 : B_21 h0 3 = x_1 := ((congrFun (fB_21 h0 (by rw [hG]; decide)) 3)).trans (((congrFun (fB_13 h0 (by rw [hG]; decide)) 3)).trans (sB_4))
      refine va_get (D := DG E) (ci := 2) (v := .int (B_21 h0 3)) (C := RX2) (T := TX2) (N := 8) hx hb hts iw_X2 hown hK.1 (va_one ha_22) 0 rfl rfl 3 (by decide) (hts _ fl_X2_25) (fun _ h9 => h9) rfl dX2_load_15 ?_
      refine W.eq (g2 := F0 m 18 ls [.int x_1, .int 2]) (by rw [l_23]) ?_
      refine lv_icmp_ge (tgt := 42) hx hb dX2_load_18 (by decide) (fun c_24 => ?_) (fun c_24 => ?_)
      · simp only [lt_I, le_I, eq_I, i_0, i_1, i_2, i_3, i_4, i_5, i_6, i_7, i_8, i_10, i_12, i_16, i_20, i_23, i_24, i_31, i_32, i_63, i_64, i_m1] at c_24
        exact W.vret hx hb hr (fun t ht hW9 => ⟨⟨B_21, rfl, ⟨hW, (Fr.w (Fr.w (Fr.w Fr.rf hG (by decide) eB_4) hg_8 (by decide) eB_13) hg_8 (by decide) eB_21), (Or.inr (Or.inr (Or.inl ⟨x_1, ex_1, B_4, eB_4, c_7, x_9, ex_9, r_11, hCr_11, B_13, eB_13, c_16, x_17, ex_17, r_19, hCr_19, B_21, eB_21, c_24, rfl⟩)))⟩, (by show TX E G B_21 R t.heap; rw [ht]; exact hT)⟩, hS.F ht⟩) hS.2.2 dX2_load_42
      · simp only [lt_I, le_I, eq_I, i_0, i_1, i_2, i_3, i_4, i_5, i_6, i_7, i_8, i_10, i_12, i_16, i_20, i_23, i_24, i_31, i_32, i_63, i_64, i_m1] at c_24
        refine lv_aload_n hx hb dX2_load_21 rfl (lv_at hl 1 rfl) ?_
        refine va_get (D := DG E) (ci := 2) (v := .ref (R h0 7)) (C := RX2) (T := TX2) (N := 8) hx hb hts iw_X2 hown hK.1 (va_one ha_22) 0 rfl rfl 7 (by decide) (hts _ fl_X2_9) (fun _ h9 => h9) rfl dX2_load_22 ?_
        refine lv_iload hx hb dX2_load_25 (lv_at hl 0 rfl) ?_
        refine lv_aload_n hx hb dX2_load_27 rfl (lv_at hl 2 rfl) ?_
        refine lv_iload_n hx hb dX2_load_28 rfl (lv_at hl 3 rfl) ?_
        refine lv_iload hx hb dX2_load_29 (lv_at hl 0 rfl) ?_
        refine lv_iadd hx hb dX2_load_31 ?_
        refine lv_topi (fun x_25 ex_25 => ?_)
        have ha_26 := tx_5 hT hG0
        refine va_calli (rnV (fun H => TX E G B_21 R H) (As := [.int x_25]) (rest := [.int 2, .ref (R h0 7)]) ⟨hx, hb, hml, hown, hts⟩ (x_X1_at l E z0 G hGz B_21 R hW p0 x_25 hG0) (cwV 1 hts (gdV ml_X2_47 im_X1_at se_X1_X1_at in_X1 co_X1_at rfl) rfl rfl rfl (by decide +kernel) ⟨Nat.le_of_ble_eq_true rfl, Nat.le_of_ble_eq_true rfl⟩) hT (fun U hU hW => hK.go hW hS hAz hU) (va_recv hK.1 (va_one ha_26) (ci := 1) (q0 := 0) rfl rfl) rfl rfl hl.1 rfl (lv_room (Nat.le_of_ble_eq_true rfl)) dX2_load_32 ⟨Nat.le_of_ble_eq_true rfl, Nat.le_of_ble_eq_true rfl⟩) hS (fun q _ h => h.elim) (fun q h => h.elim) (fun r_27 _ t H locs ht hvm hwr_27 hB hz hk hS => ?_)
        have hT : TX E G B_21 R H := hT.kept (fun q hq => hk q hq (fun h => h))
        have hCr_27 : C_X1_at G B_21 R p0 x_25 r_27 := hwr_27
        have ha_28 := tx_32 hT hg_8
        refine rr_iast (D := DG E) hx hb hK.1 0 ha_28 hS (by show G (R h0 7) ∈ ([31, 32] : List Nat); rw [hg_8]; decide) rfl (show vp_in (2) 4 from vp_in_iff.mpr ⟨by decide, by decide⟩) dX2_load_35 (fun H locs hn ho hz hS => ?_)
        obtain ⟨B_29, eB_29⟩ : ∃ z : AA, z = uA B_21 (R h0 7) (upd (B_21 (R h0 7)) 2 r_27) := ⟨_, rfl⟩
        have sB_29 : B_29 (R h0 7) 2 = r_27 := by rw [eB_29, uA_s]; exact upd_s
        have nB_29 : ∀ k, k ≠ 2 → B_29 (R h0 7) k = B_21 (R h0 7) k := fun k hk => by rw [eB_29, uA_s]; exact upd_n hk
        have fB_29 : ∀ c, G c ≠ 32 → B_29 c = B_21 c := fun c hc => by rw [eB_29]; exact uA_n (fun e => hc (by rw [e]; exact hg_8))
        have hT : TX E G B_29 R H := by rw [eB_29]; exact hT.w (by rw [hg_8]; exact hn) ho
        have hWB_29 : TW G B_29 R := by rw [eB_29]; exact hWB_21.w (by rw [hg_8]; exact trivial)
        have hW := hWB_29
        refine lv_iinc (v := 3) (lv' := [(4, .int 3), (0, .ref h0), (1, .ref p0), (2, .int p1), (3, .int p2)]) hx hb dX2_load_36 hl (k := 0) rfl (by decide) (by decide) rfl (fun ls hl => ?_)
        refine lv_goto (tgt := 12) hx hb dX2_load_39 (by decide) ?_
        refine lv_iload hx hb dX2_load_12 (lv_at hl 0 rfl) ?_
        refine lv_aload_n hx hb dX2_load_14 rfl (lv_at hl 1 rfl) ?_
        have ha_30 := tx_31 hT hG
        have l_31 : B_29 h0 3 = x_1 := ((congrFun (fB_29 h0 (by rw [hG]; decide)) 3)).trans (((congrFun (fB_21 h0 (by rw [hG]; decide)) 3)).trans (((congrFun (fB_13 h0 (by rw [hG]; decide)) 3)).trans (sB_4)))
        refine va_get (D := DG E) (ci := 2) (v := .int (B_29 h0 3)) (C := RX2) (T := TX2) (N := 8) hx hb hts iw_X2 hown hK.1 (va_one ha_30) 0 rfl rfl 3 (by decide) (hts _ fl_X2_25) (fun _ h9 => h9) rfl dX2_load_15 ?_
        refine W.eq (g2 := F0 m 18 ls [.int x_1, .int 3]) (by rw [l_31]) ?_
        refine lv_icmp_ge (tgt := 42) hx hb dX2_load_18 (by decide) (fun c_32 => ?_) (fun c_32 => ?_)
        · simp only [lt_I, le_I, eq_I, i_0, i_1, i_2, i_3, i_4, i_5, i_6, i_7, i_8, i_10, i_12, i_16, i_20, i_23, i_24, i_31, i_32, i_63, i_64, i_m1] at c_32
          exact W.vret hx hb hr (fun t ht hW9 => ⟨⟨B_29, rfl, ⟨hW, (Fr.w (Fr.w (Fr.w (Fr.w Fr.rf hG (by decide) eB_4) hg_8 (by decide) eB_13) hg_8 (by decide) eB_21) hg_8 (by decide) eB_29), (Or.inr (Or.inr (Or.inr (Or.inl ⟨x_1, ex_1, B_4, eB_4, c_7, x_9, ex_9, r_11, hCr_11, B_13, eB_13, c_16, x_17, ex_17, r_19, hCr_19, B_21, eB_21, c_24, x_25, ex_25, r_27, hCr_27, B_29, eB_29, c_32, rfl⟩))))⟩, (by show TX E G B_29 R t.heap; rw [ht]; exact hT)⟩, hS.F ht⟩) hS.2.2 dX2_load_42
        · simp only [lt_I, le_I, eq_I, i_0, i_1, i_2, i_3, i_4, i_5, i_6, i_7, i_8, i_10, i_12, i_16, i_20, i_23, i_24, i_31, i_32, i_63, i_64, i_m1] at c_32
          refine lv_aload_n hx hb dX2_load_21 rfl (lv_at hl 1 rfl) ?_
          refine va_get (D := DG E) (ci := 2) (v := .ref (R h0 7)) (C := RX2) (T := TX2) (N := 8) hx hb hts iw_X2 hown hK.1 (va_one ha_30) 0 rfl rfl 7 (by decide) (hts _ fl_X2_9) (fun _ h9 => h9) rfl dX2_load_22 ?_
          refine lv_iload hx hb dX2_load_25 (lv_at hl 0 rfl) ?_
          refine lv_aload_n hx hb dX2_load_27 rfl (lv_at hl 2 rfl) ?_
          refine lv_iload_n hx hb dX2_load_28 rfl (lv_at hl 3 rfl) ?_
          refine lv_iload hx hb dX2_load_29 (lv_at hl 0 rfl) ?_
          refine lv_iadd hx hb dX2_load_31 ?_
          refine lv_topi (fun x_33 ex_33 => ?_)
          have ha_34 := tx_5 hT hG0
          refine va_calli (rnV (fun H => TX E G B_29 R H) (As := [.int x_33]) (rest := [.int 3, .ref (R h0 7)]) ⟨hx, hb, hml, hown, hts⟩ (x_X1_at l E z0 G hGz B_29 R hW p0 x_33 hG0) (cwV 1 hts (gdV ml_X2_47 im_X1_at se_X1_X1_at in_X1 co_X1_at rfl) rfl rfl rfl (by decide +kernel) ⟨Nat.le_of_ble_eq_true rfl, Nat.le_of_ble_eq_true rfl⟩) hT (fun U hU hW => hK.go hW hS hAz hU) (va_recv hK.1 (va_one ha_34) (ci := 1) (q0 := 0) rfl rfl) rfl rfl hl.1 rfl (lv_room (Nat.le_of_ble_eq_true rfl)) dX2_load_32 ⟨Nat.le_of_ble_eq_true rfl, Nat.le_of_ble_eq_true rfl⟩) hS (fun q _ h => h.elim) (fun q h => h.elim) (fun r_35 _ t H locs ht hvm hwr_35 hB hz hk hS => ?_)
          have hT : TX E G B_29 R H := hT.kept (fun q hq => hk q hq (fun h => h))
          have hCr_35 : C_X1_at G B_29 R p0 x_33 r_35 := hwr_35
          have ha_36 := tx_32 hT hg_8
          refine rr_iast (D := DG E) hx hb hK.1 0 ha_36 hS (by show G (R h0 7) ∈ ([31, 32] : List Nat); rw [hg_8]; decide) rfl (show vp_in (3) 4 from vp_in_iff.mpr ⟨by decide, by decide⟩) dX2_load_35 (fun H locs hn ho hz hS => ?_)
          obtain ⟨B_37, eB_37⟩ : ∃ z : AA, z = uA B_29 (R h0 7) (upd (B_29 (R h0 7)) 3 r_35) := ⟨_, rfl⟩
          have sB_37 : B_37 (R h0 7) 3 = r_35 := by rw [eB_37, uA_s]; exact upd_s
          have nB_37 : ∀ k, k ≠ 3 → B_37 (R h0 7) k = B_29 (R h0 7) k := fun k hk => by rw [eB_37, uA_s]; exact upd_n hk
          have fB_37 : ∀ c, G c ≠ 32 → B_37 c = B_29 c := fun c hc => by rw [eB_37]; exact uA_n (fun e => hc (by rw [e]; exact hg_8))
          have hT : TX E G B_37 R H := by rw [eB_37]; exact hT.w (by rw [hg_8]; exact hn) ho
          have hWB_37 : TW G B_37 R := by rw [eB_37]; exact hWB_29.w (by rw [hg_8]; exact trivial)
          have hW := hWB_37
          refine lv_iinc (v := 4) (lv' := [(4, .int 4), (0, .ref h0), (1, .ref p0), (2, .int p1), (3, .int p2)]) hx hb dX2_load_36 hl (k := 0) rfl (by decide) (by decide) rfl (fun ls hl => ?_)
          refine lv_goto (tgt := 12) hx hb dX2_load_39 (by decide) ?_
          refine lv_iload hx hb dX2_load_12 (lv_at hl 0 rfl) ?_
          refine lv_aload_n hx hb dX2_load_14 rfl (lv_at hl 1 rfl) ?_
          have ha_38 := tx_31 hT hG
          have l_39 : B_37 h0 3 = x_1 := ((congrFun (fB_37 h0 (by rw [hG]; decide)) 3)).trans (((congrFun (fB_29 h0 (by rw [hG]; decide)) 3)).trans (((congrFun (fB_21 h0 (by rw [hG]; decide)) 3)).trans (((congrFun (fB_13 h0 (by rw [hG]; decide)) 3)).trans (sB_4))))
          refine va_get (D := DG E) (ci := 2) (v := .int (B_37 h0 3)) (C := RX2) (T := TX2) (N := 8) hx hb hts iw_X2 hown hK.1 (va_one ha_38) 0 rfl rfl 3 (by decide) (hts _ fl_X2_25) (fun _ h9 => h9) rfl dX2_load_15 ?_
          refine W.eq (g2 := F0 m 18 ls [.int x_1, .int 4]) (by rw [l_39]) ?_
          refine lv_icmp_ge (tgt := 42) hx hb dX2_load_18 (by decide) (fun c_40 => ?_) (fun c_40 => by exfalso; simp only [lt_I, le_I, eq_I, i_0, i_1, i_2, i_3, i_4, i_5, i_6, i_7, i_8, i_10, i_12, i_16, i_20, i_23, i_24, i_31, i_32, i_63, i_64, i_m1] at c_40; omega)
          exact W.vret hx hb hr (fun t ht hW9 => ⟨⟨B_37, rfl, ⟨hW, (Fr.w (Fr.w (Fr.w (Fr.w (Fr.w Fr.rf hG (by decide) eB_4) hg_8 (by decide) eB_13) hg_8 (by decide) eB_21) hg_8 (by decide) eB_29) hg_8 (by decide) eB_37), (Or.inr (Or.inr (Or.inr (Or.inr ⟨x_1, ex_1, B_4, eB_4, c_7, x_9, ex_9, r_11, hCr_11, B_13, eB_13, c_16, x_17, ex_17, r_19, hCr_19, B_21, eB_21, c_24, x_25, ex_25, r_27, hCr_27, B_29, eB_29, c_32, x_33, ex_33, r_35, hCr_35, B_37, eB_37, rfl⟩))))⟩, (by show TX E G B_37 R t.heap; rw [ht]; exact hT)⟩, hS.F ht⟩) hS.2.2 dX2_load_42
theorem dX2_unload_0 : decode cX2_unload 0 = .ok (.iconst 0, 1) := by decide +kernel
theorem dX2_unload_1 : decode cX2_unload 1 = .ok (.istore 4, 2) := by decide +kernel
theorem dX2_unload_3 : decode cX2_unload 3 = .ok (.iload 4, 2) := by decide +kernel
theorem dX2_unload_5 : decode cX2_unload 5 = .ok (.aload_n 0, 1) := by decide +kernel
theorem dX2_unload_6 : decode cX2_unload 6 = .ok (.getfield 25, 3) := by decide +kernel
theorem dX2_unload_9 : decode cX2_unload 9 = .ok (.if_icmp .ge 36, 3) := by decide +kernel
theorem dX2_unload_12 : decode cX2_unload 12 = .ok (.iload 4, 2) := by decide +kernel
theorem dX2_unload_14 : decode cX2_unload 14 = .ok (.iload_n 3, 1) := by decide +kernel
theorem dX2_unload_15 : decode cX2_unload 15 = .ok (.if_icmp .ge 30, 3) := by decide +kernel
theorem dX2_unload_18 : decode cX2_unload 18 = .ok (.iload 4, 2) := by decide +kernel
theorem dX2_unload_20 : decode cX2_unload 20 = .ok (.iconst 4, 1) := by decide +kernel
theorem dX2_unload_21 : decode cX2_unload 21 = .ok (.if_icmp .ge 24, 3) := by decide +kernel
theorem dX2_unload_24 : decode cX2_unload 24 = .ok (.aload_n 1, 1) := by decide +kernel
theorem dX2_unload_25 : decode cX2_unload 25 = .ok (.iload_n 2, 1) := by decide +kernel
theorem dX2_unload_26 : decode cX2_unload 26 = .ok (.iload 4, 2) := by decide +kernel
theorem dX2_unload_28 : decode cX2_unload 28 = .ok (.iadd, 1) := by decide +kernel
theorem dX2_unload_29 : decode cX2_unload 29 = .ok (.aload_n 0, 1) := by decide +kernel
theorem dX2_unload_30 : decode cX2_unload 30 = .ok (.getfield 9, 3) := by decide +kernel
theorem dX2_unload_33 : decode cX2_unload 33 = .ok (.iload 4, 2) := by decide +kernel
theorem dX2_unload_35 : decode cX2_unload 35 = .ok (.iaload, 1) := by decide +kernel
theorem dX2_unload_36 : decode cX2_unload 36 = .ok (.invokevirtual 53, 3) := by decide +kernel
theorem dX2_unload_39 : decode cX2_unload 39 = .ok (.iinc 4 1, 3) := by decide +kernel
theorem dX2_unload_42 : decode cX2_unload 42 = .ok (.goto (-39), 3) := by decide +kernel
theorem dX2_unload_45 : decode cX2_unload 45 = .ok (.return_, 1) := by decide +kernel
set_option maxHeartbeats 8000000 in
set_option maxRecDepth 100000 in
theorem x_X2_unload (l : Launch) (E : EE) (z0 : Nat) (G : Nat → Nat) (hGz : ∀ q, G q ≠ 0 → z0 ≤ q) (B : AA) (R : RR) (hW : TW G B R) (h0 : Nat) (p0 : Nat) (p1 : Int32) (p2 : Int32) (hG : G h0 = 31) (hG0 : G p0 = 5) : Met l yX2_unload [Cond.code yX2_unload cX2_unload 5 none] ({ frames := 2, cells := 0, slots := 0, locals := 42 } : Room) (va_Pc [.ref h0, .ref p0, .int p1, .int p2] (fun U => TX E G B R U.heap ∧ KS E z0 U)) (va_Qv (fun (u : AA) => (TW G u R) ∧ (Fr G ([14] : List Nat) B u) ∧ (C_X2_unload G B R h0 p0 p1 p2 u)) (fun u t => TX E G u R t.heap) (fun q : Nat => G q ∈ ([14] : List Nat))) 0 0 (fun q : Nat => G q ∈ ([14] : List Nat)) := by
  refine Met.ofW (cc := cX2_unload) (maxL := 5) (ret := none) (by decide) rfl ?_
  intro p e s m args below meth c s₁ B9 hml hv
  obtain ⟨rfl, hT, hK⟩ := hv
  have hx := B9.exec
  have hb := B9.bytes
  have hr := B9.returns
  have hts : ∀ w ∈ TS, w.before ([.ref h0, .ref p0, .int p1, .int p2] : List Value).toArray s = true := fun w hw => hK.2.1 w hw _
  have hown : s.vm.findClass RX2 = some m.cls := findClass_of_methodNamed B9.named
  have hlocks := B9.notSynchronized
  have hS : va_S (fun q : Nat => G q ∈ ([14] : List Nat)) s.heap s.heap [] := va_S.rf
  have hAz : ∀ q, (fun q : Nat => G q ∈ ([14] : List Nat)) q → z0 ≤ q := zL hGz (by decide)
  have hW_0 := hW
  have hl := lv_entry ([.ref h0, .ref p0, .int p1, .int p2]) (n := 5) (Nat.le_of_ble_eq_true rfl)
  rw [lg_entry_eq]
  generalize (lg_sl ([.ref h0, .ref p0, .int p1, .int p2]) ++ List.replicate (5 - (lg_sl ([.ref h0, .ref p0, .int p1, .int p2])).length) Slot.unset).toArray = ls at hl ⊢
  have hl : lv_has ls 5 [(0, .ref h0), (1, .ref p0), (2, .int p1), (3, .int p2)] := hl
  refine lv_iconst (v := 0) hx hb dX2_unload_0 (by decide) ?_
  refine lv_istore (lv' := [(4, .int 0), (0, .ref h0), (1, .ref p0), (2, .int p1), (3, .int p2)]) hx hb dX2_unload_1 hl (by decide) rfl (fun ls hl => ?_)
  refine lv_iload hx hb dX2_unload_3 (lv_at hl 0 rfl) ?_
  refine lv_aload_n hx hb dX2_unload_5 rfl (lv_at hl 1 rfl) ?_
  have ha_1 := tx_31 hT hG
  have hb_2 := (tw_31 hW_0 hG).2.1
  refine va_get (D := DG E) (ci := 2) (v := .int (B h0 3)) (C := RX2) (T := TX2) (N := 8) hx hb hts iw_X2 hown hK.1 (va_one ha_1) 0 rfl rfl 3 (by decide) (hts _ fl_X2_25) (fun _ h9 => h9) rfl dX2_unload_6 ?_
  refine lv_icmp_ge (tgt := 45) hx hb dX2_unload_9 (by decide) (fun c_3 => ?_) (fun c_3 => ?_)
  · simp only [lt_I, le_I, eq_I, i_0, i_1, i_2, i_3, i_4, i_5, i_6, i_7, i_8, i_10, i_12, i_16, i_20, i_23, i_24, i_31, i_32, i_63, i_64, i_m1] at c_3
    exact W.vret hx hb hr (fun t ht hW9 => ⟨⟨B, rfl, ⟨hW, Fr.rf, (Or.inl ⟨c_3, rfl⟩)⟩, (by show TX E G B R t.heap; rw [ht]; exact hT)⟩, hS.F ht⟩) hS.2.2 dX2_unload_45
  · simp only [lt_I, le_I, eq_I, i_0, i_1, i_2, i_3, i_4, i_5, i_6, i_7, i_8, i_10, i_12, i_16, i_20, i_23, i_24, i_31, i_32, i_63, i_64, i_m1] at c_3
    refine lv_iload hx hb dX2_unload_12 (lv_at hl 0 rfl) ?_
    refine lv_iload_n hx hb dX2_unload_14 rfl (lv_at hl 4 rfl) ?_
    refine lv_icmp_ge (tgt := 45) hx hb dX2_unload_15 (by decide) (fun c_4 => ?_) (fun c_4 => ?_)
    · simp only [lt_I, le_I, eq_I, i_0, i_1, i_2, i_3, i_4, i_5, i_6, i_7, i_8, i_10, i_12, i_16, i_20, i_23, i_24, i_31, i_32, i_63, i_64, i_m1] at c_4
      exact W.vret hx hb hr (fun t ht hW9 => ⟨⟨B, rfl, ⟨hW, Fr.rf, (Or.inr (Or.inl ⟨c_3, c_4, rfl⟩))⟩, (by show TX E G B R t.heap; rw [ht]; exact hT)⟩, hS.F ht⟩) hS.2.2 dX2_unload_45
    · simp only [lt_I, le_I, eq_I, i_0, i_1, i_2, i_3, i_4, i_5, i_6, i_7, i_8, i_10, i_12, i_16, i_20, i_23, i_24, i_31, i_32, i_63, i_64, i_m1] at c_4
      refine lv_iload hx hb dX2_unload_18 (lv_at hl 0 rfl) ?_
      refine lv_iconst (v := 4) hx hb dX2_unload_20 (by decide) ?_
      refine lv_icmp_ge (tgt := 45) hx hb dX2_unload_21 (by decide) (fun c_5 => absurd c_5 (by decide)) (fun c_5 => ?_)
      refine lv_aload_n hx hb dX2_unload_24 rfl (lv_at hl 2 rfl) ?_
      refine lv_iload_n hx hb dX2_unload_25 rfl (lv_at hl 3 rfl) ?_
      refine lv_iload hx hb dX2_unload_26 (lv_at hl 0 rfl) ?_
      refine lv_iadd hx hb dX2_unload_28 ?_
      refine lv_topi (fun x_6 ex_6 => ?_)
      refine lv_aload_n hx hb dX2_unload_29 rfl (lv_at hl 1 rfl) ?_
      have hg_7 : G (R h0 7) = 32 := (tw_31 hW hG).2.2
      refine va_get (D := DG E) (ci := 2) (v := .ref (R h0 7)) (C := RX2) (T := TX2) (N := 8) hx hb hts iw_X2 hown hK.1 (va_one ha_1) 0 rfl rfl 7 (by decide) (hts _ fl_X2_9) (fun _ h9 => h9) rfl dX2_unload_30 ?_
      refine lv_iload hx hb dX2_unload_33 (lv_at hl 0 rfl) ?_
      have ha_8 := tx_32 hT hg_7
      refine va_iald (D := DG E) hx hb hK.1 (va_one ha_8) 0 0 rfl rfl (show vp_in (0) 4 from vp_in_iff.mpr ⟨by decide, by decide⟩) dX2_unload_35 ?_
      refine W.eq (g2 := F0 m 36 ls [.int (B (R h0 7) 0), .int x_6, .ref p0]) (by rfl) ?_
      have ha_9 := tx_5 hT hG0
      refine va_callv (rnV (fun H => TX E G B R H) (As := [.int x_6, .int (B (R h0 7) 0)]) (rest := []) ⟨hx, hb, hml, hown, hts⟩ (x_X1_put l E z0 G hGz B R hW p0 x_6 (B (R h0 7) 0) hG0) (cwV 2 hts (gdV ml_X2_53 im_X1_put se_X1_X1_put in_X1 co_X1_put rfl) rfl rfl rfl (by decide +kernel) ⟨Nat.le_of_ble_eq_true rfl, Nat.le_of_ble_eq_true rfl⟩) hT (fun U hU hW => hK.go hW hS hAz hU) (va_recv hK.1 (va_one ha_9) (ci := 1) (q0 := 0) rfl rfl) rfl rfl hl.1 rfl (lv_room (Nat.le_of_ble_eq_true rfl)) dX2_unload_36 ⟨Nat.le_of_ble_eq_true rfl, Nat.le_of_ble_eq_true rfl⟩) hS (fun q _ h => mL (L' := [14]) (L := [14]) (by decide) h) (fun q h => mL (L' := [14]) (L := [14]) (by decide) h) (fun U_11 t H locs ht hvm hwr_10 hB hz hk hS => ?_)
      have hT : TX E G U_11 R H := by rw [ht] at hB; exact hB
      have hWr_10 : TW G U_11 R := hwr_10.1
      have hW := hWr_10
      have hFr_10 : Fr G [14] B U_11 := hwr_10.2.1
      have hCr_10 : C_X1_put G B R p0 x_6 (B (R h0 7) 0) U_11 := hwr_10.2.2
      refine lv_iinc (v := 1) (lv' := [(4, .int 1), (0, .ref h0), (1, .ref p0), (2, .int p1), (3, .int p2)]) hx hb dX2_unload_39 hl (k := 0) rfl (by decide) (by decide) rfl (fun ls hl => ?_)
      refine lv_goto (tgt := 3) hx hb dX2_unload_42 (by decide) ?_
      refine lv_iload hx hb dX2_unload_3 (lv_at hl 0 rfl) ?_
      refine lv_aload_n hx hb dX2_unload_5 rfl (lv_at hl 1 rfl) ?_
      have ha_12 := tx_31 hT hG
      have l_13 : U_11 h0 3 = (B h0 3) := (congrFun (hFr_10 h0 (by rw [hG]; decide)) 3)
      refine va_get (D := DG E) (ci := 2) (v := .int (U_11 h0 3)) (C := RX2) (T := TX2) (N := 8) hx hb hts iw_X2 hown hK.1 (va_one ha_12) 0 rfl rfl 3 (by decide) (hts _ fl_X2_25) (fun _ h9 => h9) rfl dX2_unload_6 ?_
      refine W.eq (g2 := F0 m 9 ls [.int (B h0 3), .int 1]) (by rw [l_13]) ?_
      refine lv_icmp_ge (tgt := 45) hx hb dX2_unload_9 (by decide) (fun c_14 => ?_) (fun c_14 => ?_)
      · simp only [lt_I, le_I, eq_I, i_0, i_1, i_2, i_3, i_4, i_5, i_6, i_7, i_8, i_10, i_12, i_16, i_20, i_23, i_24, i_31, i_32, i_63, i_64, i_m1] at c_14
        exact W.vret hx hb hr (fun t ht hW9 => ⟨⟨U_11, rfl, ⟨hW, (Fr.c Fr.rf hFr_10 (by decide)), (Or.inr (Or.inr (Or.inl ⟨c_3, c_4, x_6, ex_6, U_11, hFr_10, hCr_10, c_14, rfl⟩)))⟩, (by show TX E G U_11 R t.heap; rw [ht]; exact hT)⟩, hS.F ht⟩) hS.2.2 dX2_unload_45
      · simp only [lt_I, le_I, eq_I, i_0, i_1, i_2, i_3, i_4, i_5, i_6, i_7, i_8, i_10, i_12, i_16, i_20, i_23, i_24, i_31, i_32, i_63, i_64, i_m1] at c_14
        refine lv_iload hx hb dX2_unload_12 (lv_at hl 0 rfl) ?_
        refine lv_iload_n hx hb dX2_unload_14 rfl (lv_at hl 4 rfl) ?_
        refine lv_icmp_ge (tgt := 45) hx hb dX2_unload_15 (by decide) (fun c_15 => ?_) (fun c_15 => ?_)
        · simp only [lt_I, le_I, eq_I, i_0, i_1, i_2, i_3, i_4, i_5, i_6, i_7, i_8, i_10, i_12, i_16, i_20, i_23, i_24, i_31, i_32, i_63, i_64, i_m1] at c_15
          exact W.vret hx hb hr (fun t ht hW9 => ⟨⟨U_11, rfl, ⟨hW, (Fr.c Fr.rf hFr_10 (by decide)), (Or.inr (Or.inr (Or.inr (Or.inl ⟨c_3, c_4, x_6, ex_6, U_11, hFr_10, hCr_10, c_14, c_15, rfl⟩))))⟩, (by show TX E G U_11 R t.heap; rw [ht]; exact hT)⟩, hS.F ht⟩) hS.2.2 dX2_unload_45
        · simp only [lt_I, le_I, eq_I, i_0, i_1, i_2, i_3, i_4, i_5, i_6, i_7, i_8, i_10, i_12, i_16, i_20, i_23, i_24, i_31, i_32, i_63, i_64, i_m1] at c_15
          refine lv_iload hx hb dX2_unload_18 (lv_at hl 0 rfl) ?_
          refine lv_iconst (v := 4) hx hb dX2_unload_20 (by decide) ?_
          refine lv_icmp_ge (tgt := 45) hx hb dX2_unload_21 (by decide) (fun c_16 => absurd c_16 (by decide)) (fun c_16 => ?_)
          refine lv_aload_n hx hb dX2_unload_24 rfl (lv_at hl 2 rfl) ?_
          refine lv_iload_n hx hb dX2_unload_25 rfl (lv_at hl 3 rfl) ?_
          refine lv_iload hx hb dX2_unload_26 (lv_at hl 0 rfl) ?_
          refine lv_iadd hx hb dX2_unload_28 ?_
          refine lv_topi (fun x_17 ex_17 => ?_)
          refine lv_aload_n hx hb dX2_unload_29 rfl (lv_at hl 1 rfl) ?_
          refine va_get (D := DG E) (ci := 2) (v := .ref (R h0 7)) (C := RX2) (T := TX2) (N := 8) hx hb hts iw_X2 hown hK.1 (va_one ha_12) 0 rfl rfl 7 (by decide) (hts _ fl_X2_9) (fun _ h9 => h9) rfl dX2_unload_30 ?_
          refine lv_iload hx hb dX2_unload_33 (lv_at hl 0 rfl) ?_
          have ha_18 := tx_32 hT hg_7
          have l_19 : U_11 (R h0 7) 1 = (B (R h0 7) 1) := (congrFun (hFr_10 (R h0 7) (by rw [hg_7]; decide)) 1)
          refine va_iald (D := DG E) hx hb hK.1 (va_one ha_18) 0 0 rfl rfl (show vp_in (1) 4 from vp_in_iff.mpr ⟨by decide, by decide⟩) dX2_unload_35 ?_
          refine W.eq (g2 := F0 m 36 ls [.int (B (R h0 7) 1), .int x_17, .ref p0]) (congrArg (fun z => F0 m 36 ls (.int z :: [.int x_17, .ref p0])) l_19) ?_
          have ha_20 := tx_5 hT hG0
          refine va_callv (rnV (fun H => TX E G U_11 R H) (As := [.int x_17, .int (B (R h0 7) 1)]) (rest := []) ⟨hx, hb, hml, hown, hts⟩ (x_X1_put l E z0 G hGz U_11 R hW p0 x_17 (B (R h0 7) 1) hG0) (cwV 2 hts (gdV ml_X2_53 im_X1_put se_X1_X1_put in_X1 co_X1_put rfl) rfl rfl rfl (by decide +kernel) ⟨Nat.le_of_ble_eq_true rfl, Nat.le_of_ble_eq_true rfl⟩) hT (fun U hU hW => hK.go hW hS hAz hU) (va_recv hK.1 (va_one ha_20) (ci := 1) (q0 := 0) rfl rfl) rfl rfl hl.1 rfl (lv_room (Nat.le_of_ble_eq_true rfl)) dX2_unload_36 ⟨Nat.le_of_ble_eq_true rfl, Nat.le_of_ble_eq_true rfl⟩) hS (fun q _ h => mL (L' := [14]) (L := [14]) (by decide) h) (fun q h => mL (L' := [14]) (L := [14]) (by decide) h) (fun U_22 t H locs ht hvm hwr_21 hB hz hk hS => ?_)
          have hT : TX E G U_22 R H := by rw [ht] at hB; exact hB
          have hWr_21 : TW G U_22 R := hwr_21.1
          have hW := hWr_21
          have hFr_21 : Fr G [14] U_11 U_22 := hwr_21.2.1
          have hCr_21 : C_X1_put G U_11 R p0 x_17 (B (R h0 7) 1) U_22 := hwr_21.2.2
          refine lv_iinc (v := 2) (lv' := [(4, .int 2), (0, .ref h0), (1, .ref p0), (2, .int p1), (3, .int p2)]) hx hb dX2_unload_39 hl (k := 0) rfl (by decide) (by decide) rfl (fun ls hl => ?_)
          refine lv_goto (tgt := 3) hx hb dX2_unload_42 (by decide) ?_
          refine lv_iload hx hb dX2_unload_3 (lv_at hl 0 rfl) ?_
          refine lv_aload_n hx hb dX2_unload_5 rfl (lv_at hl 1 rfl) ?_
          have ha_23 := tx_31 hT hG
          have l_24 : U_22 h0 3 = (B h0 3) := ((congrFun (hFr_21 h0 (by rw [hG]; decide)) 3)).trans ((congrFun (hFr_10 h0 (by rw [hG]; decide)) 3))
          refine va_get (D := DG E) (ci := 2) (v := .int (U_22 h0 3)) (C := RX2) (T := TX2) (N := 8) hx hb hts iw_X2 hown hK.1 (va_one ha_23) 0 rfl rfl 3 (by decide) (hts _ fl_X2_25) (fun _ h9 => h9) rfl dX2_unload_6 ?_
          refine W.eq (g2 := F0 m 9 ls [.int (B h0 3), .int 2]) (by rw [l_24]) ?_
          refine lv_icmp_ge (tgt := 45) hx hb dX2_unload_9 (by decide) (fun c_25 => ?_) (fun c_25 => ?_)
          · simp only [lt_I, le_I, eq_I, i_0, i_1, i_2, i_3, i_4, i_5, i_6, i_7, i_8, i_10, i_12, i_16, i_20, i_23, i_24, i_31, i_32, i_63, i_64, i_m1] at c_25
            exact W.vret hx hb hr (fun t ht hW9 => ⟨⟨U_22, rfl, ⟨hW, (Fr.c (Fr.c Fr.rf hFr_10 (by decide)) hFr_21 (by decide)), (Or.inr (Or.inr (Or.inr (Or.inr (Or.inl ⟨c_3, c_4, x_6, ex_6, U_11, hFr_10, hCr_10, c_14, c_15, x_17, ex_17, U_22, hFr_21, hCr_21, c_25, rfl⟩)))))⟩, (by show TX E G U_22 R t.heap; rw [ht]; exact hT)⟩, hS.F ht⟩) hS.2.2 dX2_unload_45
          · simp only [lt_I, le_I, eq_I, i_0, i_1, i_2, i_3, i_4, i_5, i_6, i_7, i_8, i_10, i_12, i_16, i_20, i_23, i_24, i_31, i_32, i_63, i_64, i_m1] at c_25
            refine lv_iload hx hb dX2_unload_12 (lv_at hl 0 rfl) ?_
            refine lv_iload_n hx hb dX2_unload_14 rfl (lv_at hl 4 rfl) ?_
            refine lv_icmp_ge (tgt := 45) hx hb dX2_unload_15 (by decide) (fun c_26 => ?_) (fun c_26 => ?_)
            · simp only [lt_I, le_I, eq_I, i_0, i_1, i_2, i_3, i_4, i_5, i_6, i_7, i_8, i_10, i_12, i_16, i_20, i_23, i_24, i_31, i_32, i_63, i_64, i_m1] at c_26
              exact W.vret hx hb hr (fun t ht hW9 => ⟨⟨U_22, rfl, ⟨hW, (Fr.c (Fr.c Fr.rf hFr_10 (by decide)) hFr_21 (by decide)), (Or.inr (Or.inr (Or.inr (Or.inr (Or.inr (Or.inl ⟨c_3, c_4, x_6, ex_6, U_11, hFr_10, hCr_10, c_14, c_15, x_17, ex_17, U_22, hFr_21, hCr_21, c_25, c_26, rfl⟩))))))⟩, (by show TX E G U_22 R t.heap; rw [ht]; exact hT)⟩, hS.F ht⟩) hS.2.2 dX2_unload_45
            · simp only [lt_I, le_I, eq_I, i_0, i_1, i_2, i_3, i_4, i_5, i_6, i_7, i_8, i_10, i_12, i_16, i_20, i_23, i_24, i_31, i_32, i_63, i_64, i_m1] at c_26
              refine lv_iload hx hb dX2_unload_18 (lv_at hl 0 rfl) ?_
              refine lv_iconst (v := 4) hx hb dX2_unload_20 (by decide) ?_
              refine lv_icmp_ge (tgt := 45) hx hb dX2_unload_21 (by decide) (fun c_27 => absurd c_27 (by decide)) (fun c_27 => ?_)
              refine lv_aload_n hx hb dX2_unload_24 rfl (lv_at hl 2 rfl) ?_
              refine lv_iload_n hx hb dX2_unload_25 rfl (lv_at hl 3 rfl) ?_
              refine lv_iload hx hb dX2_unload_26 (lv_at hl 0 rfl) ?_
              refine lv_iadd hx hb dX2_unload_28 ?_
              refine lv_topi (fun x_28 ex_28 => ?_)
              refine lv_aload_n hx hb dX2_unload_29 rfl (lv_at hl 1 rfl) ?_
              refine va_get (D := DG E) (ci := 2) (v := .ref (R h0 7)) (C := RX2) (T := TX2) (N := 8) hx hb hts iw_X2 hown hK.1 (va_one ha_23) 0 rfl rfl 7 (by decide) (hts _ fl_X2_9) (fun _ h9 => h9) rfl dX2_unload_30 ?_
              refine lv_iload hx hb dX2_unload_33 (lv_at hl 0 rfl) ?_
              have ha_29 := tx_32 hT hg_7
              have l_30 : U_22 (R h0 7) 2 = (B (R h0 7) 2) := ((congrFun (hFr_21 (R h0 7) (by rw [hg_7]; decide)) 2)).trans ((congrFun (hFr_10 (R h0 7) (by rw [hg_7]; decide)) 2))
              refine va_iald (D := DG E) hx hb hK.1 (va_one ha_29) 0 0 rfl rfl (show vp_in (2) 4 from vp_in_iff.mpr ⟨by decide, by decide⟩) dX2_unload_35 ?_
              refine W.eq (g2 := F0 m 36 ls [.int (B (R h0 7) 2), .int x_28, .ref p0]) (congrArg (fun z => F0 m 36 ls (.int z :: [.int x_28, .ref p0])) l_30) ?_
              have ha_31 := tx_5 hT hG0
              refine va_callv (rnV (fun H => TX E G U_22 R H) (As := [.int x_28, .int (B (R h0 7) 2)]) (rest := []) ⟨hx, hb, hml, hown, hts⟩ (x_X1_put l E z0 G hGz U_22 R hW p0 x_28 (B (R h0 7) 2) hG0) (cwV 2 hts (gdV ml_X2_53 im_X1_put se_X1_X1_put in_X1 co_X1_put rfl) rfl rfl rfl (by decide +kernel) ⟨Nat.le_of_ble_eq_true rfl, Nat.le_of_ble_eq_true rfl⟩) hT (fun U hU hW => hK.go hW hS hAz hU) (va_recv hK.1 (va_one ha_31) (ci := 1) (q0 := 0) rfl rfl) rfl rfl hl.1 rfl (lv_room (Nat.le_of_ble_eq_true rfl)) dX2_unload_36 ⟨Nat.le_of_ble_eq_true rfl, Nat.le_of_ble_eq_true rfl⟩) hS (fun q _ h => mL (L' := [14]) (L := [14]) (by decide) h) (fun q h => mL (L' := [14]) (L := [14]) (by decide) h) (fun U_33 t H locs ht hvm hwr_32 hB hz hk hS => ?_)
              have hT : TX E G U_33 R H := by rw [ht] at hB; exact hB
              have hWr_32 : TW G U_33 R := hwr_32.1
              have hW := hWr_32
              have hFr_32 : Fr G [14] U_22 U_33 := hwr_32.2.1
              have hCr_32 : C_X1_put G U_22 R p0 x_28 (B (R h0 7) 2) U_33 := hwr_32.2.2
              refine lv_iinc (v := 3) (lv' := [(4, .int 3), (0, .ref h0), (1, .ref p0), (2, .int p1), (3, .int p2)]) hx hb dX2_unload_39 hl (k := 0) rfl (by decide) (by decide) rfl (fun ls hl => ?_)
              refine lv_goto (tgt := 3) hx hb dX2_unload_42 (by decide) ?_
              refine lv_iload hx hb dX2_unload_3 (lv_at hl 0 rfl) ?_
              refine lv_aload_n hx hb dX2_unload_5 rfl (lv_at hl 1 rfl) ?_
              have ha_34 := tx_31 hT hG
              have l_35 : U_33 h0 3 = (B h0 3) := ((congrFun (hFr_32 h0 (by rw [hG]; decide)) 3)).trans (((congrFun (hFr_21 h0 (by rw [hG]; decide)) 3)).trans ((congrFun (hFr_10 h0 (by rw [hG]; decide)) 3)))
              refine va_get (D := DG E) (ci := 2) (v := .int (U_33 h0 3)) (C := RX2) (T := TX2) (N := 8) hx hb hts iw_X2 hown hK.1 (va_one ha_34) 0 rfl rfl 3 (by decide) (hts _ fl_X2_25) (fun _ h9 => h9) rfl dX2_unload_6 ?_
              refine W.eq (g2 := F0 m 9 ls [.int (B h0 3), .int 3]) (by rw [l_35]) ?_
              refine lv_icmp_ge (tgt := 45) hx hb dX2_unload_9 (by decide) (fun c_36 => ?_) (fun c_36 => ?_)
              · simp only [lt_I, le_I, eq_I, i_0, i_1, i_2, i_3, i_4, i_5, i_6, i_7, i_8, i_10, i_12, i_16, i_20, i_23, i_24, i_31, i_32, i_63, i_64, i_m1] at c_36
                exact W.vret hx hb hr (fun t ht hW9 => ⟨⟨U_33, rfl, ⟨hW, (Fr.c (Fr.c (Fr.c Fr.rf hFr_10 (by decide)) hFr_21 (by decide)) hFr_32 (by decide)), (Or.inr (Or.inr (Or.inr (Or.inr (Or.inr (Or.inr (Or.inl ⟨c_3, c_4, x_6, ex_6, U_11, hFr_10, hCr_10, c_14, c_15, x_17, ex_17, U_22, hFr_21, hCr_21, c_25, c_26, x_28, ex_28, U_33, hFr_32, hCr_32, c_36, rfl⟩)))))))⟩, (by show TX E G U_33 R t.heap; rw [ht]; exact hT)⟩, hS.F ht⟩) hS.2.2 dX2_unload_45
              · simp only [lt_I, le_I, eq_I, i_0, i_1, i_2, i_3, i_4, i_5, i_6, i_7, i_8, i_10, i_12, i_16, i_20, i_23, i_24, i_31, i_32, i_63, i_64, i_m1] at c_36
                refine lv_iload hx hb dX2_unload_12 (lv_at hl 0 rfl) ?_
                refine lv_iload_n hx hb dX2_unload_14 rfl (lv_at hl 4 rfl) ?_
                refine lv_icmp_ge (tgt := 45) hx hb dX2_unload_15 (by decide) (fun c_37 => ?_) (fun c_37 => ?_)
                · simp only [lt_I, le_I, eq_I, i_0, i_1, i_2, i_3, i_4, i_5, i_6, i_7, i_8, i_10, i_12, i_16, i_20, i_23, i_24, i_31, i_32, i_63, i_64, i_m1] at c_37
                  exact W.vret hx hb hr (fun t ht hW9 => ⟨⟨U_33, rfl, ⟨hW, (Fr.c (Fr.c (Fr.c Fr.rf hFr_10 (by decide)) hFr_21 (by decide)) hFr_32 (by decide)), (Or.inr (Or.inr (Or.inr (Or.inr (Or.inr (Or.inr (Or.inr (Or.inl ⟨c_3, c_4, x_6, ex_6, U_11, hFr_10, hCr_10, c_14, c_15, x_17, ex_17, U_22, hFr_21, hCr_21, c_25, c_26, x_28, ex_28, U_33, hFr_32, hCr_32, c_36, c_37, rfl⟩))))))))⟩, (by show TX E G U_33 R t.heap; rw [ht]; exact hT)⟩, hS.F ht⟩) hS.2.2 dX2_unload_45
                · simp only [lt_I, le_I, eq_I, i_0, i_1, i_2, i_3, i_4, i_5, i_6, i_7, i_8, i_10, i_12, i_16, i_20, i_23, i_24, i_31, i_32, i_63, i_64, i_m1] at c_37
                  refine lv_iload hx hb dX2_unload_18 (lv_at hl 0 rfl) ?_
                  refine lv_iconst (v := 4) hx hb dX2_unload_20 (by decide) ?_
                  refine lv_icmp_ge (tgt := 45) hx hb dX2_unload_21 (by decide) (fun c_38 => absurd c_38 (by decide)) (fun c_38 => ?_)
                  refine lv_aload_n hx hb dX2_unload_24 rfl (lv_at hl 2 rfl) ?_
                  refine lv_iload_n hx hb dX2_unload_25 rfl (lv_at hl 3 rfl) ?_
                  refine lv_iload hx hb dX2_unload_26 (lv_at hl 0 rfl) ?_
                  refine lv_iadd hx hb dX2_unload_28 ?_
                  refine lv_topi (fun x_39 ex_39 => ?_)
                  refine lv_aload_n hx hb dX2_unload_29 rfl (lv_at hl 1 rfl) ?_
                  refine va_get (D := DG E) (ci := 2) (v := .ref (R h0 7)) (C := RX2) (T := TX2) (N := 8) hx hb hts iw_X2 hown hK.1 (va_one ha_34) 0 rfl rfl 7 (by decide) (hts _ fl_X2_9) (fun _ h9 => h9) rfl dX2_unload_30 ?_
                  refine lv_iload hx hb dX2_unload_33 (lv_at hl 0 rfl) ?_
                  have ha_40 := tx_32 hT hg_7
                  have l_41 : U_33 (R h0 7) 3 = (B (R h0 7) 3) := ((congrFun (hFr_32 (R h0 7) (by rw [hg_7]; decide)) 3)).trans (((congrFun (hFr_21 (R h0 7) (by rw [hg_7]; decide)) 3)).trans ((congrFun (hFr_10 (R h0 7) (by rw [hg_7]; decide)) 3)))
                  refine va_iald (D := DG E) hx hb hK.1 (va_one ha_40) 0 0 rfl rfl (show vp_in (3) 4 from vp_in_iff.mpr ⟨by decide, by decide⟩) dX2_unload_35 ?_
                  refine W.eq (g2 := F0 m 36 ls [.int (B (R h0 7) 3), .int x_39, .ref p0]) (congrArg (fun z => F0 m 36 ls (.int z :: [.int x_39, .ref p0])) l_41) ?_
                  have ha_42 := tx_5 hT hG0
                  refine va_callv (rnV (fun H => TX E G U_33 R H) (As := [.int x_39, .int (B (R h0 7) 3)]) (rest := []) ⟨hx, hb, hml, hown, hts⟩ (x_X1_put l E z0 G hGz U_33 R hW p0 x_39 (B (R h0 7) 3) hG0) (cwV 2 hts (gdV ml_X2_53 im_X1_put se_X1_X1_put in_X1 co_X1_put rfl) rfl rfl rfl (by decide +kernel) ⟨Nat.le_of_ble_eq_true rfl, Nat.le_of_ble_eq_true rfl⟩) hT (fun U hU hW => hK.go hW hS hAz hU) (va_recv hK.1 (va_one ha_42) (ci := 1) (q0 := 0) rfl rfl) rfl rfl hl.1 rfl (lv_room (Nat.le_of_ble_eq_true rfl)) dX2_unload_36 ⟨Nat.le_of_ble_eq_true rfl, Nat.le_of_ble_eq_true rfl⟩) hS (fun q _ h => mL (L' := [14]) (L := [14]) (by decide) h) (fun q h => mL (L' := [14]) (L := [14]) (by decide) h) (fun U_44 t H locs ht hvm hwr_43 hB hz hk hS => ?_)
                  have hT : TX E G U_44 R H := by rw [ht] at hB; exact hB
                  have hWr_43 : TW G U_44 R := hwr_43.1
                  have hW := hWr_43
                  have hFr_43 : Fr G [14] U_33 U_44 := hwr_43.2.1
                  have hCr_43 : C_X1_put G U_33 R p0 x_39 (B (R h0 7) 3) U_44 := hwr_43.2.2
                  refine lv_iinc (v := 4) (lv' := [(4, .int 4), (0, .ref h0), (1, .ref p0), (2, .int p1), (3, .int p2)]) hx hb dX2_unload_39 hl (k := 0) rfl (by decide) (by decide) rfl (fun ls hl => ?_)
                  refine lv_goto (tgt := 3) hx hb dX2_unload_42 (by decide) ?_
                  refine lv_iload hx hb dX2_unload_3 (lv_at hl 0 rfl) ?_
                  refine lv_aload_n hx hb dX2_unload_5 rfl (lv_at hl 1 rfl) ?_
                  have ha_45 := tx_31 hT hG
                  have l_46 : U_44 h0 3 = (B h0 3) := ((congrFun (hFr_43 h0 (by rw [hG]; decide)) 3)).trans (((congrFun (hFr_32 h0 (by rw [hG]; decide)) 3)).trans (((congrFun (hFr_21 h0 (by rw [hG]; decide)) 3)).trans ((congrFun (hFr_10 h0 (by rw [hG]; decide)) 3))))
                  refine va_get (D := DG E) (ci := 2) (v := .int (U_44 h0 3)) (C := RX2) (T := TX2) (N := 8) hx hb hts iw_X2 hown hK.1 (va_one ha_45) 0 rfl rfl 3 (by decide) (hts _ fl_X2_25) (fun _ h9 => h9) rfl dX2_unload_6 ?_
                  refine W.eq (g2 := F0 m 9 ls [.int (B h0 3), .int 4]) (by rw [l_46]) ?_
                  refine lv_icmp_ge (tgt := 45) hx hb dX2_unload_9 (by decide) (fun c_47 => ?_) (fun c_47 => ?_)
                  · simp only [lt_I, le_I, eq_I, i_0, i_1, i_2, i_3, i_4, i_5, i_6, i_7, i_8, i_10, i_12, i_16, i_20, i_23, i_24, i_31, i_32, i_63, i_64, i_m1] at c_47
                    exact W.vret hx hb hr (fun t ht hW9 => ⟨⟨U_44, rfl, ⟨hW, (Fr.c (Fr.c (Fr.c (Fr.c Fr.rf hFr_10 (by decide)) hFr_21 (by decide)) hFr_32 (by decide)) hFr_43 (by decide)), (Or.inr (Or.inr (Or.inr (Or.inr (Or.inr (Or.inr (Or.inr (Or.inr (Or.inl ⟨c_3, c_4, x_6, ex_6, U_11, hFr_10, hCr_10, c_14, c_15, x_17, ex_17, U_22, hFr_21, hCr_21, c_25, c_26, x_28, ex_28, U_33, hFr_32, hCr_32, c_36, c_37, x_39, ex_39, U_44, hFr_43, hCr_43, c_47, rfl⟩)))))))))⟩, (by show TX E G U_44 R t.heap; rw [ht]; exact hT)⟩, hS.F ht⟩) hS.2.2 dX2_unload_45
                  · simp only [lt_I, le_I, eq_I, i_0, i_1, i_2, i_3, i_4, i_5, i_6, i_7, i_8, i_10, i_12, i_16, i_20, i_23, i_24, i_31, i_32, i_63, i_64, i_m1] at c_47
                    refine lv_iload hx hb dX2_unload_12 (lv_at hl 0 rfl) ?_
                    refine lv_iload_n hx hb dX2_unload_14 rfl (lv_at hl 4 rfl) ?_
                    refine lv_icmp_ge (tgt := 45) hx hb dX2_unload_15 (by decide) (fun c_48 => ?_) (fun c_48 => ?_)
                    · simp only [lt_I, le_I, eq_I, i_0, i_1, i_2, i_3, i_4, i_5, i_6, i_7, i_8, i_10, i_12, i_16, i_20, i_23, i_24, i_31, i_32, i_63, i_64, i_m1] at c_48
                      exact W.vret hx hb hr (fun t ht hW9 => ⟨⟨U_44, rfl, ⟨hW, (Fr.c (Fr.c (Fr.c (Fr.c Fr.rf hFr_10 (by decide)) hFr_21 (by decide)) hFr_32 (by decide)) hFr_43 (by decide)), (Or.inr (Or.inr (Or.inr (Or.inr (Or.inr (Or.inr (Or.inr (Or.inr (Or.inr (Or.inl ⟨c_3, c_4, x_6, ex_6, U_11, hFr_10, hCr_10, c_14, c_15, x_17, ex_17, U_22, hFr_21, hCr_21, c_25, c_26, x_28, ex_28, U_33, hFr_32, hCr_32, c_36, c_37, x_39, ex_39, U_44, hFr_43, hCr_43, c_47, c_48, rfl⟩))))))))))⟩, (by show TX E G U_44 R t.heap; rw [ht]; exact hT)⟩, hS.F ht⟩) hS.2.2 dX2_unload_45
                    · simp only [lt_I, le_I, eq_I, i_0, i_1, i_2, i_3, i_4, i_5, i_6, i_7, i_8, i_10, i_12, i_16, i_20, i_23, i_24, i_31, i_32, i_63, i_64, i_m1] at c_48
                      refine lv_iload hx hb dX2_unload_18 (lv_at hl 0 rfl) ?_
                      refine lv_iconst (v := 4) hx hb dX2_unload_20 (by decide) ?_
                      refine lv_icmp_ge (tgt := 45) hx hb dX2_unload_21 (by decide) (fun c_49 => ?_) (fun c_49 => absurd c_49 (by decide))
                      exact W.vret hx hb hr (fun t ht hW9 => ⟨⟨U_44, rfl, ⟨hW, (Fr.c (Fr.c (Fr.c (Fr.c Fr.rf hFr_10 (by decide)) hFr_21 (by decide)) hFr_32 (by decide)) hFr_43 (by decide)), (Or.inr (Or.inr (Or.inr (Or.inr (Or.inr (Or.inr (Or.inr (Or.inr (Or.inr (Or.inr ⟨c_3, c_4, x_6, ex_6, U_11, hFr_10, hCr_10, c_14, c_15, x_17, ex_17, U_22, hFr_21, hCr_21, c_25, c_26, x_28, ex_28, U_33, hFr_32, hCr_32, c_36, c_37, x_39, ex_39, U_44, hFr_43, hCr_43, c_47, c_48, rfl⟩))))))))))⟩, (by show TX E G U_44 R t.heap; rw [ht]; exact hT)⟩, hS.F ht⟩) hS.2.2 dX2_unload_45
theorem dX2_isFirst_0 : decode cX2_isFirst 0 = .ok (.aload_n 0, 1) := by decide +kernel
theorem dX2_isFirst_1 : decode cX2_isFirst 1 = .ok (.getfield 28, 3) := by decide +kernel
theorem dX2_isFirst_4 : decode cX2_isFirst 4 = .ok (.iconst 1, 1) := by decide +kernel
theorem dX2_isFirst_5 : decode cX2_isFirst 5 = .ok (.iand, 1) := by decide +kernel
theorem dX2_isFirst_6 : decode cX2_isFirst 6 = .ok (.ifCond .eq 7, 3) := by decide +kernel
theorem dX2_isFirst_9 : decode cX2_isFirst 9 = .ok (.iconst 1, 1) := by decide +kernel
theorem dX2_isFirst_10 : decode cX2_isFirst 10 = .ok (.goto 4, 3) := by decide +kernel
theorem dX2_isFirst_13 : decode cX2_isFirst 13 = .ok (.iconst 0, 1) := by decide +kernel
theorem dX2_isFirst_14 : decode cX2_isFirst 14 = .ok (.ireturn, 1) := by decide +kernel
set_option maxHeartbeats 8000000 in
set_option maxRecDepth 100000 in
theorem x_X2_isFirst (l : Launch) (E : EE) (z0 : Nat) (G : Nat → Nat) (hGz : ∀ q, G q ≠ 0 → z0 ≤ q) (B : AA) (R : RR) (hW : TW G B R) (h0 : Nat) (hG : G h0 = 31) : Met l yX2_isFirst [Cond.code yX2_isFirst cX2_isFirst 1 (some .boolean)] ({ frames := 0, cells := 0, slots := 0, locals := 0 } : Room) (va_Pc [.ref h0] (fun U => TX E G B R U.heap ∧ KS E z0 U)) (va_Qi (fun (r : Int32) (u : Unit) => (r = 0 ∨ r = 1) ∧ (C_X2_isFirst G B R h0 r)) (fun u t => True) (fun _ : Nat => False)) 0 0 (fun _ : Nat => False) := by
  refine Met.ofW (cc := cX2_isFirst) (maxL := 1) (ret := (some .boolean)) (by decide) rfl ?_
  intro p e s m args below meth c s₁ B9 hml hv
  obtain ⟨rfl, hT, hK⟩ := hv
  have hx := B9.exec
  have hb := B9.bytes
  have hr := B9.returns
  have hts : ∀ w ∈ TS, w.before ([.ref h0] : List Value).toArray s = true := fun w hw => hK.2.1 w hw _
  have hown : s.vm.findClass RX2 = some m.cls := findClass_of_methodNamed B9.named
  have hlocks := B9.notSynchronized
  have hS : va_S (fun _ : Nat => False) s.heap s.heap [] := va_S.rf
  have hAz : ∀ q, (fun _ : Nat => False) q → z0 ≤ q := fun _ h => h.elim
  have hW_0 := hW
  have hl := lv_entry ([.ref h0]) (n := 1) (Nat.le_of_ble_eq_true rfl)
  rw [lg_entry_eq]
  generalize (lg_sl ([.ref h0]) ++ List.replicate (1 - (lg_sl ([.ref h0])).length) Slot.unset).toArray = ls at hl ⊢
  have hl : lv_has ls 1 [(0, .ref h0)] := hl
  refine lv_aload_n hx hb dX2_isFirst_0 rfl (lv_at hl 0 rfl) ?_
  have ha_1 := tx_31 hT hG
  refine va_get (D := DG E) (ci := 2) (v := .int (B h0 4)) (C := RX2) (T := TX2) (N := 8) hx hb hts iw_X2 hown hK.1 (va_one ha_1) 0 rfl rfl 4 (by decide) (hts _ fl_X2_28) (fun _ h9 => h9) rfl dX2_isFirst_1 ?_
  refine lv_iconst (v := 1) hx hb dX2_isFirst_4 (by decide) ?_
  refine lv_iand hx hb dX2_isFirst_5 ?_
  refine lv_topi (fun x_2 ex_2 => ?_)
  refine lv_if_eq (tgt := 13) hx hb dX2_isFirst_6 (by decide) (fun c_3 => ?_) (fun c_3 => ?_)
  · simp only [lt_I, le_I, eq_I, i_0, i_1, i_2, i_3, i_4, i_5, i_6, i_7, i_8, i_10, i_12, i_16, i_20, i_23, i_24, i_31, i_32, i_63, i_64, i_m1] at c_3
    refine lv_iconst (v := 0) hx hb dX2_isFirst_13 (by decide) ?_
    exact W.zret (v := 0) (ty := .boolean) hx hb hr rfl (fun t ht hW9 => ⟨⟨0, (), rfl, ⟨(by decide), (Or.inl ⟨x_2, ex_2, c_3, rfl⟩)⟩, trivial⟩, hS.F ht⟩) hS.2.2 dX2_isFirst_14
  · simp only [lt_I, le_I, eq_I, i_0, i_1, i_2, i_3, i_4, i_5, i_6, i_7, i_8, i_10, i_12, i_16, i_20, i_23, i_24, i_31, i_32, i_63, i_64, i_m1] at c_3
    refine lv_iconst (v := 1) hx hb dX2_isFirst_9 (by decide) ?_
    refine lv_goto (tgt := 14) hx hb dX2_isFirst_10 (by decide) ?_
    exact W.zret (v := 1) (ty := .boolean) hx hb hr rfl (fun t ht hW9 => ⟨⟨1, (), rfl, ⟨(by decide), (Or.inr ⟨x_2, ex_2, c_3, rfl⟩)⟩, trivial⟩, hS.F ht⟩) hS.2.2 dX2_isFirst_14
theorem dX2_isLast_0 : decode cX2_isLast 0 = .ok (.aload_n 0, 1) := by decide +kernel
theorem dX2_isLast_1 : decode cX2_isLast 1 = .ok (.getfield 28, 3) := by decide +kernel
theorem dX2_isLast_4 : decode cX2_isLast 4 = .ok (.iconst 2, 1) := by decide +kernel
theorem dX2_isLast_5 : decode cX2_isLast 5 = .ok (.iand, 1) := by decide +kernel
theorem dX2_isLast_6 : decode cX2_isLast 6 = .ok (.ifCond .eq 7, 3) := by decide +kernel
theorem dX2_isLast_9 : decode cX2_isLast 9 = .ok (.iconst 1, 1) := by decide +kernel
theorem dX2_isLast_10 : decode cX2_isLast 10 = .ok (.goto 4, 3) := by decide +kernel
theorem dX2_isLast_13 : decode cX2_isLast 13 = .ok (.iconst 0, 1) := by decide +kernel
theorem dX2_isLast_14 : decode cX2_isLast 14 = .ok (.ireturn, 1) := by decide +kernel
set_option maxHeartbeats 8000000 in
set_option maxRecDepth 100000 in
theorem x_X2_isLast (l : Launch) (E : EE) (z0 : Nat) (G : Nat → Nat) (hGz : ∀ q, G q ≠ 0 → z0 ≤ q) (B : AA) (R : RR) (hW : TW G B R) (h0 : Nat) (hG : G h0 = 31) : Met l yX2_isLast [Cond.code yX2_isLast cX2_isLast 1 (some .boolean)] ({ frames := 0, cells := 0, slots := 0, locals := 0 } : Room) (va_Pc [.ref h0] (fun U => TX E G B R U.heap ∧ KS E z0 U)) (va_Qi (fun (r : Int32) (u : Unit) => (r = 0 ∨ r = 1) ∧ (C_X2_isLast G B R h0 r)) (fun u t => True) (fun _ : Nat => False)) 0 0 (fun _ : Nat => False) := by
  refine Met.ofW (cc := cX2_isLast) (maxL := 1) (ret := (some .boolean)) (by decide) rfl ?_
  intro p e s m args below meth c s₁ B9 hml hv
  obtain ⟨rfl, hT, hK⟩ := hv
  have hx := B9.exec
  have hb := B9.bytes
  have hr := B9.returns
  have hts : ∀ w ∈ TS, w.before ([.ref h0] : List Value).toArray s = true := fun w hw => hK.2.1 w hw _
  have hown : s.vm.findClass RX2 = some m.cls := findClass_of_methodNamed B9.named
  have hlocks := B9.notSynchronized
  have hS : va_S (fun _ : Nat => False) s.heap s.heap [] := va_S.rf
  have hAz : ∀ q, (fun _ : Nat => False) q → z0 ≤ q := fun _ h => h.elim
  have hW_0 := hW
  have hl := lv_entry ([.ref h0]) (n := 1) (Nat.le_of_ble_eq_true rfl)
  rw [lg_entry_eq]
  generalize (lg_sl ([.ref h0]) ++ List.replicate (1 - (lg_sl ([.ref h0])).length) Slot.unset).toArray = ls at hl ⊢
  have hl : lv_has ls 1 [(0, .ref h0)] := hl
  refine lv_aload_n hx hb dX2_isLast_0 rfl (lv_at hl 0 rfl) ?_
  have ha_1 := tx_31 hT hG
  refine va_get (D := DG E) (ci := 2) (v := .int (B h0 4)) (C := RX2) (T := TX2) (N := 8) hx hb hts iw_X2 hown hK.1 (va_one ha_1) 0 rfl rfl 4 (by decide) (hts _ fl_X2_28) (fun _ h9 => h9) rfl dX2_isLast_1 ?_
  refine lv_iconst (v := 2) hx hb dX2_isLast_4 (by decide) ?_
  refine lv_iand hx hb dX2_isLast_5 ?_
  refine lv_topi (fun x_2 ex_2 => ?_)
  refine lv_if_eq (tgt := 13) hx hb dX2_isLast_6 (by decide) (fun c_3 => ?_) (fun c_3 => ?_)
  · simp only [lt_I, le_I, eq_I, i_0, i_1, i_2, i_3, i_4, i_5, i_6, i_7, i_8, i_10, i_12, i_16, i_20, i_23, i_24, i_31, i_32, i_63, i_64, i_m1] at c_3
    refine lv_iconst (v := 0) hx hb dX2_isLast_13 (by decide) ?_
    exact W.zret (v := 0) (ty := .boolean) hx hb hr rfl (fun t ht hW9 => ⟨⟨0, (), rfl, ⟨(by decide), (Or.inl ⟨x_2, ex_2, c_3, rfl⟩)⟩, trivial⟩, hS.F ht⟩) hS.2.2 dX2_isLast_14
  · simp only [lt_I, le_I, eq_I, i_0, i_1, i_2, i_3, i_4, i_5, i_6, i_7, i_8, i_10, i_12, i_16, i_20, i_23, i_24, i_31, i_32, i_63, i_64, i_m1] at c_3
    refine lv_iconst (v := 1) hx hb dX2_isLast_9 (by decide) ?_
    refine lv_goto (tgt := 14) hx hb dX2_isLast_10 (by decide) ?_
    exact W.zret (v := 1) (ty := .boolean) hx hb hr rfl (fun t ht hW9 => ⟨⟨1, (), rfl, ⟨(by decide), (Or.inr ⟨x_2, ex_2, c_3, rfl⟩)⟩, trivial⟩, hS.F ht⟩) hS.2.2 dX2_isLast_14
theorem gdX2_isAllowed_0 : (decode cX2_isAllowed 0 = .ok (.aload_n 0, 1)) ∧ (decode cX2_isAllowed 1 = .ok (.getfield 19, 3)) ∧ (decode cX2_isAllowed 4 = .ok (.lookupswitch 64 #[(1, 28), (2, 46)], 28)) ∧ (decode cX2_isAllowed 32 = .ok (.aload_n 1, 1)) ∧ (decode cX2_isAllowed 33 = .ok (.aload_n 0, 1)) ∧ (decode cX2_isAllowed 34 = .ok (.getfield 28, 3)) ∧ (decode cX2_isAllowed 37 = .ok (.aload_n 0, 1)) ∧ (decode cX2_isAllowed 38 = .ok (.getfield 31, 3)) ∧ (decode cX2_isAllowed 41 = .ok (.aload_n 0, 1)) ∧ (decode cX2_isAllowed 42 = .ok (.getfield 25, 3)) ∧ (decode cX2_isAllowed 45 = .ok (.iconst 1, 1)) ∧ (decode cX2_isAllowed 46 = .ok (.invokevirtual 57, 3)) ∧ (decode cX2_isAllowed 49 = .ok (.ireturn, 1)) ∧ (decode cX2_isAllowed 50 = .ok (.aload_n 1, 1)) ∧ (decode cX2_isAllowed 51 = .ok (.aload_n 0, 1)) ∧ (decode cX2_isAllowed 52 = .ok (.getfield 28, 3)) := by decide +kernel
theorem dX2_isAllowed_0 : decode cX2_isAllowed 0 = .ok (.aload_n 0, 1) := gdX2_isAllowed_0.1
theorem dX2_isAllowed_1 : decode cX2_isAllowed 1 = .ok (.getfield 19, 3) := gdX2_isAllowed_0.2.1
theorem dX2_isAllowed_4 : decode cX2_isAllowed 4 = .ok (.lookupswitch 64 #[(1, 28), (2, 46)], 28) := gdX2_isAllowed_0.2.2.1
theorem dX2_isAllowed_32 : decode cX2_isAllowed 32 = .ok (.aload_n 1, 1) := gdX2_isAllowed_0.2.2.2.1
theorem dX2_isAllowed_33 : decode cX2_isAllowed 33 = .ok (.aload_n 0, 1) := gdX2_isAllowed_0.2.2.2.2.1
theorem dX2_isAllowed_34 : decode cX2_isAllowed 34 = .ok (.getfield 28, 3) := gdX2_isAllowed_0.2.2.2.2.2.1
theorem dX2_isAllowed_37 : decode cX2_isAllowed 37 = .ok (.aload_n 0, 1) := gdX2_isAllowed_0.2.2.2.2.2.2.1
theorem dX2_isAllowed_38 : decode cX2_isAllowed 38 = .ok (.getfield 31, 3) := gdX2_isAllowed_0.2.2.2.2.2.2.2.1
theorem dX2_isAllowed_41 : decode cX2_isAllowed 41 = .ok (.aload_n 0, 1) := gdX2_isAllowed_0.2.2.2.2.2.2.2.2.1
theorem dX2_isAllowed_42 : decode cX2_isAllowed 42 = .ok (.getfield 25, 3) := gdX2_isAllowed_0.2.2.2.2.2.2.2.2.2.1
theorem dX2_isAllowed_45 : decode cX2_isAllowed 45 = .ok (.iconst 1, 1) := gdX2_isAllowed_0.2.2.2.2.2.2.2.2.2.2.1
theorem dX2_isAllowed_46 : decode cX2_isAllowed 46 = .ok (.invokevirtual 57, 3) := gdX2_isAllowed_0.2.2.2.2.2.2.2.2.2.2.2.1
theorem dX2_isAllowed_49 : decode cX2_isAllowed 49 = .ok (.ireturn, 1) := gdX2_isAllowed_0.2.2.2.2.2.2.2.2.2.2.2.2.1
theorem dX2_isAllowed_50 : decode cX2_isAllowed 50 = .ok (.aload_n 1, 1) := gdX2_isAllowed_0.2.2.2.2.2.2.2.2.2.2.2.2.2.1
theorem dX2_isAllowed_51 : decode cX2_isAllowed 51 = .ok (.aload_n 0, 1) := gdX2_isAllowed_0.2.2.2.2.2.2.2.2.2.2.2.2.2.2.1
theorem dX2_isAllowed_52 : decode cX2_isAllowed 52 = .ok (.getfield 28, 3) := gdX2_isAllowed_0.2.2.2.2.2.2.2.2.2.2.2.2.2.2.2
theorem gdX2_isAllowed_55 : (decode cX2_isAllowed 55 = .ok (.aload_n 0, 1)) ∧ (decode cX2_isAllowed 56 = .ok (.getfield 31, 3)) ∧ (decode cX2_isAllowed 59 = .ok (.aload_n 0, 1)) ∧ (decode cX2_isAllowed 60 = .ok (.getfield 25, 3)) ∧ (decode cX2_isAllowed 63 = .ok (.iconst 2, 1)) ∧ (decode cX2_isAllowed 64 = .ok (.invokevirtual 57, 3)) ∧ (decode cX2_isAllowed 67 = .ok (.ireturn, 1)) ∧ (decode cX2_isAllowed 68 = .ok (.aload_n 1, 1)) ∧ (decode cX2_isAllowed 69 = .ok (.aload_n 0, 1)) ∧ (decode cX2_isAllowed 70 = .ok (.getfield 28, 3)) ∧ (decode cX2_isAllowed 73 = .ok (.aload_n 0, 1)) ∧ (decode cX2_isAllowed 74 = .ok (.getfield 31, 3)) ∧ (decode cX2_isAllowed 77 = .ok (.iconst 1, 1)) ∧ (decode cX2_isAllowed 78 = .ok (.iconst 4, 1)) ∧ (decode cX2_isAllowed 79 = .ok (.invokevirtual 57, 3)) ∧ (decode cX2_isAllowed 82 = .ok (.ireturn, 1)) := by decide +kernel
theorem dX2_isAllowed_55 : decode cX2_isAllowed 55 = .ok (.aload_n 0, 1) := gdX2_isAllowed_55.1
theorem dX2_isAllowed_56 : decode cX2_isAllowed 56 = .ok (.getfield 31, 3) := gdX2_isAllowed_55.2.1
theorem dX2_isAllowed_59 : decode cX2_isAllowed 59 = .ok (.aload_n 0, 1) := gdX2_isAllowed_55.2.2.1
theorem dX2_isAllowed_60 : decode cX2_isAllowed 60 = .ok (.getfield 25, 3) := gdX2_isAllowed_55.2.2.2.1
theorem dX2_isAllowed_63 : decode cX2_isAllowed 63 = .ok (.iconst 2, 1) := gdX2_isAllowed_55.2.2.2.2.1
theorem dX2_isAllowed_64 : decode cX2_isAllowed 64 = .ok (.invokevirtual 57, 3) := gdX2_isAllowed_55.2.2.2.2.2.1
theorem dX2_isAllowed_67 : decode cX2_isAllowed 67 = .ok (.ireturn, 1) := gdX2_isAllowed_55.2.2.2.2.2.2.1
theorem dX2_isAllowed_68 : decode cX2_isAllowed 68 = .ok (.aload_n 1, 1) := gdX2_isAllowed_55.2.2.2.2.2.2.2.1
theorem dX2_isAllowed_69 : decode cX2_isAllowed 69 = .ok (.aload_n 0, 1) := gdX2_isAllowed_55.2.2.2.2.2.2.2.2.1
theorem dX2_isAllowed_70 : decode cX2_isAllowed 70 = .ok (.getfield 28, 3) := gdX2_isAllowed_55.2.2.2.2.2.2.2.2.2.1
theorem dX2_isAllowed_73 : decode cX2_isAllowed 73 = .ok (.aload_n 0, 1) := gdX2_isAllowed_55.2.2.2.2.2.2.2.2.2.2.1
theorem dX2_isAllowed_74 : decode cX2_isAllowed 74 = .ok (.getfield 31, 3) := gdX2_isAllowed_55.2.2.2.2.2.2.2.2.2.2.2.1
theorem dX2_isAllowed_77 : decode cX2_isAllowed 77 = .ok (.iconst 1, 1) := gdX2_isAllowed_55.2.2.2.2.2.2.2.2.2.2.2.2.1
theorem dX2_isAllowed_78 : decode cX2_isAllowed 78 = .ok (.iconst 4, 1) := gdX2_isAllowed_55.2.2.2.2.2.2.2.2.2.2.2.2.2.1
theorem dX2_isAllowed_79 : decode cX2_isAllowed 79 = .ok (.invokevirtual 57, 3) := gdX2_isAllowed_55.2.2.2.2.2.2.2.2.2.2.2.2.2.2.1
theorem dX2_isAllowed_82 : decode cX2_isAllowed 82 = .ok (.ireturn, 1) := gdX2_isAllowed_55.2.2.2.2.2.2.2.2.2.2.2.2.2.2.2
set_option maxHeartbeats 8000000 in
set_option maxRecDepth 100000 in
theorem x_X2_isAllowed (l : Launch) (E : EE) (z0 : Nat) (G : Nat → Nat) (hGz : ∀ q, G q ≠ 0 → z0 ≤ q) (B : AA) (R : RR) (hW : TW G B R) (h0 : Nat) (p0 : Nat) (hG : G h0 = 31) (hG0 : G p0 = 5) : Met l yX2_isAllowed [Cond.code yX2_isAllowed cX2_isAllowed 2 (some .boolean)] ({ frames := 2, cells := 0, slots := 0, locals := 47 } : Room) (va_Pc [.ref h0, .ref p0] (fun U => TX E G B R U.heap ∧ KS E z0 U)) (va_Qi (fun (r : Int32) (u : Unit) => (r = 0 ∨ r = 1) ∧ (C_X2_isAllowed G B R h0 p0 r)) (fun u t => True) (fun _ : Nat => False)) 0 0 (fun _ : Nat => False) := by
  refine Met.ofW (cc := cX2_isAllowed) (maxL := 2) (ret := (some .boolean)) (by decide) rfl ?_
  intro p e s m args below meth c s₁ B9 hml hv
  obtain ⟨rfl, hT, hK⟩ := hv
  have hx := B9.exec
  have hb := B9.bytes
  have hr := B9.returns
  have hts : ∀ w ∈ TS, w.before ([.ref h0, .ref p0] : List Value).toArray s = true := fun w hw => hK.2.1 w hw _
  have hown : s.vm.findClass RX2 = some m.cls := findClass_of_methodNamed B9.named
  have hlocks := B9.notSynchronized
  have hS : va_S (fun _ : Nat => False) s.heap s.heap [] := va_S.rf
  have hAz : ∀ q, (fun _ : Nat => False) q → z0 ≤ q := fun _ h => h.elim
  have hW_0 := hW
  have hl := lv_entry ([.ref h0, .ref p0]) (n := 2) (Nat.le_of_ble_eq_true rfl)
  rw [lg_entry_eq]
  generalize (lg_sl ([.ref h0, .ref p0]) ++ List.replicate (2 - (lg_sl ([.ref h0, .ref p0])).length) Slot.unset).toArray = ls at hl ⊢
  have hl : lv_has ls 2 [(0, .ref h0), (1, .ref p0)] := hl
  refine lv_aload_n hx hb dX2_isAllowed_0 rfl (lv_at hl 0 rfl) ?_
  have ha_1 := tx_31 hT hG
  refine va_get (D := DG E) (ci := 2) (v := .int (B h0 1)) (C := RX2) (T := TX2) (N := 8) hx hb hts iw_X2 hown hK.1 (va_one ha_1) 0 rfl rfl 1 (by decide) (hts _ fl_X2_19) (fun _ h9 => h9) rfl dX2_isAllowed_1 ?_
  rcases (show (B h0 1).toInt = 1 ∨ (B h0 1).toInt = 2 ∨ ((B h0 1).toInt ≠ 1 ∧ (B h0 1).toInt ≠ 2) by omega) with c_2 | c_2 | ⟨c_20, c_21⟩
  · refine lv_lookup (tgt := 32) (off := 28) hx hb dX2_isAllowed_4 (by decide) (by rw [c_2]; rfl) (by decide) ?_
    refine lv_aload_n hx hb dX2_isAllowed_32 rfl (lv_at hl 1 rfl) ?_
    refine lv_aload_n hx hb dX2_isAllowed_33 rfl (lv_at hl 0 rfl) ?_
    refine va_get (D := DG E) (ci := 2) (v := .int (B h0 4)) (C := RX2) (T := TX2) (N := 8) hx hb hts iw_X2 hown hK.1 (va_one ha_1) 0 rfl rfl 4 (by decide) (hts _ fl_X2_28) (fun _ h9 => h9) rfl dX2_isAllowed_34 ?_
    refine lv_aload_n hx hb dX2_isAllowed_37 rfl (lv_at hl 0 rfl) ?_
    refine va_get (D := DG E) (ci := 2) (v := .int (B h0 5)) (C := RX2) (T := TX2) (N := 8) hx hb hts iw_X2 hown hK.1 (va_one ha_1) 0 rfl rfl 5 (by decide) (hts _ fl_X2_31) (fun _ h9 => h9) rfl dX2_isAllowed_38 ?_
    refine lv_aload_n hx hb dX2_isAllowed_41 rfl (lv_at hl 0 rfl) ?_
    have hb_3 := (tw_31 hW_0 hG).2.1
    refine va_get (D := DG E) (ci := 2) (v := .int (B h0 3)) (C := RX2) (T := TX2) (N := 8) hx hb hts iw_X2 hown hK.1 (va_one ha_1) 0 rfl rfl 3 (by decide) (hts _ fl_X2_25) (fun _ h9 => h9) rfl dX2_isAllowed_42 ?_
    refine lv_iconst (v := 1) hx hb dX2_isAllowed_45 (by decide) ?_
    have ha_4 := tx_5 hT hG0
    refine va_calli (rnV (fun H => TX E G B R H) (As := [.int (B h0 4), .int (B h0 5), .int (B h0 3), .int 1]) (rest := []) ⟨hx, hb, hml, hown, hts⟩ (x_X1_allows l E z0 G hGz B R hW p0 (B h0 4) (B h0 5) (B h0 3) (1 : Int32) hG0) (cwV 4 hts (gdV ml_X2_57 im_X1_allows se_X1_X1_allows in_X1 co_X1_allows rfl) rfl rfl rfl (by decide +kernel) ⟨Nat.le_of_ble_eq_true rfl, Nat.le_of_ble_eq_true rfl⟩) hT (fun U hU hW => hK.go hW hS hAz hU) (va_recv hK.1 (va_one ha_4) (ci := 1) (q0 := 0) rfl rfl) rfl rfl hl.1 rfl (lv_room (Nat.le_of_ble_eq_true rfl)) dX2_isAllowed_46 ⟨Nat.le_of_ble_eq_true rfl, Nat.le_of_ble_eq_true rfl⟩) hS (fun q _ h => h.elim) (fun q h => h.elim) (fun r_5 _ t H locs ht hvm hwr_5 hB hz hk hS => ?_)
    have hT : TX E G B R H := hT.kept (fun q hq => hk q hq (fun h => h))
    have hbr_5 : r_5 = 0 ∨ r_5 = 1 := hwr_5.1
    have hCr_5 : C_X1_allows G B R p0 (B h0 4) (B h0 5) (B h0 3) (1 : Int32) r_5 := hwr_5.2
    have hzr_5 := s_rng hbr_5
    rcases hbr_5 with rfl | rfl
    · exact W.zret (v := 0) (ty := .boolean) hx hb hr rfl (fun t ht hW9 => ⟨⟨0, (), rfl, ⟨(by decide), (Or.inl ⟨c_2, (0 : Int32), hCr_5, rfl, rfl⟩)⟩, trivial⟩, hS.F ht⟩) hS.2.2 dX2_isAllowed_49
    · exact W.zret (v := 1) (ty := .boolean) hx hb hr rfl (fun t ht hW9 => ⟨⟨1, (), rfl, ⟨(by decide), (Or.inr (Or.inl ⟨c_2, (1 : Int32), hCr_5, rfl, rfl⟩))⟩, trivial⟩, hS.F ht⟩) hS.2.2 dX2_isAllowed_49
  · refine lv_lookup (tgt := 50) (off := 46) hx hb dX2_isAllowed_4 (by decide) (by rw [c_2]; rfl) (by decide) ?_
    refine lv_aload_n hx hb dX2_isAllowed_50 rfl (lv_at hl 1 rfl) ?_
    refine lv_aload_n hx hb dX2_isAllowed_51 rfl (lv_at hl 0 rfl) ?_
    refine va_get (D := DG E) (ci := 2) (v := .int (B h0 4)) (C := RX2) (T := TX2) (N := 8) hx hb hts iw_X2 hown hK.1 (va_one ha_1) 0 rfl rfl 4 (by decide) (hts _ fl_X2_28) (fun _ h9 => h9) rfl dX2_isAllowed_52 ?_
    refine lv_aload_n hx hb dX2_isAllowed_55 rfl (lv_at hl 0 rfl) ?_
    refine va_get (D := DG E) (ci := 2) (v := .int (B h0 5)) (C := RX2) (T := TX2) (N := 8) hx hb hts iw_X2 hown hK.1 (va_one ha_1) 0 rfl rfl 5 (by decide) (hts _ fl_X2_31) (fun _ h9 => h9) rfl dX2_isAllowed_56 ?_
    refine lv_aload_n hx hb dX2_isAllowed_59 rfl (lv_at hl 0 rfl) ?_
    have hb_6 := (tw_31 hW_0 hG).2.1
    refine va_get (D := DG E) (ci := 2) (v := .int (B h0 3)) (C := RX2) (T := TX2) (N := 8) hx hb hts iw_X2 hown hK.1 (va_one ha_1) 0 rfl rfl 3 (by decide) (hts _ fl_X2_25) (fun _ h9 => h9) rfl dX2_isAllowed_60 ?_
    refine lv_iconst (v := 2) hx hb dX2_isAllowed_63 (by decide) ?_
    have ha_7 := tx_5 hT hG0
    refine va_calli (rnV (fun H => TX E G B R H) (As := [.int (B h0 4), .int (B h0 5), .int (B h0 3), .int 2]) (rest := []) ⟨hx, hb, hml, hown, hts⟩ (x_X1_allows l E z0 G hGz B R hW p0 (B h0 4) (B h0 5) (B h0 3) (2 : Int32) hG0) (cwV 4 hts (gdV ml_X2_57 im_X1_allows se_X1_X1_allows in_X1 co_X1_allows rfl) rfl rfl rfl (by decide +kernel) ⟨Nat.le_of_ble_eq_true rfl, Nat.le_of_ble_eq_true rfl⟩) hT (fun U hU hW => hK.go hW hS hAz hU) (va_recv hK.1 (va_one ha_7) (ci := 1) (q0 := 0) rfl rfl) rfl rfl hl.1 rfl (lv_room (Nat.le_of_ble_eq_true rfl)) dX2_isAllowed_64 ⟨Nat.le_of_ble_eq_true rfl, Nat.le_of_ble_eq_true rfl⟩) hS (fun q _ h => h.elim) (fun q h => h.elim) (fun r_8 _ t H locs ht hvm hwr_8 hB hz hk hS => ?_)
    have hT : TX E G B R H := hT.kept (fun q hq => hk q hq (fun h => h))
    have hbr_8 : r_8 = 0 ∨ r_8 = 1 := hwr_8.1
    have hCr_8 : C_X1_allows G B R p0 (B h0 4) (B h0 5) (B h0 3) (2 : Int32) r_8 := hwr_8.2
    have hzr_8 := s_rng hbr_8
    rcases hbr_8 with rfl | rfl
    · exact W.zret (v := 0) (ty := .boolean) hx hb hr rfl (fun t ht hW9 => ⟨⟨0, (), rfl, ⟨(by decide), (Or.inr (Or.inr (Or.inl ⟨c_2, (0 : Int32), hCr_8, rfl, rfl⟩)))⟩, trivial⟩, hS.F ht⟩) hS.2.2 dX2_isAllowed_67
    · exact W.zret (v := 1) (ty := .boolean) hx hb hr rfl (fun t ht hW9 => ⟨⟨1, (), rfl, ⟨(by decide), (Or.inr (Or.inr (Or.inr (Or.inl ⟨c_2, (1 : Int32), hCr_8, rfl, rfl⟩))))⟩, trivial⟩, hS.F ht⟩) hS.2.2 dX2_isAllowed_67
  · refine lv_lookup (tgt := 68) (off := 64) hx hb dX2_isAllowed_4 (by decide) (by simp [Op.lookupswitch.offset, c_20, Ne.symm c_20, c_21, Ne.symm c_21]) (by decide) ?_
    refine lv_aload_n hx hb dX2_isAllowed_68 rfl (lv_at hl 1 rfl) ?_
    refine lv_aload_n hx hb dX2_isAllowed_69 rfl (lv_at hl 0 rfl) ?_
    refine va_get (D := DG E) (ci := 2) (v := .int (B h0 4)) (C := RX2) (T := TX2) (N := 8) hx hb hts iw_X2 hown hK.1 (va_one ha_1) 0 rfl rfl 4 (by decide) (hts _ fl_X2_28) (fun _ h9 => h9) rfl dX2_isAllowed_70 ?_
    refine lv_aload_n hx hb dX2_isAllowed_73 rfl (lv_at hl 0 rfl) ?_
    refine va_get (D := DG E) (ci := 2) (v := .int (B h0 5)) (C := RX2) (T := TX2) (N := 8) hx hb hts iw_X2 hown hK.1 (va_one ha_1) 0 rfl rfl 5 (by decide) (hts _ fl_X2_31) (fun _ h9 => h9) rfl dX2_isAllowed_74 ?_
    refine lv_iconst (v := 1) hx hb dX2_isAllowed_77 (by decide) ?_
    refine lv_iconst (v := 4) hx hb dX2_isAllowed_78 (by decide) ?_
    have ha_9 := tx_5 hT hG0
    refine va_calli (rnV (fun H => TX E G B R H) (As := [.int (B h0 4), .int (B h0 5), .int 1, .int 4]) (rest := []) ⟨hx, hb, hml, hown, hts⟩ (x_X1_allows l E z0 G hGz B R hW p0 (B h0 4) (B h0 5) (1 : Int32) (4 : Int32) hG0) (cwV 4 hts (gdV ml_X2_57 im_X1_allows se_X1_X1_allows in_X1 co_X1_allows rfl) rfl rfl rfl (by decide +kernel) ⟨Nat.le_of_ble_eq_true rfl, Nat.le_of_ble_eq_true rfl⟩) hT (fun U hU hW => hK.go hW hS hAz hU) (va_recv hK.1 (va_one ha_9) (ci := 1) (q0 := 0) rfl rfl) rfl rfl hl.1 rfl (lv_room (Nat.le_of_ble_eq_true rfl)) dX2_isAllowed_79 ⟨Nat.le_of_ble_eq_true rfl, Nat.le_of_ble_eq_true rfl⟩) hS (fun q _ h => h.elim) (fun q h => h.elim) (fun r_10 _ t H locs ht hvm hwr_10 hB hz hk hS => ?_)
    have hT : TX E G B R H := hT.kept (fun q hq => hk q hq (fun h => h))
    have hbr_10 : r_10 = 0 ∨ r_10 = 1 := hwr_10.1
    have hCr_10 : C_X1_allows G B R p0 (B h0 4) (B h0 5) (1 : Int32) (4 : Int32) r_10 := hwr_10.2
    have hzr_10 := s_rng hbr_10
    rcases hbr_10 with rfl | rfl
    · exact W.zret (v := 0) (ty := .boolean) hx hb hr rfl (fun t ht hW9 => ⟨⟨0, (), rfl, ⟨(by decide), (Or.inr (Or.inr (Or.inr (Or.inr (Or.inl ⟨c_20, c_21, (0 : Int32), hCr_10, rfl, rfl⟩)))))⟩, trivial⟩, hS.F ht⟩) hS.2.2 dX2_isAllowed_82
    · exact W.zret (v := 1) (ty := .boolean) hx hb hr rfl (fun t ht hW9 => ⟨⟨1, (), rfl, ⟨(by decide), (Or.inr (Or.inr (Or.inr (Or.inr (Or.inr ⟨c_20, c_21, (1 : Int32), hCr_10, rfl, rfl⟩)))))⟩, trivial⟩, hS.F ht⟩) hS.2.2 dX2_isAllowed_82
theorem gdX2_tell_0 : (decode cX2_tell 0 = .ok (.iload_n 1, 1)) ∧ (decode cX2_tell 1 = .ok (.tableswitch 69 0 5 #[39, 44, 49, 54, 59, 64], 39)) ∧ (decode cX2_tell 40 = .ok (.aload_n 0, 1)) ∧ (decode cX2_tell 41 = .ok (.getfield 15, 3)) ∧ (decode cX2_tell 44 = .ok (.ireturn, 1)) ∧ (decode cX2_tell 45 = .ok (.aload_n 0, 1)) ∧ (decode cX2_tell 46 = .ok (.getfield 19, 3)) ∧ (decode cX2_tell 49 = .ok (.ireturn, 1)) ∧ (decode cX2_tell 50 = .ok (.aload_n 0, 1)) ∧ (decode cX2_tell 51 = .ok (.getfield 22, 3)) ∧ (decode cX2_tell 54 = .ok (.ireturn, 1)) ∧ (decode cX2_tell 55 = .ok (.aload_n 0, 1)) ∧ (decode cX2_tell 56 = .ok (.getfield 25, 3)) ∧ (decode cX2_tell 59 = .ok (.ireturn, 1)) ∧ (decode cX2_tell 60 = .ok (.aload_n 0, 1)) ∧ (decode cX2_tell 61 = .ok (.getfield 28, 3)) := by decide +kernel
theorem dX2_tell_0 : decode cX2_tell 0 = .ok (.iload_n 1, 1) := gdX2_tell_0.1
theorem dX2_tell_1 : decode cX2_tell 1 = .ok (.tableswitch 69 0 5 #[39, 44, 49, 54, 59, 64], 39) := gdX2_tell_0.2.1
theorem dX2_tell_40 : decode cX2_tell 40 = .ok (.aload_n 0, 1) := gdX2_tell_0.2.2.1
theorem dX2_tell_41 : decode cX2_tell 41 = .ok (.getfield 15, 3) := gdX2_tell_0.2.2.2.1
theorem dX2_tell_44 : decode cX2_tell 44 = .ok (.ireturn, 1) := gdX2_tell_0.2.2.2.2.1
theorem dX2_tell_45 : decode cX2_tell 45 = .ok (.aload_n 0, 1) := gdX2_tell_0.2.2.2.2.2.1
theorem dX2_tell_46 : decode cX2_tell 46 = .ok (.getfield 19, 3) := gdX2_tell_0.2.2.2.2.2.2.1
theorem dX2_tell_49 : decode cX2_tell 49 = .ok (.ireturn, 1) := gdX2_tell_0.2.2.2.2.2.2.2.1
theorem dX2_tell_50 : decode cX2_tell 50 = .ok (.aload_n 0, 1) := gdX2_tell_0.2.2.2.2.2.2.2.2.1
theorem dX2_tell_51 : decode cX2_tell 51 = .ok (.getfield 22, 3) := gdX2_tell_0.2.2.2.2.2.2.2.2.2.1
theorem dX2_tell_54 : decode cX2_tell 54 = .ok (.ireturn, 1) := gdX2_tell_0.2.2.2.2.2.2.2.2.2.2.1
theorem dX2_tell_55 : decode cX2_tell 55 = .ok (.aload_n 0, 1) := gdX2_tell_0.2.2.2.2.2.2.2.2.2.2.2.1
theorem dX2_tell_56 : decode cX2_tell 56 = .ok (.getfield 25, 3) := gdX2_tell_0.2.2.2.2.2.2.2.2.2.2.2.2.1
theorem dX2_tell_59 : decode cX2_tell 59 = .ok (.ireturn, 1) := gdX2_tell_0.2.2.2.2.2.2.2.2.2.2.2.2.2.1
theorem dX2_tell_60 : decode cX2_tell 60 = .ok (.aload_n 0, 1) := gdX2_tell_0.2.2.2.2.2.2.2.2.2.2.2.2.2.2.1
theorem dX2_tell_61 : decode cX2_tell 61 = .ok (.getfield 28, 3) := gdX2_tell_0.2.2.2.2.2.2.2.2.2.2.2.2.2.2.2
theorem gdX2_tell_64 : (decode cX2_tell 64 = .ok (.ireturn, 1)) ∧ (decode cX2_tell 65 = .ok (.aload_n 0, 1)) ∧ (decode cX2_tell 66 = .ok (.getfield 31, 3)) ∧ (decode cX2_tell 69 = .ok (.ireturn, 1)) ∧ (decode cX2_tell 70 = .ok (.iconst (-1), 1)) ∧ (decode cX2_tell 71 = .ok (.ireturn, 1)) := by decide +kernel
theorem dX2_tell_64 : decode cX2_tell 64 = .ok (.ireturn, 1) := gdX2_tell_64.1
theorem dX2_tell_65 : decode cX2_tell 65 = .ok (.aload_n 0, 1) := gdX2_tell_64.2.1
theorem dX2_tell_66 : decode cX2_tell 66 = .ok (.getfield 31, 3) := gdX2_tell_64.2.2.1
theorem dX2_tell_69 : decode cX2_tell 69 = .ok (.ireturn, 1) := gdX2_tell_64.2.2.2.1
theorem dX2_tell_70 : decode cX2_tell 70 = .ok (.iconst (-1), 1) := gdX2_tell_64.2.2.2.2.1
theorem dX2_tell_71 : decode cX2_tell 71 = .ok (.ireturn, 1) := gdX2_tell_64.2.2.2.2.2
set_option maxHeartbeats 8000000 in
set_option maxRecDepth 100000 in
theorem x_X2_tell (l : Launch) (E : EE) (z0 : Nat) (G : Nat → Nat) (hGz : ∀ q, G q ≠ 0 → z0 ≤ q) (B : AA) (R : RR) (hW : TW G B R) (h0 : Nat) (p0 : Int32) (hG : G h0 = 31) : Met l yX2_tell [Cond.code yX2_tell cX2_tell 2 (some .int)] ({ frames := 0, cells := 0, slots := 0, locals := 0 } : Room) (va_Pc [.ref h0, .int p0] (fun U => TX E G B R U.heap ∧ KS E z0 U)) (va_Qi (fun (r : Int32) (u : Unit) => (C_X2_tell G B R h0 p0 r)) (fun u t => True) (fun _ : Nat => False)) 0 0 (fun _ : Nat => False) := by
  refine Met.ofW (cc := cX2_tell) (maxL := 2) (ret := (some .int)) (by decide) rfl ?_
  intro p e s m args below meth c s₁ B9 hml hv
  obtain ⟨rfl, hT, hK⟩ := hv
  have hx := B9.exec
  have hb := B9.bytes
  have hr := B9.returns
  have hts : ∀ w ∈ TS, w.before ([.ref h0, .int p0] : List Value).toArray s = true := fun w hw => hK.2.1 w hw _
  have hown : s.vm.findClass RX2 = some m.cls := findClass_of_methodNamed B9.named
  have hlocks := B9.notSynchronized
  have hS : va_S (fun _ : Nat => False) s.heap s.heap [] := va_S.rf
  have hAz : ∀ q, (fun _ : Nat => False) q → z0 ≤ q := fun _ h => h.elim
  have hW_0 := hW
  have hl := lv_entry ([.ref h0, .int p0]) (n := 2) (Nat.le_of_ble_eq_true rfl)
  rw [lg_entry_eq]
  generalize (lg_sl ([.ref h0, .int p0]) ++ List.replicate (2 - (lg_sl ([.ref h0, .int p0])).length) Slot.unset).toArray = ls at hl ⊢
  have hl : lv_has ls 2 [(0, .ref h0), (1, .int p0)] := hl
  refine lv_iload_n hx hb dX2_tell_0 rfl (lv_at hl 1 rfl) ?_
  rcases (show p0.toInt = 0 ∨ p0.toInt = 1 ∨ p0.toInt = 2 ∨ p0.toInt = 3 ∨ p0.toInt = 4 ∨ p0.toInt = 5 ∨ (p0.toInt < 0 ∨ 5 < p0.toInt) by omega) with c_1 | c_1 | c_1 | c_1 | c_1 | c_1 | c_1
  · refine lv_tableIn (tgt := 40) (off := 39) hx hb dX2_tell_1 (by omega) (by omega) (by rw [c_1]; rfl) (by decide) ?_
    refine lv_aload_n hx hb dX2_tell_40 rfl (lv_at hl 0 rfl) ?_
    have ha_2 := tx_31 hT hG
    have hb_3 := (tw_31 hW_0 hG).1
    refine va_get (D := DG E) (ci := 2) (v := .int (B h0 0)) (C := RX2) (T := TX2) (N := 8) hx hb hts iw_X2 hown hK.1 (va_one ha_2) 0 rfl rfl 0 (by decide) (hts _ fl_X2_15) (fun _ h9 => h9) rfl dX2_tell_41 ?_
    exact W.iret (v := (B h0 0)) hx hb hr (fun t ht hW9 => ⟨⟨(B h0 0), (), rfl, (Or.inl ⟨c_1, rfl⟩), trivial⟩, hS.F ht⟩) hS.2.2 dX2_tell_44
  · refine lv_tableIn (tgt := 45) (off := 44) hx hb dX2_tell_1 (by omega) (by omega) (by rw [c_1]; rfl) (by decide) ?_
    refine lv_aload_n hx hb dX2_tell_45 rfl (lv_at hl 0 rfl) ?_
    have ha_4 := tx_31 hT hG
    refine va_get (D := DG E) (ci := 2) (v := .int (B h0 1)) (C := RX2) (T := TX2) (N := 8) hx hb hts iw_X2 hown hK.1 (va_one ha_4) 0 rfl rfl 1 (by decide) (hts _ fl_X2_19) (fun _ h9 => h9) rfl dX2_tell_46 ?_
    exact W.iret (v := (B h0 1)) hx hb hr (fun t ht hW9 => ⟨⟨(B h0 1), (), rfl, (Or.inr (Or.inl ⟨c_1, rfl⟩)), trivial⟩, hS.F ht⟩) hS.2.2 dX2_tell_49
  · refine lv_tableIn (tgt := 50) (off := 49) hx hb dX2_tell_1 (by omega) (by omega) (by rw [c_1]; rfl) (by decide) ?_
    refine lv_aload_n hx hb dX2_tell_50 rfl (lv_at hl 0 rfl) ?_
    have ha_5 := tx_31 hT hG
    refine va_get (D := DG E) (ci := 2) (v := .int (B h0 2)) (C := RX2) (T := TX2) (N := 8) hx hb hts iw_X2 hown hK.1 (va_one ha_5) 0 rfl rfl 2 (by decide) (hts _ fl_X2_22) (fun _ h9 => h9) rfl dX2_tell_51 ?_
    exact W.iret (v := (B h0 2)) hx hb hr (fun t ht hW9 => ⟨⟨(B h0 2), (), rfl, (Or.inr (Or.inr (Or.inl ⟨c_1, rfl⟩))), trivial⟩, hS.F ht⟩) hS.2.2 dX2_tell_54
  · refine lv_tableIn (tgt := 55) (off := 54) hx hb dX2_tell_1 (by omega) (by omega) (by rw [c_1]; rfl) (by decide) ?_
    refine lv_aload_n hx hb dX2_tell_55 rfl (lv_at hl 0 rfl) ?_
    have ha_6 := tx_31 hT hG
    have hb_7 := (tw_31 hW_0 hG).2.1
    refine va_get (D := DG E) (ci := 2) (v := .int (B h0 3)) (C := RX2) (T := TX2) (N := 8) hx hb hts iw_X2 hown hK.1 (va_one ha_6) 0 rfl rfl 3 (by decide) (hts _ fl_X2_25) (fun _ h9 => h9) rfl dX2_tell_56 ?_
    exact W.iret (v := (B h0 3)) hx hb hr (fun t ht hW9 => ⟨⟨(B h0 3), (), rfl, (Or.inr (Or.inr (Or.inr (Or.inl ⟨c_1, rfl⟩)))), trivial⟩, hS.F ht⟩) hS.2.2 dX2_tell_59
  · refine lv_tableIn (tgt := 60) (off := 59) hx hb dX2_tell_1 (by omega) (by omega) (by rw [c_1]; rfl) (by decide) ?_
    refine lv_aload_n hx hb dX2_tell_60 rfl (lv_at hl 0 rfl) ?_
    have ha_8 := tx_31 hT hG
    refine va_get (D := DG E) (ci := 2) (v := .int (B h0 4)) (C := RX2) (T := TX2) (N := 8) hx hb hts iw_X2 hown hK.1 (va_one ha_8) 0 rfl rfl 4 (by decide) (hts _ fl_X2_28) (fun _ h9 => h9) rfl dX2_tell_61 ?_
    exact W.iret (v := (B h0 4)) hx hb hr (fun t ht hW9 => ⟨⟨(B h0 4), (), rfl, (Or.inr (Or.inr (Or.inr (Or.inr (Or.inl ⟨c_1, rfl⟩))))), trivial⟩, hS.F ht⟩) hS.2.2 dX2_tell_64
  · refine lv_tableIn (tgt := 65) (off := 64) hx hb dX2_tell_1 (by omega) (by omega) (by rw [c_1]; rfl) (by decide) ?_
    refine lv_aload_n hx hb dX2_tell_65 rfl (lv_at hl 0 rfl) ?_
    have ha_9 := tx_31 hT hG
    refine va_get (D := DG E) (ci := 2) (v := .int (B h0 5)) (C := RX2) (T := TX2) (N := 8) hx hb hts iw_X2 hown hK.1 (va_one ha_9) 0 rfl rfl 5 (by decide) (hts _ fl_X2_31) (fun _ h9 => h9) rfl dX2_tell_66 ?_
    exact W.iret (v := (B h0 5)) hx hb hr (fun t ht hW9 => ⟨⟨(B h0 5), (), rfl, (Or.inr (Or.inr (Or.inr (Or.inr (Or.inr (Or.inl ⟨c_1, rfl⟩)))))), trivial⟩, hS.F ht⟩) hS.2.2 dX2_tell_69
  · refine lv_tableOut (tgt := 70) hx hb dX2_tell_1 c_1 (by decide) ?_
    refine lv_iconst (v := (-1)) hx hb dX2_tell_70 (by decide) ?_
    exact W.iret (v := (-1)) hx hb hr (fun t ht hW9 => ⟨⟨(-1), (), rfl, (Or.inr (Or.inr (Or.inr (Or.inr (Or.inr (Or.inr ⟨c_1, rfl⟩)))))), trivial⟩, hS.F ht⟩) hS.2.2 dX2_tell_71
end
section
theorem dX0_has_0 : decode cX0_has 0 = .ok (.iload_n 1, 1) := by decide +kernel
theorem dX0_has_1 : decode cX0_has 1 = .ok (.ifCond .lt 15, 3) := by decide +kernel
theorem dX0_has_4 : decode cX0_has 4 = .ok (.iload_n 1, 1) := by decide +kernel
theorem dX0_has_5 : decode cX0_has 5 = .ok (.aload_n 0, 1) := by decide +kernel
theorem dX0_has_6 : decode cX0_has 6 = .ok (.getfield 25, 3) := by decide +kernel
theorem dX0_has_9 : decode cX0_has 9 = .ok (.if_icmp .ge 7, 3) := by decide +kernel
theorem dX0_has_12 : decode cX0_has 12 = .ok (.iconst 1, 1) := by decide +kernel
theorem dX0_has_13 : decode cX0_has 13 = .ok (.goto 4, 3) := by decide +kernel
theorem dX0_has_16 : decode cX0_has 16 = .ok (.iconst 0, 1) := by decide +kernel
theorem dX0_has_17 : decode cX0_has 17 = .ok (.ireturn, 1) := by decide +kernel
set_option maxHeartbeats 8000000 in
set_option maxRecDepth 100000 in
theorem x_X0_has (l : Launch) (E : EE) (z0 : Nat) (G : Nat → Nat) (hGz : ∀ q, G q ≠ 0 → z0 ≤ q) (B : AA) (R : RR) (hW : TW G B R) (h0 : Nat) (p0 : Int32) (hG : G h0 = 4) : Met l yX0_has [Cond.code yX0_has cX0_has 2 (some .boolean)] ({ frames := 0, cells := 0, slots := 0, locals := 0 } : Room) (va_Pc [.ref h0, .int p0] (fun U => TX E G B R U.heap ∧ KS E z0 U)) (va_Qi (fun (r : Int32) (u : Unit) => (r = 0 ∨ r = 1) ∧ (r.toInt = 0 ∨ (0 ≤ p0.toInt ∧ p0.toInt < (B h0 1).toInt ∧ (B h0 1).toInt ≤ 24)) ∧ (C_X0_has G B R h0 p0 r)) (fun u t => True) (fun _ : Nat => False)) 0 0 (fun _ : Nat => False) := by
  refine Met.ofW (cc := cX0_has) (maxL := 2) (ret := (some .boolean)) (by decide) rfl ?_
  intro p e s m args below meth c s₁ B9 hml hv
  obtain ⟨rfl, hT, hK⟩ := hv
  have hx := B9.exec
  have hb := B9.bytes
  have hr := B9.returns
  have hts : ∀ w ∈ TS, w.before ([.ref h0, .int p0] : List Value).toArray s = true := fun w hw => hK.2.1 w hw _
  have hown : s.vm.findClass RX0 = some m.cls := findClass_of_methodNamed B9.named
  have hlocks := B9.notSynchronized
  have hS : va_S (fun _ : Nat => False) s.heap s.heap [] := va_S.rf
  have hAz : ∀ q, (fun _ : Nat => False) q → z0 ≤ q := fun _ h => h.elim
  have hW_0 := hW
  have hl := lv_entry ([.ref h0, .int p0]) (n := 2) (Nat.le_of_ble_eq_true rfl)
  rw [lg_entry_eq]
  generalize (lg_sl ([.ref h0, .int p0]) ++ List.replicate (2 - (lg_sl ([.ref h0, .int p0])).length) Slot.unset).toArray = ls at hl ⊢
  have hl : lv_has ls 2 [(0, .ref h0), (1, .int p0)] := hl
  refine lv_iload_n hx hb dX0_has_0 rfl (lv_at hl 1 rfl) ?_
  refine lv_if_lt (tgt := 16) hx hb dX0_has_1 (by decide) (fun c_1 => ?_) (fun c_1 => ?_)
  · simp only [lt_I, le_I, eq_I, i_0, i_1, i_2, i_3, i_4, i_5, i_6, i_7, i_8, i_10, i_12, i_16, i_20, i_23, i_24, i_31, i_32, i_63, i_64, i_m1] at c_1
    refine lv_iconst (v := 0) hx hb dX0_has_16 (by decide) ?_
    exact W.zret (v := 0) (ty := .boolean) hx hb hr rfl (fun t ht hW9 => ⟨⟨0, (), rfl, ⟨(by decide), (by show (0 : Int32).toInt = 0 ∨ (0 ≤ p0.toInt ∧ p0.toInt < (B h0 1).toInt ∧ (B h0 1).toInt ≤ 24); have := i_0; omega), (Or.inl ⟨c_1, rfl⟩)⟩, trivial⟩, hS.F ht⟩) hS.2.2 dX0_has_17
  · simp only [lt_I, le_I, eq_I, i_0, i_1, i_2, i_3, i_4, i_5, i_6, i_7, i_8, i_10, i_12, i_16, i_20, i_23, i_24, i_31, i_32, i_63, i_64, i_m1] at c_1
    refine lv_iload_n hx hb dX0_has_4 rfl (lv_at hl 1 rfl) ?_
    refine lv_aload_n hx hb dX0_has_5 rfl (lv_at hl 0 rfl) ?_
    have ha_2 := tx_4 hT hG
    have hb_3 := (tw_4 hW_0 hG).2.1
    refine va_get (D := DG E) (ci := 0) (v := .int (B h0 1)) (C := RX0) (T := TX0) (N := 4) hx hb hts iw_X0 hown hK.1 (va_one ha_2) 0 rfl rfl 1 (by decide) (hts _ fl_X0_25) (fun _ h9 => h9) rfl dX0_has_6 ?_
    refine lv_icmp_ge (tgt := 16) hx hb dX0_has_9 (by decide) (fun c_4 => ?_) (fun c_4 => ?_)
    · simp only [lt_I, le_I, eq_I, i_0, i_1, i_2, i_3, i_4, i_5, i_6, i_7, i_8, i_10, i_12, i_16, i_20, i_23, i_24, i_31, i_32, i_63, i_64, i_m1] at c_4
      refine lv_iconst (v := 0) hx hb dX0_has_16 (by decide) ?_
      exact W.zret (v := 0) (ty := .boolean) hx hb hr rfl (fun t ht hW9 => ⟨⟨0, (), rfl, ⟨(by decide), (by show (0 : Int32).toInt = 0 ∨ (0 ≤ p0.toInt ∧ p0.toInt < (B h0 1).toInt ∧ (B h0 1).toInt ≤ 24); have := i_0; omega), (Or.inr (Or.inl ⟨c_1, c_4, rfl⟩))⟩, trivial⟩, hS.F ht⟩) hS.2.2 dX0_has_17
    · simp only [lt_I, le_I, eq_I, i_0, i_1, i_2, i_3, i_4, i_5, i_6, i_7, i_8, i_10, i_12, i_16, i_20, i_23, i_24, i_31, i_32, i_63, i_64, i_m1] at c_4
      refine lv_iconst (v := 1) hx hb dX0_has_12 (by decide) ?_
      refine lv_goto (tgt := 17) hx hb dX0_has_13 (by decide) ?_
      exact W.zret (v := 1) (ty := .boolean) hx hb hr rfl (fun t ht hW9 => ⟨⟨1, (), rfl, ⟨(by decide), (by show (1 : Int32).toInt = 0 ∨ (0 ≤ p0.toInt ∧ p0.toInt < (B h0 1).toInt ∧ (B h0 1).toInt ≤ 24); have := i_1; omega), (Or.inr (Or.inr ⟨c_1, c_4, rfl⟩))⟩, trivial⟩, hS.F ht⟩) hS.2.2 dX0_has_17
theorem dX0_isFull_0 : decode cX0_isFull 0 = .ok (.aload_n 0, 1) := by decide +kernel
theorem dX0_isFull_1 : decode cX0_isFull 1 = .ok (.getfield 25, 3) := by decide +kernel
theorem dX0_isFull_4 : decode cX0_isFull 4 = .ok (.bipush 24, 2) := by decide +kernel
theorem dX0_isFull_6 : decode cX0_isFull 6 = .ok (.if_icmp .ne 7, 3) := by decide +kernel
theorem dX0_isFull_9 : decode cX0_isFull 9 = .ok (.iconst 1, 1) := by decide +kernel
theorem dX0_isFull_10 : decode cX0_isFull 10 = .ok (.goto 4, 3) := by decide +kernel
theorem dX0_isFull_13 : decode cX0_isFull 13 = .ok (.iconst 0, 1) := by decide +kernel
theorem dX0_isFull_14 : decode cX0_isFull 14 = .ok (.ireturn, 1) := by decide +kernel
set_option maxHeartbeats 8000000 in
set_option maxRecDepth 100000 in
theorem x_X0_isFull (l : Launch) (E : EE) (z0 : Nat) (G : Nat → Nat) (hGz : ∀ q, G q ≠ 0 → z0 ≤ q) (B : AA) (R : RR) (hW : TW G B R) (h0 : Nat) (hG : G h0 = 4) : Met l yX0_isFull [Cond.code yX0_isFull cX0_isFull 1 (some .boolean)] ({ frames := 0, cells := 0, slots := 0, locals := 0 } : Room) (va_Pc [.ref h0] (fun U => TX E G B R U.heap ∧ KS E z0 U)) (va_Qi (fun (r : Int32) (u : Unit) => (r = 0 ∨ r = 1) ∧ (r.toInt = 1 ∨ (B h0 1).toInt ≤ 23) ∧ (C_X0_isFull G B R h0 r)) (fun u t => True) (fun _ : Nat => False)) 0 0 (fun _ : Nat => False) := by
  refine Met.ofW (cc := cX0_isFull) (maxL := 1) (ret := (some .boolean)) (by decide) rfl ?_
  intro p e s m args below meth c s₁ B9 hml hv
  obtain ⟨rfl, hT, hK⟩ := hv
  have hx := B9.exec
  have hb := B9.bytes
  have hr := B9.returns
  have hts : ∀ w ∈ TS, w.before ([.ref h0] : List Value).toArray s = true := fun w hw => hK.2.1 w hw _
  have hown : s.vm.findClass RX0 = some m.cls := findClass_of_methodNamed B9.named
  have hlocks := B9.notSynchronized
  have hS : va_S (fun _ : Nat => False) s.heap s.heap [] := va_S.rf
  have hAz : ∀ q, (fun _ : Nat => False) q → z0 ≤ q := fun _ h => h.elim
  have hW_0 := hW
  have hl := lv_entry ([.ref h0]) (n := 1) (Nat.le_of_ble_eq_true rfl)
  rw [lg_entry_eq]
  generalize (lg_sl ([.ref h0]) ++ List.replicate (1 - (lg_sl ([.ref h0])).length) Slot.unset).toArray = ls at hl ⊢
  have hl : lv_has ls 1 [(0, .ref h0)] := hl
  refine lv_aload_n hx hb dX0_isFull_0 rfl (lv_at hl 0 rfl) ?_
  have ha_1 := tx_4 hT hG
  have hb_2 := (tw_4 hW_0 hG).2.1
  refine va_get (D := DG E) (ci := 0) (v := .int (B h0 1)) (C := RX0) (T := TX0) (N := 4) hx hb hts iw_X0 hown hK.1 (va_one ha_1) 0 rfl rfl 1 (by decide) (hts _ fl_X0_25) (fun _ h9 => h9) rfl dX0_isFull_1 ?_
  refine lv_bipush (v := 24) hx hb dX0_isFull_4 (by decide) ?_
  refine lv_icmp_ne (tgt := 13) hx hb dX0_isFull_6 (by decide) (fun c_3 => ?_) (fun c_3 => ?_)
  · simp only [lt_I, le_I, eq_I, i_0, i_1, i_2, i_3, i_4, i_5, i_6, i_7, i_8, i_10, i_12, i_16, i_20, i_23, i_24, i_31, i_32, i_63, i_64, i_m1] at c_3
    refine lv_iconst (v := 0) hx hb dX0_isFull_13 (by decide) ?_
    exact W.zret (v := 0) (ty := .boolean) hx hb hr rfl (fun t ht hW9 => ⟨⟨0, (), rfl, ⟨(by decide), (by show (0 : Int32).toInt = 1 ∨ (B h0 1).toInt ≤ 23; have := i_0; omega), (Or.inl ⟨c_3, rfl⟩)⟩, trivial⟩, hS.F ht⟩) hS.2.2 dX0_isFull_14
  · simp only [lt_I, le_I, eq_I, i_0, i_1, i_2, i_3, i_4, i_5, i_6, i_7, i_8, i_10, i_12, i_16, i_20, i_23, i_24, i_31, i_32, i_63, i_64, i_m1] at c_3
    refine lv_iconst (v := 1) hx hb dX0_isFull_9 (by decide) ?_
    refine lv_goto (tgt := 14) hx hb dX0_isFull_10 (by decide) ?_
    exact W.zret (v := 1) (ty := .boolean) hx hb hr rfl (fun t ht hW9 => ⟨⟨1, (), rfl, ⟨(by decide), (by show (1 : Int32).toInt = 1 ∨ (B h0 1).toInt ≤ 23; have := i_1; omega), (Or.inr ⟨c_3, rfl⟩)⟩, trivial⟩, hS.F ht⟩) hS.2.2 dX0_isFull_14
theorem dX0_carry_0 : decode cX0_carry 0 = .ok (.aload_n 0, 1) := by decide +kernel
theorem dX0_carry_1 : decode cX0_carry 1 = .ok (.invokevirtual 29, 3) := by decide +kernel
theorem dX0_carry_4 : decode cX0_carry 4 = .ok (.ifCond .eq 10, 3) := by decide +kernel
theorem dX0_carry_7 : decode cX0_carry 7 = .ok (.aload_n 0, 1) := by decide +kernel
theorem dX0_carry_8 : decode cX0_carry 8 = .ok (.getfield 22, 3) := by decide +kernel
theorem dX0_carry_11 : decode cX0_carry 11 = .ok (.goto 19, 3) := by decide +kernel
theorem dX0_carry_14 : decode cX0_carry 14 = .ok (.aload_n 0, 1) := by decide +kernel
theorem dX0_carry_15 : decode cX0_carry 15 = .ok (.getfield 11, 3) := by decide +kernel
theorem dX0_carry_18 : decode cX0_carry 18 = .ok (.aload_n 0, 1) := by decide +kernel
theorem dX0_carry_19 : decode cX0_carry 19 = .ok (.dup, 1) := by decide +kernel
theorem dX0_carry_20 : decode cX0_carry 20 = .ok (.getfield 25, 3) := by decide +kernel
theorem dX0_carry_23 : decode cX0_carry 23 = .ok (.dup_x1, 1) := by decide +kernel
theorem dX0_carry_24 : decode cX0_carry 24 = .ok (.iconst 1, 1) := by decide +kernel
theorem dX0_carry_25 : decode cX0_carry 25 = .ok (.iadd, 1) := by decide +kernel
theorem dX0_carry_26 : decode cX0_carry 26 = .ok (.putfield 25, 3) := by decide +kernel
theorem dX0_carry_29 : decode cX0_carry 29 = .ok (.aaload, 1) := by decide +kernel
theorem dX0_carry_30 : decode cX0_carry 30 = .ok (.astore 4, 2) := by decide +kernel
theorem dX0_carry_32 : decode cX0_carry 32 = .ok (.aload 4, 2) := by decide +kernel
theorem dX0_carry_34 : decode cX0_carry 34 = .ok (.iload_n 1, 1) := by decide +kernel
theorem dX0_carry_35 : decode cX0_carry 35 = .ok (.iload_n 2, 1) := by decide +kernel
theorem dX0_carry_36 : decode cX0_carry 36 = .ok (.iload_n 3, 1) := by decide +kernel
theorem dX0_carry_37 : decode cX0_carry 37 = .ok (.invokevirtual 33, 3) := by decide +kernel
theorem dX0_carry_40 : decode cX0_carry 40 = .ok (.aload 4, 2) := by decide +kernel
theorem dX0_carry_42 : decode cX0_carry 42 = .ok (.areturn, 1) := by decide +kernel
set_option maxHeartbeats 8000000 in
set_option maxRecDepth 100000 in
theorem x_X0_carry (l : Launch) (E : EE) (z0 : Nat) (G : Nat → Nat) (hGz : ∀ q, G q ≠ 0 → z0 ≤ q) (B : AA) (R : RR) (hW : TW G B R) (h0 : Nat) (p0 : Int32) (p1 : Int32) (p2 : Int32) (hG : G h0 = 4) (hy0 : 0 ≤ p0.toInt ∧ p0.toInt ≤ 3) : Met l yX0_carry [Cond.code yX0_carry cX0_carry 5 (some (.object "RemoteReach$Packet"))] ({ frames := 1, cells := 0, slots := 0, locals := 23 } : Room) (va_Pc [.ref h0, .int p0, .int p1, .int p2] (fun U => TX E G B R U.heap ∧ KS E z0 U)) (va_Qr (fun (u : AA) => True) (fun u ra t => ((G ra = 31) ∧ (TW G u R) ∧ (Fr G ([4, 31] : List Nat) B u) ∧ (C_X0_carry G B R h0 p0 p1 p2 u ra)) ∧ TX E G u R t.heap) (fun q : Nat => G q ∈ ([4, 31] : List Nat))) 0 0 (fun q : Nat => G q ∈ ([4, 31] : List Nat)) := by
  refine Met.ofW (cc := cX0_carry) (maxL := 5) (ret := (some (.object "RemoteReach$Packet"))) (by decide) rfl ?_
  intro p e s m args below meth c s₁ B9 hml hv
  obtain ⟨rfl, hT, hK⟩ := hv
  have hx := B9.exec
  have hb := B9.bytes
  have hr := B9.returns
  have hts : ∀ w ∈ TS, w.before ([.ref h0, .int p0, .int p1, .int p2] : List Value).toArray s = true := fun w hw => hK.2.1 w hw _
  have hown : s.vm.findClass RX0 = some m.cls := findClass_of_methodNamed B9.named
  have hlocks := B9.notSynchronized
  have hS : va_S (fun q : Nat => G q ∈ ([4, 31] : List Nat)) s.heap s.heap [] := va_S.rf
  have hAz : ∀ q, (fun q : Nat => G q ∈ ([4, 31] : List Nat)) q → z0 ≤ q := zL hGz (by decide)
  have hW_0 := hW
  have hl := lv_entry ([.ref h0, .int p0, .int p1, .int p2]) (n := 5) (Nat.le_of_ble_eq_true rfl)
  rw [lg_entry_eq]
  generalize (lg_sl ([.ref h0, .int p0, .int p1, .int p2]) ++ List.replicate (5 - (lg_sl ([.ref h0, .int p0, .int p1, .int p2])).length) Slot.unset).toArray = ls at hl ⊢
  have hl : lv_has ls 5 [(0, .ref h0), (1, .int p0), (2, .int p1), (3, .int p2)] := hl
  refine lv_aload_n hx hb dX0_carry_0 rfl (lv_at hl 0 rfl) ?_
  have ha_1 := tx_4 hT hG
  refine va_calli (rnV (fun H => TX E G B R H) (As := []) (rest := []) ⟨hx, hb, hml, hown, hts⟩ (x_X0_isFull l E z0 G hGz B R hW h0 hG) (cwV 0 hts (gdV ml_X0_29 im_X0_isFull se_X0_X0_isFull in_X0 co_X0_isFull rfl) rfl rfl rfl (by decide +kernel) ⟨Nat.le_of_ble_eq_true rfl, Nat.le_of_ble_eq_true rfl⟩) hT (fun U hU hW => hK.go hW hS hAz hU) (va_recv hK.1 (va_one ha_1) (ci := 0) (q0 := 0) rfl rfl) rfl rfl hl.1 rfl (lv_room (Nat.le_of_ble_eq_true rfl)) dX0_carry_1 ⟨Nat.le_of_ble_eq_true rfl, Nat.le_of_ble_eq_true rfl⟩) hS (fun q _ h => h.elim) (fun q h => h.elim) (fun r_2 _ t H locs ht hvm hwr_2 hB hz hk hS => ?_)
  have hT : TX E G B R H := hT.kept (fun q hq => hk q hq (fun h => h))
  have hbr_2 : r_2 = 0 ∨ r_2 = 1 := hwr_2.1
  have hp0r_2 : r_2.toInt = 1 ∨ (B h0 1).toInt ≤ 23 := hwr_2.2.1
  have hCr_2 : C_X0_isFull G B R h0 r_2 := hwr_2.2.2
  have hzr_2 := s_rng hbr_2
  refine lv_if_eq (tgt := 14) hx hb dX0_carry_4 (by decide) (fun c_3 => ?_) (fun c_3 => ?_)
  · simp only [lt_I, le_I, eq_I, i_0, i_1, i_2, i_3, i_4, i_5, i_6, i_7, i_8, i_10, i_12, i_16, i_20, i_23, i_24, i_31, i_32, i_63, i_64, i_m1] at c_3
    refine lv_aload_n hx hb dX0_carry_14 rfl (lv_at hl 0 rfl) ?_
    have ha_4 := tx_4 hT hG
    have hg_5 : G (R h0 0) = 30 := (tw_4 hW hG).1
    refine va_get (D := DG E) (ci := 0) (v := .ref (R h0 0)) (C := RX0) (T := TX0) (N := 4) hx hb hts iw_X0 hown hK.1 (va_one ha_4) 0 rfl rfl 0 (by decide) (hts _ fl_X0_11) (fun _ h9 => h9) rfl dX0_carry_15 ?_
    refine lv_aload_n hx hb dX0_carry_18 rfl (lv_at hl 0 rfl) ?_
    refine lv_dup hx hb dX0_carry_19 rfl ?_
    have hb_6 := (tw_4 hW_0 hG).2.1
    refine va_get (D := DG E) (ci := 0) (v := .int (B h0 1)) (C := RX0) (T := TX0) (N := 4) hx hb hts iw_X0 hown hK.1 (va_one ha_4) 0 rfl rfl 1 (by decide) (hts _ fl_X0_25) (fun _ h9 => h9) rfl dX0_carry_20 ?_
    refine lv_dup_x1 hx hb dX0_carry_23 rfl rfl ?_
    refine lv_iconst (v := 1) hx hb dX0_carry_24 (by decide) ?_
    refine lv_iadd hx hb dX0_carry_25 ?_
    refine lv_topi (fun x_7 ex_7 => ?_)
    have fx_7 : x_7.toInt = (B h0 1).toInt + 1 := by have h9 := s_add (x := (B h0 1)) (y := 1) (by rw [i_1]; omega) (by rw [i_1]; omega); rw [i_1] at h9; rw [ex_7]; exact h9
    have h9_8 := tw_4 hW_0 hG
    refine rr_put (D := DG E) (ci := 0) (v := .int x_7) (ty := .int) (C := RX0) (T := TX0) (N := 4) hx hb hts iw_X0 tyX0 tyX0_ok nmX0 hown hK.1 ha_4 hS (by show G h0 ∈ ([4, 31] : List Nat); rw [hG]; decide) rfl 1 (by decide) (hts _ fl_X0_25) (fun _ h9 => h9) rfl (by decide +kernel) rfl rfl (Nat.le_of_ble_eq_true rfl) dX0_carry_26 (fun H locs hn ho hz hS => ?_)
    obtain ⟨B_9, eB_9⟩ : ∃ z : AA, z = uA B h0 (upd (B h0) 1 x_7) := ⟨_, rfl⟩
    have sB_9 : B_9 h0 1 = x_7 := by rw [eB_9, uA_s]; exact upd_s
    have nB_9 : ∀ k, k ≠ 1 → B_9 h0 k = B h0 k := fun k hk => by rw [eB_9, uA_s]; exact upd_n hk
    have fB_9 : ∀ c, G c ≠ 4 → B_9 c = B c := fun c hc => by rw [eB_9]; exact uA_n (fun e => hc (by rw [e]; exact hG))
    have hT : TX E G B_9 R H := by rw [eB_9]; exact hT.w (by rw [hG]; exact hn) ho
    have hWB_9 : TW G B_9 R := by rw [eB_9]; exact hW_0.w (by rw [hG]; exact ⟨h9_8.1, (show 0 ≤ (x_7 : Int32).toInt ∧ (x_7 : Int32).toInt ≤ 24 from by omega), h9_8.2.2.1, h9_8.2.2.2⟩)
    have hW := hWB_9
    have ha_10 := tx_30 hT hg_5
    have hi_11 : vp_in (B h0 1) 24 := vp_in_iff.mpr (by omega)
    obtain ⟨n_12, hn_12, en_12⟩ := x_nat (x := (B h0 1)) (by omega)
    have hg_13 : G (R (R h0 0) n_12) = 31 := (tw_30 hW hg_5) n_12 (by omega)
    refine va_aldq (D := DG E) hx hb hK.1 (va_one ha_10) 0 7 rfl rfl hi_11 dX0_carry_29 ?_
    refine W.eq (g2 := F0 m 30 ls [.ref (R (R h0 0) n_12)]) (by rw [en_12]; rfl) ?_
    refine lv_astore (lv' := [(4, .ref (R (R h0 0) n_12)), (0, .ref h0), (1, .int p0), (2, .int p1), (3, .int p2)]) hx hb dX0_carry_30 hl (by decide) rfl (fun ls hl => ?_)
    refine lv_aload hx hb dX0_carry_32 (lv_at hl 0 rfl) ?_
    refine lv_iload_n hx hb dX0_carry_34 rfl (lv_at hl 2 rfl) ?_
    refine lv_iload_n hx hb dX0_carry_35 rfl (lv_at hl 3 rfl) ?_
    refine lv_iload_n hx hb dX0_carry_36 rfl (lv_at hl 4 rfl) ?_
    have ha_14 := tx_31 hT hg_13
    refine va_callv (rnV (fun H => TX E G B_9 R H) (As := [.int p0, .int p1, .int p2]) (rest := []) ⟨hx, hb, hml, hown, hts⟩ (x_X2_become l E z0 G hGz B_9 R hW (R (R h0 0) n_12) p0 p1 p2 hg_13 (show 0 ≤ p0.toInt ∧ p0.toInt ≤ 3 from by first | decide | omega)) (cwV 3 hts (gdV ml_X0_33 im_X2_become se_X2_X2_become in_X2 co_X2_become rfl) rfl rfl rfl (by decide +kernel) ⟨Nat.le_of_ble_eq_true rfl, Nat.le_of_ble_eq_true rfl⟩) hT (fun U hU hW => hK.go hW hS hAz hU) (va_recv hK.1 (va_one ha_14) (ci := 2) (q0 := 0) rfl rfl) rfl rfl hl.1 rfl (lv_room (Nat.le_of_ble_eq_true rfl)) dX0_carry_37 ⟨Nat.le_of_ble_eq_true rfl, Nat.le_of_ble_eq_true rfl⟩) hS (fun q _ h => mL (L' := [31]) (L := [4, 31]) (by decide) h) (fun q h => mL (L' := [31]) (L := [4, 31]) (by decide) h) (fun U_16 t H locs ht hvm hwr_15 hB hz hk hS => ?_)
    have hT : TX E G U_16 R H := by rw [ht] at hB; exact hB
    have hWr_15 : TW G U_16 R := hwr_15.1
    have hW := hWr_15
    have hFr_15 : Fr G [31] B_9 U_16 := hwr_15.2.1
    have hCr_15 : C_X2_become G B_9 R (R (R h0 0) n_12) p0 p1 p2 U_16 := hwr_15.2.2
    refine lv_aload hx hb dX0_carry_40 (lv_at hl 0 rfl) ?_
    exact W.aret (v := .ref (R (R h0 0) n_12)) hx hb hr (Or.inl ⟨_, rfl⟩) (Or.inr ⟨_, rfl⟩) (fun t ht hW9 => ⟨⟨U_16, (R (R h0 0) n_12), rfl, trivial, ⟨⟨hg_13, hW, (Fr.c (Fr.w Fr.rf hG (by decide) eB_9) hFr_15 (by decide)), (Or.inl ⟨r_2, hCr_2, c_3, x_7, ex_7, fx_7, B_9, eB_9, n_12, hn_12, U_16, hFr_15, hCr_15, rfl, rfl⟩)⟩, (by show TX E G U_16 R t.heap; rw [ht]; exact hT)⟩⟩, hS.F ht⟩) hS.2.2 dX0_carry_42
  · simp only [lt_I, le_I, eq_I, i_0, i_1, i_2, i_3, i_4, i_5, i_6, i_7, i_8, i_10, i_12, i_16, i_20, i_23, i_24, i_31, i_32, i_63, i_64, i_m1] at c_3
    refine lv_aload_n hx hb dX0_carry_7 rfl (lv_at hl 0 rfl) ?_
    have ha_17 := tx_4 hT hG
    have hg_18 : G (R h0 3) = 31 := (tw_4 hW hG).2.2.2
    refine va_get (D := DG E) (ci := 0) (v := .ref (R h0 3)) (C := RX0) (T := TX0) (N := 4) hx hb hts iw_X0 hown hK.1 (va_one ha_17) 0 rfl rfl 3 (by decide) (hts _ fl_X0_22) (fun _ h9 => h9) rfl dX0_carry_8 ?_
    refine lv_goto (tgt := 30) hx hb dX0_carry_11 (by decide) ?_
    refine lv_astore (lv' := [(4, .ref (R h0 3)), (0, .ref h0), (1, .int p0), (2, .int p1), (3, .int p2)]) hx hb dX0_carry_30 hl (by decide) rfl (fun ls hl => ?_)
    refine lv_aload hx hb dX0_carry_32 (lv_at hl 0 rfl) ?_
    refine lv_iload_n hx hb dX0_carry_34 rfl (lv_at hl 2 rfl) ?_
    refine lv_iload_n hx hb dX0_carry_35 rfl (lv_at hl 3 rfl) ?_
    refine lv_iload_n hx hb dX0_carry_36 rfl (lv_at hl 4 rfl) ?_
    have ha_19 := tx_31 hT hg_18
    refine va_callv (rnV (fun H => TX E G B R H) (As := [.int p0, .int p1, .int p2]) (rest := []) ⟨hx, hb, hml, hown, hts⟩ (x_X2_become l E z0 G hGz B R hW (R h0 3) p0 p1 p2 hg_18 (show 0 ≤ p0.toInt ∧ p0.toInt ≤ 3 from by first | decide | omega)) (cwV 3 hts (gdV ml_X0_33 im_X2_become se_X2_X2_become in_X2 co_X2_become rfl) rfl rfl rfl (by decide +kernel) ⟨Nat.le_of_ble_eq_true rfl, Nat.le_of_ble_eq_true rfl⟩) hT (fun U hU hW => hK.go hW hS hAz hU) (va_recv hK.1 (va_one ha_19) (ci := 2) (q0 := 0) rfl rfl) rfl rfl hl.1 rfl (lv_room (Nat.le_of_ble_eq_true rfl)) dX0_carry_37 ⟨Nat.le_of_ble_eq_true rfl, Nat.le_of_ble_eq_true rfl⟩) hS (fun q _ h => mL (L' := [31]) (L := [4, 31]) (by decide) h) (fun q h => mL (L' := [31]) (L := [4, 31]) (by decide) h) (fun U_21 t H locs ht hvm hwr_20 hB hz hk hS => ?_)
    have hT : TX E G U_21 R H := by rw [ht] at hB; exact hB
    have hWr_20 : TW G U_21 R := hwr_20.1
    have hW := hWr_20
    have hFr_20 : Fr G [31] B U_21 := hwr_20.2.1
    have hCr_20 : C_X2_become G B R (R h0 3) p0 p1 p2 U_21 := hwr_20.2.2
    refine lv_aload hx hb dX0_carry_40 (lv_at hl 0 rfl) ?_
    exact W.aret (v := .ref (R h0 3)) hx hb hr (Or.inl ⟨_, rfl⟩) (Or.inr ⟨_, rfl⟩) (fun t ht hW9 => ⟨⟨U_21, (R h0 3), rfl, trivial, ⟨⟨hg_18, hW, (Fr.c Fr.rf hFr_20 (by decide)), (Or.inr ⟨r_2, hCr_2, c_3, U_21, hFr_20, hCr_20, rfl, rfl⟩)⟩, (by show TX E G U_21 R t.heap; rw [ht]; exact hT)⟩⟩, hS.F ht⟩) hS.2.2 dX0_carry_42
theorem gdX0_takeOut_0 : (decode cX0_takeOut 0 = .ok (.aload_n 0, 1)) ∧ (decode cX0_takeOut 1 = .ok (.getfield 11, 3)) ∧ (decode cX0_takeOut 4 = .ok (.iload_n 1, 1)) ∧ (decode cX0_takeOut 5 = .ok (.aaload, 1)) ∧ (decode cX0_takeOut 6 = .ok (.astore_n 2, 1)) ∧ (decode cX0_takeOut 7 = .ok (.iload_n 1, 1)) ∧ (decode cX0_takeOut 8 = .ok (.iconst 1, 1)) ∧ (decode cX0_takeOut 9 = .ok (.iadd, 1)) ∧ (decode cX0_takeOut 10 = .ok (.istore_n 3, 1)) ∧ (decode cX0_takeOut 11 = .ok (.iload_n 3, 1)) ∧ (decode cX0_takeOut 12 = .ok (.aload_n 0, 1)) ∧ (decode cX0_takeOut 13 = .ok (.getfield 25, 3)) ∧ (decode cX0_takeOut 16 = .ok (.if_icmp .ge 23, 3)) ∧ (decode cX0_takeOut 19 = .ok (.aload_n 0, 1)) ∧ (decode cX0_takeOut 20 = .ok (.getfield 11, 3)) ∧ (decode cX0_takeOut 23 = .ok (.iload_n 3, 1)) := by decide +kernel
theorem dX0_takeOut_0 : decode cX0_takeOut 0 = .ok (.aload_n 0, 1) := gdX0_takeOut_0.1
theorem dX0_takeOut_1 : decode cX0_takeOut 1 = .ok (.getfield 11, 3) := gdX0_takeOut_0.2.1
theorem dX0_takeOut_4 : decode cX0_takeOut 4 = .ok (.iload_n 1, 1) := gdX0_takeOut_0.2.2.1
theorem dX0_takeOut_5 : decode cX0_takeOut 5 = .ok (.aaload, 1) := gdX0_takeOut_0.2.2.2.1
theorem dX0_takeOut_6 : decode cX0_takeOut 6 = .ok (.astore_n 2, 1) := gdX0_takeOut_0.2.2.2.2.1
theorem dX0_takeOut_7 : decode cX0_takeOut 7 = .ok (.iload_n 1, 1) := gdX0_takeOut_0.2.2.2.2.2.1
theorem dX0_takeOut_8 : decode cX0_takeOut 8 = .ok (.iconst 1, 1) := gdX0_takeOut_0.2.2.2.2.2.2.1
theorem dX0_takeOut_9 : decode cX0_takeOut 9 = .ok (.iadd, 1) := gdX0_takeOut_0.2.2.2.2.2.2.2.1
theorem dX0_takeOut_10 : decode cX0_takeOut 10 = .ok (.istore_n 3, 1) := gdX0_takeOut_0.2.2.2.2.2.2.2.2.1
theorem dX0_takeOut_11 : decode cX0_takeOut 11 = .ok (.iload_n 3, 1) := gdX0_takeOut_0.2.2.2.2.2.2.2.2.2.1
theorem dX0_takeOut_12 : decode cX0_takeOut 12 = .ok (.aload_n 0, 1) := gdX0_takeOut_0.2.2.2.2.2.2.2.2.2.2.1
theorem dX0_takeOut_13 : decode cX0_takeOut 13 = .ok (.getfield 25, 3) := gdX0_takeOut_0.2.2.2.2.2.2.2.2.2.2.2.1
theorem dX0_takeOut_16 : decode cX0_takeOut 16 = .ok (.if_icmp .ge 23, 3) := gdX0_takeOut_0.2.2.2.2.2.2.2.2.2.2.2.2.1
theorem dX0_takeOut_19 : decode cX0_takeOut 19 = .ok (.aload_n 0, 1) := gdX0_takeOut_0.2.2.2.2.2.2.2.2.2.2.2.2.2.1
theorem dX0_takeOut_20 : decode cX0_takeOut 20 = .ok (.getfield 11, 3) := gdX0_takeOut_0.2.2.2.2.2.2.2.2.2.2.2.2.2.2.1
theorem dX0_takeOut_23 : decode cX0_takeOut 23 = .ok (.iload_n 3, 1) := gdX0_takeOut_0.2.2.2.2.2.2.2.2.2.2.2.2.2.2.2
theorem gdX0_takeOut_24 : (decode cX0_takeOut 24 = .ok (.iconst 1, 1)) ∧ (decode cX0_takeOut 25 = .ok (.isub, 1)) ∧ (decode cX0_takeOut 26 = .ok (.aload_n 0, 1)) ∧ (decode cX0_takeOut 27 = .ok (.getfield 11, 3)) ∧ (decode cX0_takeOut 30 = .ok (.iload_n 3, 1)) ∧ (decode cX0_takeOut 31 = .ok (.aaload, 1)) ∧ (decode cX0_takeOut 32 = .ok (.aastore, 1)) ∧ (decode cX0_takeOut 33 = .ok (.iinc 3 1, 3)) ∧ (decode cX0_takeOut 36 = .ok (.goto (-25), 3)) ∧ (decode cX0_takeOut 39 = .ok (.aload_n 0, 1)) ∧ (decode cX0_takeOut 40 = .ok (.dup, 1)) ∧ (decode cX0_takeOut 41 = .ok (.getfield 25, 3)) ∧ (decode cX0_takeOut 44 = .ok (.iconst 1, 1)) ∧ (decode cX0_takeOut 45 = .ok (.isub, 1)) ∧ (decode cX0_takeOut 46 = .ok (.putfield 25, 3)) ∧ (decode cX0_takeOut 49 = .ok (.aload_n 0, 1)) := by decide +kernel
theorem dX0_takeOut_24 : decode cX0_takeOut 24 = .ok (.iconst 1, 1) := gdX0_takeOut_24.1
theorem dX0_takeOut_25 : decode cX0_takeOut 25 = .ok (.isub, 1) := gdX0_takeOut_24.2.1
theorem dX0_takeOut_26 : decode cX0_takeOut 26 = .ok (.aload_n 0, 1) := gdX0_takeOut_24.2.2.1
theorem dX0_takeOut_27 : decode cX0_takeOut 27 = .ok (.getfield 11, 3) := gdX0_takeOut_24.2.2.2.1
theorem dX0_takeOut_30 : decode cX0_takeOut 30 = .ok (.iload_n 3, 1) := gdX0_takeOut_24.2.2.2.2.1
theorem dX0_takeOut_31 : decode cX0_takeOut 31 = .ok (.aaload, 1) := gdX0_takeOut_24.2.2.2.2.2.1
theorem dX0_takeOut_32 : decode cX0_takeOut 32 = .ok (.aastore, 1) := gdX0_takeOut_24.2.2.2.2.2.2.1
theorem dX0_takeOut_33 : decode cX0_takeOut 33 = .ok (.iinc 3 1, 3) := gdX0_takeOut_24.2.2.2.2.2.2.2.1
theorem dX0_takeOut_36 : decode cX0_takeOut 36 = .ok (.goto (-25), 3) := gdX0_takeOut_24.2.2.2.2.2.2.2.2.1
theorem dX0_takeOut_39 : decode cX0_takeOut 39 = .ok (.aload_n 0, 1) := gdX0_takeOut_24.2.2.2.2.2.2.2.2.2.1
theorem dX0_takeOut_40 : decode cX0_takeOut 40 = .ok (.dup, 1) := gdX0_takeOut_24.2.2.2.2.2.2.2.2.2.2.1
theorem dX0_takeOut_41 : decode cX0_takeOut 41 = .ok (.getfield 25, 3) := gdX0_takeOut_24.2.2.2.2.2.2.2.2.2.2.2.1
theorem dX0_takeOut_44 : decode cX0_takeOut 44 = .ok (.iconst 1, 1) := gdX0_takeOut_24.2.2.2.2.2.2.2.2.2.2.2.2.1
theorem dX0_takeOut_45 : decode cX0_takeOut 45 = .ok (.isub, 1) := gdX0_takeOut_24.2.2.2.2.2.2.2.2.2.2.2.2.2.1
theorem dX0_takeOut_46 : decode cX0_takeOut 46 = .ok (.putfield 25, 3) := gdX0_takeOut_24.2.2.2.2.2.2.2.2.2.2.2.2.2.2.1
theorem dX0_takeOut_49 : decode cX0_takeOut 49 = .ok (.aload_n 0, 1) := gdX0_takeOut_24.2.2.2.2.2.2.2.2.2.2.2.2.2.2.2
theorem gdX0_takeOut_50 : (decode cX0_takeOut 50 = .ok (.getfield 11, 3)) ∧ (decode cX0_takeOut 53 = .ok (.aload_n 0, 1)) ∧ (decode cX0_takeOut 54 = .ok (.getfield 25, 3)) ∧ (decode cX0_takeOut 57 = .ok (.aload_n 0, 1)) ∧ (decode cX0_takeOut 58 = .ok (.getfield 18, 3)) ∧ (decode cX0_takeOut 61 = .ok (.aastore, 1)) ∧ (decode cX0_takeOut 62 = .ok (.aload_n 0, 1)) ∧ (decode cX0_takeOut 63 = .ok (.aload_n 2, 1)) ∧ (decode cX0_takeOut 64 = .ok (.putfield 18, 3)) ∧ (decode cX0_takeOut 67 = .ok (.aload_n 2, 1)) ∧ (decode cX0_takeOut 68 = .ok (.areturn, 1)) := by decide +kernel
theorem dX0_takeOut_50 : decode cX0_takeOut 50 = .ok (.getfield 11, 3) := gdX0_takeOut_50.1
theorem dX0_takeOut_53 : decode cX0_takeOut 53 = .ok (.aload_n 0, 1) := gdX0_takeOut_50.2.1
theorem dX0_takeOut_54 : decode cX0_takeOut 54 = .ok (.getfield 25, 3) := gdX0_takeOut_50.2.2.1
theorem dX0_takeOut_57 : decode cX0_takeOut 57 = .ok (.aload_n 0, 1) := gdX0_takeOut_50.2.2.2.1
theorem dX0_takeOut_58 : decode cX0_takeOut 58 = .ok (.getfield 18, 3) := gdX0_takeOut_50.2.2.2.2.1
theorem dX0_takeOut_61 : decode cX0_takeOut 61 = .ok (.aastore, 1) := gdX0_takeOut_50.2.2.2.2.2.1
theorem dX0_takeOut_62 : decode cX0_takeOut 62 = .ok (.aload_n 0, 1) := gdX0_takeOut_50.2.2.2.2.2.2.1
theorem dX0_takeOut_63 : decode cX0_takeOut 63 = .ok (.aload_n 2, 1) := gdX0_takeOut_50.2.2.2.2.2.2.2.1
theorem dX0_takeOut_64 : decode cX0_takeOut 64 = .ok (.putfield 18, 3) := gdX0_takeOut_50.2.2.2.2.2.2.2.2.1
theorem dX0_takeOut_67 : decode cX0_takeOut 67 = .ok (.aload_n 2, 1) := gdX0_takeOut_50.2.2.2.2.2.2.2.2.2.1
theorem dX0_takeOut_68 : decode cX0_takeOut 68 = .ok (.areturn, 1) := gdX0_takeOut_50.2.2.2.2.2.2.2.2.2.2
set_option maxHeartbeats 8000000 in
set_option maxRecDepth 100000 in
theorem x_X0_takeOut (l : Launch) (E : EE) (z0 : Nat) (G : Nat → Nat) (hGz : ∀ q, G q ≠ 0 → z0 ≤ q) (B : AA) (R : RR) (hW : TW G B R) (h0 : Nat) (p0 : Int32) (hG : G h0 = 4) (hy0 : 0 ≤ p0.toInt ∧ p0.toInt ≤ 23) (hy1 : p0.toInt < (B h0 1).toInt) : Met l yX0_takeOut [Cond.code yX0_takeOut cX0_takeOut 4 (some (.object "RemoteReach$Packet"))] ({ frames := 0, cells := 0, slots := 0, locals := 0 } : Room) (va_Pc [.ref h0, .int p0] (fun U => TX E G B R U.heap ∧ KS E z0 U)) (va_Qr (fun (u : AA × RR) => True) (fun u ra t => ((G ra = 31) ∧ (TW G u.1 u.2) ∧ (Fr G ([4, 30] : List Nat) B u.1) ∧ (FrR G ([4, 30] : List Nat) R u.2) ∧ (C_X0_takeOut G B R h0 p0 u.1 u.2 ra)) ∧ TX E G u.1 u.2 t.heap) (fun q : Nat => G q ∈ ([4, 30] : List Nat))) 0 0 (fun q : Nat => G q ∈ ([4, 30] : List Nat)) := by
  refine Met.ofW (cc := cX0_takeOut) (maxL := 4) (ret := (some (.object "RemoteReach$Packet"))) (by decide) rfl ?_
  intro p e s m args below meth c s₁ B9 hml hv
  obtain ⟨rfl, hT, hK⟩ := hv
  have hx := B9.exec
  have hb := B9.bytes
  have hr := B9.returns
  have hts : ∀ w ∈ TS, w.before ([.ref h0, .int p0] : List Value).toArray s = true := fun w hw => hK.2.1 w hw _
  have hown : s.vm.findClass RX0 = some m.cls := findClass_of_methodNamed B9.named
  have hlocks := B9.notSynchronized
  have hS : va_S (fun q : Nat => G q ∈ ([4, 30] : List Nat)) s.heap s.heap [] := va_S.rf
  have hAz : ∀ q, (fun q : Nat => G q ∈ ([4, 30] : List Nat)) q → z0 ≤ q := zL hGz (by decide)
  have hW_0 := hW
  have hl := lv_entry ([.ref h0, .int p0]) (n := 4) (Nat.le_of_ble_eq_true rfl)
  rw [lg_entry_eq]
  generalize (lg_sl ([.ref h0, .int p0]) ++ List.replicate (4 - (lg_sl ([.ref h0, .int p0])).length) Slot.unset).toArray = ls at hl ⊢
  have hl : lv_has ls 4 [(0, .ref h0), (1, .int p0)] := hl
  refine lv_aload_n hx hb dX0_takeOut_0 rfl (lv_at hl 0 rfl) ?_
  have ha_1 := tx_4 hT hG
  have hg_2 : G (R h0 0) = 30 := (tw_4 hW hG).1
  refine va_get (D := DG E) (ci := 0) (v := .ref (R h0 0)) (C := RX0) (T := TX0) (N := 4) hx hb hts iw_X0 hown hK.1 (va_one ha_1) 0 rfl rfl 0 (by decide) (hts _ fl_X0_11) (fun _ h9 => h9) rfl dX0_takeOut_1 ?_
  refine lv_iload_n hx hb dX0_takeOut_4 rfl (lv_at hl 1 rfl) ?_
  have ha_3 := tx_30 hT hg_2
  have hi_4 : vp_in p0 24 := vp_in_iff.mpr (by omega)
  obtain ⟨n_5, hn_5, en_5⟩ := x_nat (x := p0) (by omega)
  have hg_6 : G (R (R h0 0) n_5) = 31 := (tw_30 hW hg_2) n_5 (by omega)
  refine va_aldq (D := DG E) hx hb hK.1 (va_one ha_3) 0 7 rfl rfl hi_4 dX0_takeOut_5 ?_
  refine W.eq (g2 := F0 m 6 ls [.ref (R (R h0 0) n_5)]) (by rw [en_5]; rfl) ?_
  refine lv_astore_n (lv' := [(2, .ref (R (R h0 0) n_5)), (0, .ref h0), (1, .int p0)]) hx hb dX0_takeOut_6 rfl hl (by decide) rfl (fun ls hl => ?_)
  refine lv_iload_n hx hb dX0_takeOut_7 rfl (lv_at hl 2 rfl) ?_
  refine lv_iconst (v := 1) hx hb dX0_takeOut_8 (by decide) ?_
  refine lv_iadd hx hb dX0_takeOut_9 ?_
  refine lv_topi (fun x_7 ex_7 => ?_)
  have fx_7 : x_7.toInt = p0.toInt + 1 := by have h9 := s_add (x := p0) (y := 1) (by rw [i_1]; omega) (by rw [i_1]; omega); rw [i_1] at h9; rw [ex_7]; exact h9
  refine lv_istore_n (lv' := [(3, .int x_7), (2, .ref (R (R h0 0) n_5)), (0, .ref h0), (1, .int p0)]) hx hb dX0_takeOut_10 rfl hl (by decide) rfl (fun ls hl => ?_)
  have hb_8 := (tw_4 hW_0 hG).2.1
  refine lp_nat (fun n H locs ls => ∃ (i9 : Int32) (R9 : RR), (1 ≤ i9.toInt ∧ p0.toInt + 1 ≤ i9.toInt ∧ i9.toInt ≤ (B h0 1).toInt) ∧ ((B h0 1).toInt + 1 - i9.toInt).toNat = n ∧ (R9 = uR R (R h0 0) (ShN (R (R h0 0)) n_5 (i9.toInt - 1).toNat)) ∧ TX E G B R9 H ∧ TW G B R9 ∧ va_S (fun q : Nat => G q ∈ ([4, 30] : List Nat)) s.heap H locs ∧ lv_has ls 4 [(3, .int i9), (2, .ref (R (R h0 0) n_5)), (0, .ref h0), (1, .int p0)]) (fun n H locs ls ih hI => ?_) ⟨x_7, R, by omega, rfl, shN_z (by omega), hT, hW, hS, hl⟩
  obtain ⟨i9, R9, hi9, hn9, eR9, hT, hW, hS, hl⟩ := hI
  have hQ9 : FrR G [4, 30] R R9 := FrR.w FrR.rf hg_2 (by decide) eR9
  have hW_9 := hW
  have ea9 : R9 h0 0 = R h0 0 := by rw [eR9, uR_n (ne_G hG hg_2 (by decide))]
  refine lv_iload_n hx hb dX0_takeOut_11 rfl (lv_at hl 0 rfl) ?_
  refine lv_aload_n hx hb dX0_takeOut_12 rfl (lv_at hl 2 rfl) ?_
  have ha_9 := tx_4 hT hG
  refine va_get (D := DG E) (ci := 0) (v := .int (B h0 1)) (C := RX0) (T := TX0) (N := 4) hx hb hts iw_X0 hown hK.1 (va_one ha_9) 0 rfl rfl 1 (by decide) (hts _ fl_X0_25) (fun _ h9 => h9) rfl dX0_takeOut_13 ?_
  refine lv_icmp_ge (tgt := 39) hx hb dX0_takeOut_16 (by decide) (fun c_10 => ?_) (fun c_10 => ?_)
  · simp only [lt_I, le_I, eq_I, i_0, i_1, i_2, i_3, i_4, i_5, i_6, i_7, i_8, i_10, i_12, i_16, i_20, i_23, i_24, i_31, i_32, i_63, i_64, i_m1] at c_10
    refine lv_aload_n hx hb dX0_takeOut_39 rfl (lv_at hl 2 rfl) ?_
    refine lv_dup hx hb dX0_takeOut_40 rfl ?_
    refine va_get (D := DG E) (ci := 0) (v := .int (B h0 1)) (C := RX0) (T := TX0) (N := 4) hx hb hts iw_X0 hown hK.1 (va_one ha_9) 0 rfl rfl 1 (by decide) (hts _ fl_X0_25) (fun _ h9 => h9) rfl dX0_takeOut_41 ?_
    refine lv_iconst (v := 1) hx hb dX0_takeOut_44 (by decide) ?_
    refine lv_isub hx hb dX0_takeOut_45 ?_
    refine lv_topi (fun x_11 ex_11 => ?_)
    have fx_11 : x_11.toInt = (B h0 1).toInt - 1 := by have h9 := s_sub (x := (B h0 1)) (y := 1) (by rw [i_1]; omega) (by rw [i_1]; omega); rw [i_1] at h9; rw [ex_11]; exact h9
    have h9_12 := tw_4 hW_9 hG
    refine rr_put (D := DG E) (ci := 0) (v := .int x_11) (ty := .int) (C := RX0) (T := TX0) (N := 4) hx hb hts iw_X0 tyX0 tyX0_ok nmX0 hown hK.1 ha_9 hS (by show G h0 ∈ ([4, 30] : List Nat); rw [hG]; decide) rfl 1 (by decide) (hts _ fl_X0_25) (fun _ h9 => h9) rfl (by decide +kernel) rfl rfl (Nat.le_of_ble_eq_true rfl) dX0_takeOut_46 (fun H locs hn ho hz hS => ?_)
    obtain ⟨B_13, eB_13⟩ : ∃ z : AA, z = uA B h0 (upd (B h0) 1 x_11) := ⟨_, rfl⟩
    have sB_13 : B_13 h0 1 = x_11 := by rw [eB_13, uA_s]; exact upd_s
    have nB_13 : ∀ k, k ≠ 1 → B_13 h0 k = B h0 k := fun k hk => by rw [eB_13, uA_s]; exact upd_n hk
    have fB_13 : ∀ c, G c ≠ 4 → B_13 c = B c := fun c hc => by rw [eB_13]; exact uA_n (fun e => hc (by rw [e]; exact hG))
    have hT : TX E G B_13 R9 H := by rw [eB_13]; exact hT.w (by rw [hG]; exact hn) ho
    have hWB_13 : TW G B_13 R9 := by rw [eB_13]; exact hW_9.w (by rw [hG]; exact ⟨h9_12.1, (show 0 ≤ (x_11 : Int32).toInt ∧ (x_11 : Int32).toInt ≤ 24 from by omega), h9_12.2.2.1, h9_12.2.2.2⟩)
    have hW := hWB_13
    refine lv_aload_n hx hb dX0_takeOut_49 rfl (lv_at hl 2 rfl) ?_
    have ha_14 := tx_4 hT hG
    have hg_15 : G (R9 h0 0) = 30 := (tw_4 hW hG).1
    refine va_get (D := DG E) (ci := 0) (v := .ref (R9 h0 0)) (C := RX0) (T := TX0) (N := 4) hx hb hts iw_X0 hown hK.1 (va_one ha_14) 0 rfl rfl 0 (by decide) (hts _ fl_X0_11) (fun _ h9 => h9) rfl dX0_takeOut_50 ?_
    refine lv_aload_n hx hb dX0_takeOut_53 rfl (lv_at hl 2 rfl) ?_
    have l_16 : B_13 h0 1 = x_11 := sB_13
    refine va_get (D := DG E) (ci := 0) (v := .int (B_13 h0 1)) (C := RX0) (T := TX0) (N := 4) hx hb hts iw_X0 hown hK.1 (va_one ha_14) 0 rfl rfl 1 (by decide) (hts _ fl_X0_25) (fun _ h9 => h9) rfl dX0_takeOut_54 ?_
    refine W.eq (g2 := F0 m 57 ls [.int x_11, .ref (R9 h0 0)]) (by rw [l_16]) ?_
    refine lv_aload_n hx hb dX0_takeOut_57 rfl (lv_at hl 2 rfl) ?_
    have hg_17 : G (R9 h0 2) = 31 := (tw_4 hW hG).2.2.1
    refine va_get (D := DG E) (ci := 0) (v := .ref (R9 h0 2)) (C := RX0) (T := TX0) (N := 4) hx hb hts iw_X0 hown hK.1 (va_one ha_14) 0 rfl rfl 2 (by decide) (hts _ fl_X0_18) (fun _ h9 => h9) rfl dX0_takeOut_58 ?_
    have ha_18 := tx_30 hT hg_15
    have ha_19 := tx_31 hT hg_17
    have hi_20 : vp_in x_11 24 := vp_in_iff.mpr (by omega)
    obtain ⟨n_21, hn_21, en_21⟩ := x_nat (x := x_11) (by omega)
    refine rr_aast (D := DG E) hx hb hK.1 7 2 ha_18 hS (by show G (R9 h0 0) ∈ ([4, 30] : List Nat); rw [hg_15]; decide) rfl ha_19 rfl hi_20 dX0_takeOut_61 (fun H locs hn ho hz hS => ?_)
    rw [en_21] at hn
    obtain ⟨R_22, eR_22⟩ : ∃ z : RR, z = uR R9 (R9 h0 0) (updN (R9 (R9 h0 0)) n_21 (R9 h0 2)) := ⟨_, rfl⟩
    have hT : TX E G B_13 R_22 H := by rw [eR_22]; exact hT.wr (by rw [hg_15]; exact rr_up hn) ho
    have hWR_22 : TW G B_13 R_22 := by rw [eR_22]; exact hW.wr (by rw [hg_15]; exact fun j hj => rr_upG ((tw_30 hW hg_15) j hj) hg_17)
    have hW := hWR_22
    refine lv_aload_n hx hb dX0_takeOut_62 rfl (lv_at hl 2 rfl) ?_
    refine lv_aload_n hx hb dX0_takeOut_63 rfl (lv_at hl 1 rfl) ?_
    have ha_23 := tx_4 hT hG
    refine rr_put (D := DG E) (ci := 0) (v := .ref (R (R h0 0) n_5)) (ty := .object "RemoteReach$Packet") (C := RX0) (T := TX0) (N := 4) hx hb hts iw_X0 tyX0 tyX0_ok nmX0 hown hK.1 ha_23 hS (by show G h0 ∈ ([4, 30] : List Nat); rw [hG]; decide) rfl 2 (by decide) (hts _ fl_X0_18) (fun _ h9 => h9) rfl (by decide +kernel) rfl rfl (Nat.le_of_ble_eq_true rfl) dX0_takeOut_64 (fun H locs hn ho hz hS => ?_)
    obtain ⟨R_24, eR_24⟩ : ∃ z : RR, z = uR R_22 h0 (updN (R_22 h0) 2 (R (R h0 0) n_5)) := ⟨_, rfl⟩
    have h9_25 := tw_4 hW hG
    have hT : TX E G B_13 R_24 H := by rw [eR_24]; exact hT.wr (by rw [hG]; exact hn) ho
    have hWR_24 : TW G B_13 R_24 := by rw [eR_24]; exact hW.wr (by rw [hG]; exact ⟨h9_25.1, h9_25.2.1, hg_6, h9_25.2.2.2⟩)
    have hW := hWR_24
    refine lv_aload_n hx hb dX0_takeOut_67 rfl (lv_at hl 1 rfl) ?_
    exact W.aret (v := .ref (R (R h0 0) n_5)) hx hb hr (Or.inl ⟨_, rfl⟩) (Or.inr ⟨_, rfl⟩) (fun t ht hW9 => ⟨⟨(B_13, R_24), (R (R h0 0) n_5), rfl, trivial, ⟨⟨hg_6, hW, (Fr.w Fr.rf hG (by decide) eB_13), (FrR.w (FrR.w (FrR.c FrR.rf hQ9 (by decide)) hg_15 (by decide) eR_22) hG (by decide) eR_24), ⟨n_5, hn_5, i9, R9, hi9, eR9, c_10, x_11, ex_11, fx_11, B_13, eB_13, n_21, hn_21, R_22, eR_22, R_24, eR_24, rfl, rfl, rfl⟩⟩, (by show TX E G B_13 R_24 t.heap; rw [ht]; exact hT)⟩⟩, hS.F ht⟩) hS.2.2 dX0_takeOut_68
  · simp only [lt_I, le_I, eq_I, i_0, i_1, i_2, i_3, i_4, i_5, i_6, i_7, i_8, i_10, i_12, i_16, i_20, i_23, i_24, i_31, i_32, i_63, i_64, i_m1] at c_10
    refine lv_aload_n hx hb dX0_takeOut_19 rfl (lv_at hl 2 rfl) ?_
    have hg_26 : G (R9 h0 0) = 30 := (tw_4 hW hG).1
    refine va_get (D := DG E) (ci := 0) (v := .ref (R9 h0 0)) (C := RX0) (T := TX0) (N := 4) hx hb hts iw_X0 hown hK.1 (va_one ha_9) 0 rfl rfl 0 (by decide) (hts _ fl_X0_11) (fun _ h9 => h9) rfl dX0_takeOut_20 ?_
    refine lv_iload_n hx hb dX0_takeOut_23 rfl (lv_at hl 0 rfl) ?_
    refine lv_iconst (v := 1) hx hb dX0_takeOut_24 (by decide) ?_
    refine lv_isub hx hb dX0_takeOut_25 ?_
    refine lv_topi (fun x_27 ex_27 => ?_)
    have fx_27 : x_27.toInt = i9.toInt - 1 := by have h9 := s_sub (x := i9) (y := 1) (by rw [i_1]; omega) (by rw [i_1]; omega); rw [i_1] at h9; rw [ex_27]; exact h9
    refine lv_aload_n hx hb dX0_takeOut_26 rfl (lv_at hl 2 rfl) ?_
    refine va_get (D := DG E) (ci := 0) (v := .ref (R9 h0 0)) (C := RX0) (T := TX0) (N := 4) hx hb hts iw_X0 hown hK.1 (va_one ha_9) 0 rfl rfl 0 (by decide) (hts _ fl_X0_11) (fun _ h9 => h9) rfl dX0_takeOut_27 ?_
    refine lv_iload_n hx hb dX0_takeOut_30 rfl (lv_at hl 0 rfl) ?_
    have ha_28 := tx_30 hT hg_26
    have hi_29 : vp_in i9 24 := vp_in_iff.mpr (by omega)
    obtain ⟨n_30, hn_30, en_30⟩ := x_nat (x := i9) (by omega)
    have hg_31 : G (R9 (R9 h0 0) n_30) = 31 := (tw_30 hW hg_26) n_30 (by omega)
    refine va_aldq (D := DG E) hx hb hK.1 (va_one ha_28) 0 7 rfl rfl hi_29 dX0_takeOut_31 ?_
    refine W.eq (g2 := F0 m 32 ls [.ref (R9 (R9 h0 0) n_30), .int x_27, .ref (R9 h0 0)]) (by rw [en_30]; rfl) ?_
    have ha_32 := tx_31 hT hg_31
    have hi_33 : vp_in x_27 24 := vp_in_iff.mpr (by omega)
    obtain ⟨n_34, hn_34, en_34⟩ := x_nat (x := x_27) (by omega)
    refine rr_aast (D := DG E) hx hb hK.1 7 2 ha_28 hS (by show G (R9 h0 0) ∈ ([4, 30] : List Nat); rw [hg_26]; decide) rfl ha_32 rfl hi_33 dX0_takeOut_32 (fun H locs hn ho hz hS => ?_)
    rw [en_34] at hn
    obtain ⟨R_35, eR_35⟩ : ∃ z : RR, z = uR R9 (R9 h0 0) (updN (R9 (R9 h0 0)) n_34 (R9 (R9 h0 0) n_30)) := ⟨_, rfl⟩
    have hT : TX E G B R_35 H := by rw [eR_35]; exact hT.wr (by rw [hg_26]; exact rr_up hn) ho
    have hWR_35 : TW G B R_35 := by rw [eR_35]; exact hW.wr (by rw [hg_26]; exact fun j hj => rr_upG ((tw_30 hW hg_26) j hj) hg_31)
    have hW := hWR_35
    obtain ⟨x_36, ex_36⟩ : ∃ z : Int32, i9 + Int32.ofInt 1 = z := ⟨_, rfl⟩
    have fx_36 : x_36.toInt = i9.toInt + 1 := by have h9 := s_add (x := i9) (y := 1) (by rw [i_1]; omega) (by rw [i_1]; omega); rw [i_1] at h9; rw [← ex_36]; exact h9
    refine lv_iinc (v := x_36) (lv' := [(3, .int x_36), (2, .ref (R (R h0 0) n_5)), (0, .ref h0), (1, .int p0)]) hx hb dX0_takeOut_33 hl (k := 0) rfl ex_36 (by decide) rfl (fun ls hl => ?_)
    refine lv_goto (tgt := 11) hx hb dX0_takeOut_36 (by decide) ?_
    have e10 : R_35 = uR R (R h0 0) (ShN (R (R h0 0)) n_5 (x_36.toInt - 1).toNat) := by rw [eR_35, show (x_36.toInt - 1).toNat = n_30 by omega]; exact shN_s (by rw [eR9, show (i9.toInt - 1).toNat = n_34 by omega]) ea9 (by omega) (by omega) rfl
    exact ih _ (by omega) _ _ _ ⟨x_36, R_35, by omega, rfl, e10, hT, hW, hS, hl⟩
theorem dX0_copyToEnd_0 : decode cX0_copyToEnd 0 = .ok (.aload_n 0, 1) := by decide +kernel
theorem dX0_copyToEnd_1 : decode cX0_copyToEnd 1 = .ok (.getfield 11, 3) := by decide +kernel
theorem dX0_copyToEnd_4 : decode cX0_copyToEnd 4 = .ok (.aload_n 0, 1) := by decide +kernel
theorem dX0_copyToEnd_5 : decode cX0_copyToEnd 5 = .ok (.getfield 25, 3) := by decide +kernel
theorem dX0_copyToEnd_8 : decode cX0_copyToEnd 8 = .ok (.aaload, 1) := by decide +kernel
theorem dX0_copyToEnd_9 : decode cX0_copyToEnd 9 = .ok (.aload_n 0, 1) := by decide +kernel
theorem dX0_copyToEnd_10 : decode cX0_copyToEnd 10 = .ok (.getfield 11, 3) := by decide +kernel
theorem dX0_copyToEnd_13 : decode cX0_copyToEnd 13 = .ok (.iload_n 1, 1) := by decide +kernel
theorem dX0_copyToEnd_14 : decode cX0_copyToEnd 14 = .ok (.aaload, 1) := by decide +kernel
theorem dX0_copyToEnd_15 : decode cX0_copyToEnd 15 = .ok (.invokevirtual 37, 3) := by decide +kernel
theorem dX0_copyToEnd_18 : decode cX0_copyToEnd 18 = .ok (.aload_n 0, 1) := by decide +kernel
theorem dX0_copyToEnd_19 : decode cX0_copyToEnd 19 = .ok (.dup, 1) := by decide +kernel
theorem dX0_copyToEnd_20 : decode cX0_copyToEnd 20 = .ok (.getfield 25, 3) := by decide +kernel
theorem dX0_copyToEnd_23 : decode cX0_copyToEnd 23 = .ok (.iconst 1, 1) := by decide +kernel
theorem dX0_copyToEnd_24 : decode cX0_copyToEnd 24 = .ok (.iadd, 1) := by decide +kernel
theorem dX0_copyToEnd_25 : decode cX0_copyToEnd 25 = .ok (.putfield 25, 3) := by decide +kernel
theorem dX0_copyToEnd_28 : decode cX0_copyToEnd 28 = .ok (.return_, 1) := by decide +kernel
set_option maxHeartbeats 8000000 in
set_option maxRecDepth 100000 in
theorem x_X0_copyToEnd (l : Launch) (E : EE) (z0 : Nat) (G : Nat → Nat) (hGz : ∀ q, G q ≠ 0 → z0 ≤ q) (B : AA) (R : RR) (hW : TW G B R) (h0 : Nat) (p0 : Int32) (hG : G h0 = 4) (hy0 : 0 ≤ p0.toInt ∧ p0.toInt ≤ 23) (hy1 : (B h0 1).toInt ≤ 23) : Met l yX0_copyToEnd [Cond.code yX0_copyToEnd cX0_copyToEnd 2 none] ({ frames := 2, cells := 0, slots := 0, locals := 45 } : Room) (va_Pc [.ref h0, .int p0] (fun U => TX E G B R U.heap ∧ KS E z0 U)) (va_Qv (fun (u : AA) => (TW G u R) ∧ (Fr G ([4, 31, 32] : List Nat) B u) ∧ (C_X0_copyToEnd G B R h0 p0 u)) (fun u t => TX E G u R t.heap) (fun q : Nat => G q ∈ ([4, 31, 32] : List Nat))) 0 0 (fun q : Nat => G q ∈ ([4, 31, 32] : List Nat)) := by
  refine Met.ofW (cc := cX0_copyToEnd) (maxL := 2) (ret := none) (by decide) rfl ?_
  intro p e s m args below meth c s₁ B9 hml hv
  obtain ⟨rfl, hT, hK⟩ := hv
  have hx := B9.exec
  have hb := B9.bytes
  have hr := B9.returns
  have hts : ∀ w ∈ TS, w.before ([.ref h0, .int p0] : List Value).toArray s = true := fun w hw => hK.2.1 w hw _
  have hown : s.vm.findClass RX0 = some m.cls := findClass_of_methodNamed B9.named
  have hlocks := B9.notSynchronized
  have hS : va_S (fun q : Nat => G q ∈ ([4, 31, 32] : List Nat)) s.heap s.heap [] := va_S.rf
  have hAz : ∀ q, (fun q : Nat => G q ∈ ([4, 31, 32] : List Nat)) q → z0 ≤ q := zL hGz (by decide)
  have hW_0 := hW
  have hl := lv_entry ([.ref h0, .int p0]) (n := 2) (Nat.le_of_ble_eq_true rfl)
  rw [lg_entry_eq]
  generalize (lg_sl ([.ref h0, .int p0]) ++ List.replicate (2 - (lg_sl ([.ref h0, .int p0])).length) Slot.unset).toArray = ls at hl ⊢
  have hl : lv_has ls 2 [(0, .ref h0), (1, .int p0)] := hl
  refine lv_aload_n hx hb dX0_copyToEnd_0 rfl (lv_at hl 0 rfl) ?_
  have ha_1 := tx_4 hT hG
  have hg_2 : G (R h0 0) = 30 := (tw_4 hW hG).1
  refine va_get (D := DG E) (ci := 0) (v := .ref (R h0 0)) (C := RX0) (T := TX0) (N := 4) hx hb hts iw_X0 hown hK.1 (va_one ha_1) 0 rfl rfl 0 (by decide) (hts _ fl_X0_11) (fun _ h9 => h9) rfl dX0_copyToEnd_1 ?_
  refine lv_aload_n hx hb dX0_copyToEnd_4 rfl (lv_at hl 0 rfl) ?_
  have hb_3 := (tw_4 hW_0 hG).2.1
  refine va_get (D := DG E) (ci := 0) (v := .int (B h0 1)) (C := RX0) (T := TX0) (N := 4) hx hb hts iw_X0 hown hK.1 (va_one ha_1) 0 rfl rfl 1 (by decide) (hts _ fl_X0_25) (fun _ h9 => h9) rfl dX0_copyToEnd_5 ?_
  have ha_4 := tx_30 hT hg_2
  have hi_5 : vp_in (B h0 1) 24 := vp_in_iff.mpr (by omega)
  obtain ⟨n_6, hn_6, en_6⟩ := x_nat (x := (B h0 1)) (by omega)
  have hg_7 : G (R (R h0 0) n_6) = 31 := (tw_30 hW hg_2) n_6 (by omega)
  refine va_aldq (D := DG E) hx hb hK.1 (va_one ha_4) 0 7 rfl rfl hi_5 dX0_copyToEnd_8 ?_
  refine W.eq (g2 := F0 m 9 ls [.ref (R (R h0 0) n_6)]) (by rw [en_6]; rfl) ?_
  refine lv_aload_n hx hb dX0_copyToEnd_9 rfl (lv_at hl 0 rfl) ?_
  refine va_get (D := DG E) (ci := 0) (v := .ref (R h0 0)) (C := RX0) (T := TX0) (N := 4) hx hb hts iw_X0 hown hK.1 (va_one ha_1) 0 rfl rfl 0 (by decide) (hts _ fl_X0_11) (fun _ h9 => h9) rfl dX0_copyToEnd_10 ?_
  refine lv_iload_n hx hb dX0_copyToEnd_13 rfl (lv_at hl 1 rfl) ?_
  have hi_8 : vp_in p0 24 := vp_in_iff.mpr (by omega)
  obtain ⟨n_9, hn_9, en_9⟩ := x_nat (x := p0) (by omega)
  have hg_10 : G (R (R h0 0) n_9) = 31 := (tw_30 hW hg_2) n_9 (by omega)
  refine va_aldq (D := DG E) hx hb hK.1 (va_one ha_4) 0 7 rfl rfl hi_8 dX0_copyToEnd_14 ?_
  refine W.eq (g2 := F0 m 15 ls [.ref (R (R h0 0) n_9), .ref (R (R h0 0) n_6)]) (by rw [en_9]; rfl) ?_
  have ha_11 := tx_31 hT hg_7
  refine va_callv (rnV (fun H => TX E G B R H) (As := [.ref (R (R h0 0) n_9)]) (rest := []) ⟨hx, hb, hml, hown, hts⟩ (x_X2_becomeLike l E z0 G hGz B R hW (R (R h0 0) n_6) (R (R h0 0) n_9) hg_7 hg_10) (cwV 1 hts (gdV ml_X0_37 im_X2_becomeLike se_X2_X2_becomeLike in_X2 co_X2_becomeLike rfl) rfl rfl rfl (by decide +kernel) ⟨Nat.le_of_ble_eq_true rfl, Nat.le_of_ble_eq_true rfl⟩) hT (fun U hU hW => hK.go hW hS hAz hU) (va_recv hK.1 (va_one ha_11) (ci := 2) (q0 := 0) rfl rfl) rfl rfl hl.1 rfl (lv_room (Nat.le_of_ble_eq_true rfl)) dX0_copyToEnd_15 ⟨Nat.le_of_ble_eq_true rfl, Nat.le_of_ble_eq_true rfl⟩) hS (fun q _ h => mL (L' := [31, 32]) (L := [4, 31, 32]) (by decide) h) (fun q h => mL (L' := [31, 32]) (L := [4, 31, 32]) (by decide) h) (fun U_13 t H locs ht hvm hwr_12 hB hz hk hS => ?_)
  have hT : TX E G U_13 R H := by rw [ht] at hB; exact hB
  have hWr_12 : TW G U_13 R := hwr_12.1
  have hW := hWr_12
  have hFr_12 : Fr G [31, 32] B U_13 := hwr_12.2.1
  have hCr_12 : C_X2_becomeLike G B R (R (R h0 0) n_6) (R (R h0 0) n_9) U_13 := hwr_12.2.2
  refine lv_aload_n hx hb dX0_copyToEnd_18 rfl (lv_at hl 0 rfl) ?_
  refine lv_dup hx hb dX0_copyToEnd_19 rfl ?_
  have ha_14 := tx_4 hT hG
  have l_15 : U_13 h0 1 = (B h0 1) := (congrFun (hFr_12 h0 (by rw [hG]; decide)) 1)
  refine va_get (D := DG E) (ci := 0) (v := .int (U_13 h0 1)) (C := RX0) (T := TX0) (N := 4) hx hb hts iw_X0 hown hK.1 (va_one ha_14) 0 rfl rfl 1 (by decide) (hts _ fl_X0_25) (fun _ h9 => h9) rfl dX0_copyToEnd_20 ?_
  refine W.eq (g2 := F0 m 23 ls [.int (B h0 1), .ref h0]) (by rw [l_15]) ?_
  refine lv_iconst (v := 1) hx hb dX0_copyToEnd_23 (by decide) ?_
  refine lv_iadd hx hb dX0_copyToEnd_24 ?_
  refine lv_topi (fun x_16 ex_16 => ?_)
  have fx_16 : x_16.toInt = (B h0 1).toInt + 1 := by have h9 := s_add (x := (B h0 1)) (y := 1) (by rw [i_1]; omega) (by rw [i_1]; omega); rw [i_1] at h9; rw [ex_16]; exact h9
  have h9_17 := tw_4 hWr_12 hG
  refine rr_put (D := DG E) (ci := 0) (v := .int x_16) (ty := .int) (C := RX0) (T := TX0) (N := 4) hx hb hts iw_X0 tyX0 tyX0_ok nmX0 hown hK.1 ha_14 hS (by show G h0 ∈ ([4, 31, 32] : List Nat); rw [hG]; decide) rfl 1 (by decide) (hts _ fl_X0_25) (fun _ h9 => h9) rfl (by decide +kernel) rfl rfl (Nat.le_of_ble_eq_true rfl) dX0_copyToEnd_25 (fun H locs hn ho hz hS => ?_)
  obtain ⟨B_18, eB_18⟩ : ∃ z : AA, z = uA U_13 h0 (upd (U_13 h0) 1 x_16) := ⟨_, rfl⟩
  have sB_18 : B_18 h0 1 = x_16 := by rw [eB_18, uA_s]; exact upd_s
  have nB_18 : ∀ k, k ≠ 1 → B_18 h0 k = U_13 h0 k := fun k hk => by rw [eB_18, uA_s]; exact upd_n hk
  have fB_18 : ∀ c, G c ≠ 4 → B_18 c = U_13 c := fun c hc => by rw [eB_18]; exact uA_n (fun e => hc (by rw [e]; exact hG))
  have hT : TX E G B_18 R H := by rw [eB_18]; exact hT.w (by rw [hG]; exact hn) ho
  have hWB_18 : TW G B_18 R := by rw [eB_18]; exact hWr_12.w (by rw [hG]; exact ⟨h9_17.1, (show 0 ≤ (x_16 : Int32).toInt ∧ (x_16 : Int32).toInt ≤ 24 from by omega), h9_17.2.2.1, h9_17.2.2.2⟩)
  have hW := hWB_18
  exact W.vret hx hb hr (fun t ht hW9 => ⟨⟨B_18, rfl, ⟨hW, (Fr.w (Fr.c Fr.rf hFr_12 (by decide)) hG (by decide) eB_18), ⟨n_6, hn_6, n_9, hn_9, U_13, hFr_12, hCr_12, x_16, ex_16, fx_16, B_18, eB_18, rfl⟩⟩, (by show TX E G B_18 R t.heap; rw [ht]; exact hT)⟩, hS.F ht⟩) hS.2.2 dX0_copyToEnd_28
theorem dX4_cellsOf_0 : decode cX4_cellsOf 0 = .ok (.iconst 4, 1) := by decide +kernel
theorem dX4_cellsOf_1 : decode cX4_cellsOf 1 = .ok (.aload_n 0, 1) := by decide +kernel
theorem dX4_cellsOf_2 : decode cX4_cellsOf 2 = .ok (.getfield 9, 3) := by decide +kernel
theorem dX4_cellsOf_5 : decode cX4_cellsOf 5 = .ok (.iconst 4, 1) := by decide +kernel
theorem dX4_cellsOf_6 : decode cX4_cellsOf 6 = .ok (.iload_n 1, 1) := by decide +kernel
theorem dX4_cellsOf_7 : decode cX4_cellsOf 7 = .ok (.imul, 1) := by decide +kernel
theorem dX4_cellsOf_8 : decode cX4_cellsOf 8 = .ok (.isub, 1) := by decide +kernel
theorem dX4_cellsOf_9 : decode cX4_cellsOf 9 = .ok (.invokestatic 15, 3) := by decide +kernel
theorem dX4_cellsOf_12 : decode cX4_cellsOf 12 = .ok (.ireturn, 1) := by decide +kernel
set_option maxHeartbeats 8000000 in
set_option maxRecDepth 100000 in
theorem x_X4_cellsOf (l : Launch) (E : EE) (z0 : Nat) (G : Nat → Nat) (hGz : ∀ q, G q ≠ 0 → z0 ≤ q) (B : AA) (R : RR) (hW : TW G B R) (h0 : Nat) (p0 : Int32) (hG : G h0 = 13) : Met l yX4_cellsOf [Cond.code yX4_cellsOf cX4_cellsOf 2 (some .int)] ({ frames := 1, cells := 0, slots := 0, locals := 21 } : Room) (va_Pc [.ref h0, .int p0] (fun U => TX E G B R U.heap ∧ KS E z0 U)) (va_Qi (fun (r : Int32) (u : Unit) => (C_X4_cellsOf G B R h0 p0 r)) (fun u t => True) (fun _ : Nat => False)) 0 0 (fun _ : Nat => False) := by
  refine Met.ofW (cc := cX4_cellsOf) (maxL := 2) (ret := (some .int)) (by decide) rfl ?_
  intro p e s m args below meth c s₁ B9 hml hv
  obtain ⟨rfl, hT, hK⟩ := hv
  have hx := B9.exec
  have hb := B9.bytes
  have hr := B9.returns
  have hts : ∀ w ∈ TS, w.before ([.ref h0, .int p0] : List Value).toArray s = true := fun w hw => hK.2.1 w hw _
  have hown : s.vm.findClass RX4 = some m.cls := findClass_of_methodNamed B9.named
  have hlocks := B9.notSynchronized
  have hS : va_S (fun _ : Nat => False) s.heap s.heap [] := va_S.rf
  have hAz : ∀ q, (fun _ : Nat => False) q → z0 ≤ q := fun _ h => h.elim
  have hW_0 := hW
  have hl := lv_entry ([.ref h0, .int p0]) (n := 2) (Nat.le_of_ble_eq_true rfl)
  rw [lg_entry_eq]
  generalize (lg_sl ([.ref h0, .int p0]) ++ List.replicate (2 - (lg_sl ([.ref h0, .int p0])).length) Slot.unset).toArray = ls at hl ⊢
  have hl : lv_has ls 2 [(0, .ref h0), (1, .int p0)] := hl
  refine lv_iconst (v := 4) hx hb dX4_cellsOf_0 (by decide) ?_
  refine lv_aload_n hx hb dX4_cellsOf_1 rfl (lv_at hl 0 rfl) ?_
  have ha_1 := tx_13 hT hG
  have hb_2 := (tw_13 hW_0 hG)
  refine va_get (D := DG E) (ci := 4) (v := .int (B h0 3)) (C := RX4) (T := TX4) (N := 10) hx hb hts iw_X4 hown hK.1 (va_one ha_1) 0 rfl rfl 3 (by decide) (hts _ fl_X4_9) (fun _ h9 => h9) rfl dX4_cellsOf_2 ?_
  refine lv_iconst (v := 4) hx hb dX4_cellsOf_5 (by decide) ?_
  refine lv_iload_n hx hb dX4_cellsOf_6 rfl (lv_at hl 1 rfl) ?_
  refine lv_imul hx hb dX4_cellsOf_7 ?_
  refine lv_topi (fun x_3 ex_3 => ?_)
  refine lv_isub hx hb dX4_cellsOf_8 ?_
  refine lv_topi (fun x_4 ex_4 => ?_)
  refine va_mmin hx hb (by rw [hml]; exact hl.1.symm) hown (hts _ ml_X4_15) (hts _ st_Math_min) (hts _ in_Math) (hts _ co_Math_min) (Nat.le_of_ble_eq_true rfl) (Nat.le_of_ble_eq_true rfl) (Nat.zero_le _) (Nat.zero_le _) dX4_cellsOf_9 ?_
  refine lv_topi (fun x_5 ex_5 => ?_)
  have fx_5 := s_min ex_5; rw [i_4] at fx_5
  exact W.iret (v := x_5) hx hb hr (fun t ht hW9 => ⟨⟨x_5, (), rfl, ⟨x_3, ex_3, x_4, ex_4, x_5, ex_5, rfl⟩, trivial⟩, hS.F ht⟩) hS.2.2 dX4_cellsOf_12
theorem dX4_isLastNumber_0 : decode cX4_isLastNumber 0 = .ok (.iload_n 1, 1) := by decide +kernel
theorem dX4_isLastNumber_1 : decode cX4_isLastNumber 1 = .ok (.aload_n 0, 1) := by decide +kernel
theorem dX4_isLastNumber_2 : decode cX4_isLastNumber 2 = .ok (.getfield 21, 3) := by decide +kernel
theorem dX4_isLastNumber_5 : decode cX4_isLastNumber 5 = .ok (.iconst 1, 1) := by decide +kernel
theorem dX4_isLastNumber_6 : decode cX4_isLastNumber 6 = .ok (.isub, 1) := by decide +kernel
theorem dX4_isLastNumber_7 : decode cX4_isLastNumber 7 = .ok (.if_icmp .ne 7, 3) := by decide +kernel
theorem dX4_isLastNumber_10 : decode cX4_isLastNumber 10 = .ok (.iconst 1, 1) := by decide +kernel
theorem dX4_isLastNumber_11 : decode cX4_isLastNumber 11 = .ok (.goto 4, 3) := by decide +kernel
theorem dX4_isLastNumber_14 : decode cX4_isLastNumber 14 = .ok (.iconst 0, 1) := by decide +kernel
theorem dX4_isLastNumber_15 : decode cX4_isLastNumber 15 = .ok (.ireturn, 1) := by decide +kernel
set_option maxHeartbeats 8000000 in
set_option maxRecDepth 100000 in
theorem x_X4_isLastNumber (l : Launch) (E : EE) (z0 : Nat) (G : Nat → Nat) (hGz : ∀ q, G q ≠ 0 → z0 ≤ q) (B : AA) (R : RR) (hW : TW G B R) (h0 : Nat) (p0 : Int32) (hG : G h0 = 13) : Met l yX4_isLastNumber [Cond.code yX4_isLastNumber cX4_isLastNumber 2 (some .boolean)] ({ frames := 0, cells := 0, slots := 0, locals := 0 } : Room) (va_Pc [.ref h0, .int p0] (fun U => TX E G B R U.heap ∧ KS E z0 U)) (va_Qi (fun (r : Int32) (u : Unit) => (r = 0 ∨ r = 1) ∧ (C_X4_isLastNumber G B R h0 p0 r)) (fun u t => True) (fun _ : Nat => False)) 0 0 (fun _ : Nat => False) := by
  refine Met.ofW (cc := cX4_isLastNumber) (maxL := 2) (ret := (some .boolean)) (by decide) rfl ?_
  intro p e s m args below meth c s₁ B9 hml hv
  obtain ⟨rfl, hT, hK⟩ := hv
  have hx := B9.exec
  have hb := B9.bytes
  have hr := B9.returns
  have hts : ∀ w ∈ TS, w.before ([.ref h0, .int p0] : List Value).toArray s = true := fun w hw => hK.2.1 w hw _
  have hown : s.vm.findClass RX4 = some m.cls := findClass_of_methodNamed B9.named
  have hlocks := B9.notSynchronized
  have hS : va_S (fun _ : Nat => False) s.heap s.heap [] := va_S.rf
  have hAz : ∀ q, (fun _ : Nat => False) q → z0 ≤ q := fun _ h => h.elim
  have hW_0 := hW
  have hl := lv_entry ([.ref h0, .int p0]) (n := 2) (Nat.le_of_ble_eq_true rfl)
  rw [lg_entry_eq]
  generalize (lg_sl ([.ref h0, .int p0]) ++ List.replicate (2 - (lg_sl ([.ref h0, .int p0])).length) Slot.unset).toArray = ls at hl ⊢
  have hl : lv_has ls 2 [(0, .ref h0), (1, .int p0)] := hl
  refine lv_iload_n hx hb dX4_isLastNumber_0 rfl (lv_at hl 1 rfl) ?_
  refine lv_aload_n hx hb dX4_isLastNumber_1 rfl (lv_at hl 0 rfl) ?_
  have ha_1 := tx_13 hT hG
  refine va_get (D := DG E) (ci := 4) (v := .int (B h0 5)) (C := RX4) (T := TX4) (N := 10) hx hb hts iw_X4 hown hK.1 (va_one ha_1) 0 rfl rfl 5 (by decide) (hts _ fl_X4_21) (fun _ h9 => h9) rfl dX4_isLastNumber_2 ?_
  refine lv_iconst (v := 1) hx hb dX4_isLastNumber_5 (by decide) ?_
  refine lv_isub hx hb dX4_isLastNumber_6 ?_
  refine lv_topi (fun x_2 ex_2 => ?_)
  refine lv_icmp_ne (tgt := 14) hx hb dX4_isLastNumber_7 (by decide) (fun c_3 => ?_) (fun c_3 => ?_)
  · simp only [lt_I, le_I, eq_I, i_0, i_1, i_2, i_3, i_4, i_5, i_6, i_7, i_8, i_10, i_12, i_16, i_20, i_23, i_24, i_31, i_32, i_63, i_64, i_m1] at c_3
    refine lv_iconst (v := 0) hx hb dX4_isLastNumber_14 (by decide) ?_
    exact W.zret (v := 0) (ty := .boolean) hx hb hr rfl (fun t ht hW9 => ⟨⟨0, (), rfl, ⟨(by decide), (Or.inl ⟨x_2, ex_2, c_3, rfl⟩)⟩, trivial⟩, hS.F ht⟩) hS.2.2 dX4_isLastNumber_15
  · simp only [lt_I, le_I, eq_I, i_0, i_1, i_2, i_3, i_4, i_5, i_6, i_7, i_8, i_10, i_12, i_16, i_20, i_23, i_24, i_31, i_32, i_63, i_64, i_m1] at c_3
    refine lv_iconst (v := 1) hx hb dX4_isLastNumber_10 (by decide) ?_
    refine lv_goto (tgt := 15) hx hb dX4_isLastNumber_11 (by decide) ?_
    exact W.zret (v := 1) (ty := .boolean) hx hb hr rfl (fun t ht hW9 => ⟨⟨1, (), rfl, ⟨(by decide), (Or.inr ⟨x_2, ex_2, c_3, rfl⟩)⟩, trivial⟩, hS.F ht⟩) hS.2.2 dX4_isLastNumber_15
theorem dX4_awaitsReply_0 : decode cX4_awaitsReply 0 = .ok (.aload_n 0, 1) := by decide +kernel
theorem dX4_awaitsReply_1 : decode cX4_awaitsReply 1 = .ok (.getfield 24, 3) := by decide +kernel
theorem dX4_awaitsReply_4 : decode cX4_awaitsReply 4 = .ok (.iconst 2, 1) := by decide +kernel
theorem dX4_awaitsReply_5 : decode cX4_awaitsReply 5 = .ok (.if_icmp .eq 11, 3) := by decide +kernel
theorem dX4_awaitsReply_8 : decode cX4_awaitsReply 8 = .ok (.aload_n 0, 1) := by decide +kernel
theorem dX4_awaitsReply_9 : decode cX4_awaitsReply 9 = .ok (.getfield 24, 3) := by decide +kernel
theorem dX4_awaitsReply_12 : decode cX4_awaitsReply 12 = .ok (.iconst 3, 1) := by decide +kernel
theorem dX4_awaitsReply_13 : decode cX4_awaitsReply 13 = .ok (.if_icmp .ne 7, 3) := by decide +kernel
theorem dX4_awaitsReply_16 : decode cX4_awaitsReply 16 = .ok (.iconst 1, 1) := by decide +kernel
theorem dX4_awaitsReply_17 : decode cX4_awaitsReply 17 = .ok (.goto 4, 3) := by decide +kernel
theorem dX4_awaitsReply_20 : decode cX4_awaitsReply 20 = .ok (.iconst 0, 1) := by decide +kernel
theorem dX4_awaitsReply_21 : decode cX4_awaitsReply 21 = .ok (.ireturn, 1) := by decide +kernel
set_option maxHeartbeats 8000000 in
set_option maxRecDepth 100000 in
theorem x_X4_awaitsReply (l : Launch) (E : EE) (z0 : Nat) (G : Nat → Nat) (hGz : ∀ q, G q ≠ 0 → z0 ≤ q) (B : AA) (R : RR) (hW : TW G B R) (h0 : Nat) (hG : G h0 = 13) : Met l yX4_awaitsReply [Cond.code yX4_awaitsReply cX4_awaitsReply 1 (some .boolean)] ({ frames := 0, cells := 0, slots := 0, locals := 0 } : Room) (va_Pc [.ref h0] (fun U => TX E G B R U.heap ∧ KS E z0 U)) (va_Qi (fun (r : Int32) (u : Unit) => (r = 0 ∨ r = 1) ∧ (C_X4_awaitsReply G B R h0 r)) (fun u t => True) (fun _ : Nat => False)) 0 0 (fun _ : Nat => False) := by
  refine Met.ofW (cc := cX4_awaitsReply) (maxL := 1) (ret := (some .boolean)) (by decide) rfl ?_
  intro p e s m args below meth c s₁ B9 hml hv
  obtain ⟨rfl, hT, hK⟩ := hv
  have hx := B9.exec
  have hb := B9.bytes
  have hr := B9.returns
  have hts : ∀ w ∈ TS, w.before ([.ref h0] : List Value).toArray s = true := fun w hw => hK.2.1 w hw _
  have hown : s.vm.findClass RX4 = some m.cls := findClass_of_methodNamed B9.named
  have hlocks := B9.notSynchronized
  have hS : va_S (fun _ : Nat => False) s.heap s.heap [] := va_S.rf
  have hAz : ∀ q, (fun _ : Nat => False) q → z0 ≤ q := fun _ h => h.elim
  have hW_0 := hW
  have hl := lv_entry ([.ref h0]) (n := 1) (Nat.le_of_ble_eq_true rfl)
  rw [lg_entry_eq]
  generalize (lg_sl ([.ref h0]) ++ List.replicate (1 - (lg_sl ([.ref h0])).length) Slot.unset).toArray = ls at hl ⊢
  have hl : lv_has ls 1 [(0, .ref h0)] := hl
  refine lv_aload_n hx hb dX4_awaitsReply_0 rfl (lv_at hl 0 rfl) ?_
  have ha_1 := tx_13 hT hG
  refine va_get (D := DG E) (ci := 4) (v := .int (B h0 0)) (C := RX4) (T := TX4) (N := 10) hx hb hts iw_X4 hown hK.1 (va_one ha_1) 0 rfl rfl 0 (by decide) (hts _ fl_X4_24) (fun _ h9 => h9) rfl dX4_awaitsReply_1 ?_
  refine lv_iconst (v := 2) hx hb dX4_awaitsReply_4 (by decide) ?_
  refine lv_icmp_eq (tgt := 16) hx hb dX4_awaitsReply_5 (by decide) (fun c_2 => ?_) (fun c_2 => ?_)
  · simp only [lt_I, le_I, eq_I, i_0, i_1, i_2, i_3, i_4, i_5, i_6, i_7, i_8, i_10, i_12, i_16, i_20, i_23, i_24, i_31, i_32, i_63, i_64, i_m1] at c_2
    refine lv_iconst (v := 1) hx hb dX4_awaitsReply_16 (by decide) ?_
    refine lv_goto (tgt := 21) hx hb dX4_awaitsReply_17 (by decide) ?_
    exact W.zret (v := 1) (ty := .boolean) hx hb hr rfl (fun t ht hW9 => ⟨⟨1, (), rfl, ⟨(by decide), (Or.inl ⟨c_2, rfl⟩)⟩, trivial⟩, hS.F ht⟩) hS.2.2 dX4_awaitsReply_21
  · simp only [lt_I, le_I, eq_I, i_0, i_1, i_2, i_3, i_4, i_5, i_6, i_7, i_8, i_10, i_12, i_16, i_20, i_23, i_24, i_31, i_32, i_63, i_64, i_m1] at c_2
    refine lv_aload_n hx hb dX4_awaitsReply_8 rfl (lv_at hl 0 rfl) ?_
    refine va_get (D := DG E) (ci := 4) (v := .int (B h0 0)) (C := RX4) (T := TX4) (N := 10) hx hb hts iw_X4 hown hK.1 (va_one ha_1) 0 rfl rfl 0 (by decide) (hts _ fl_X4_24) (fun _ h9 => h9) rfl dX4_awaitsReply_9 ?_
    refine lv_iconst (v := 3) hx hb dX4_awaitsReply_12 (by decide) ?_
    refine lv_icmp_ne (tgt := 20) hx hb dX4_awaitsReply_13 (by decide) (fun c_3 => ?_) (fun c_3 => ?_)
    · simp only [lt_I, le_I, eq_I, i_0, i_1, i_2, i_3, i_4, i_5, i_6, i_7, i_8, i_10, i_12, i_16, i_20, i_23, i_24, i_31, i_32, i_63, i_64, i_m1] at c_3
      refine lv_iconst (v := 0) hx hb dX4_awaitsReply_20 (by decide) ?_
      exact W.zret (v := 0) (ty := .boolean) hx hb hr rfl (fun t ht hW9 => ⟨⟨0, (), rfl, ⟨(by decide), (Or.inr (Or.inl ⟨c_2, c_3, rfl⟩))⟩, trivial⟩, hS.F ht⟩) hS.2.2 dX4_awaitsReply_21
    · simp only [lt_I, le_I, eq_I, i_0, i_1, i_2, i_3, i_4, i_5, i_6, i_7, i_8, i_10, i_12, i_16, i_20, i_23, i_24, i_31, i_32, i_63, i_64, i_m1] at c_3
      refine lv_iconst (v := 1) hx hb dX4_awaitsReply_16 (by decide) ?_
      refine lv_goto (tgt := 21) hx hb dX4_awaitsReply_17 (by decide) ?_
      exact W.zret (v := 1) (ty := .boolean) hx hb hr rfl (fun t ht hW9 => ⟨⟨1, (), rfl, ⟨(by decide), (Or.inr (Or.inr ⟨c_2, c_3, rfl⟩))⟩, trivial⟩, hS.F ht⟩) hS.2.2 dX4_awaitsReply_21
theorem dX5_clear_0 : decode cX5_clear 0 = .ok (.aload_n 0, 1) := by decide +kernel
theorem dX5_clear_1 : decode cX5_clear 1 = .ok (.iconst 0, 1) := by decide +kernel
theorem dX5_clear_2 : decode cX5_clear 2 = .ok (.putfield 26, 3) := by decide +kernel
theorem dX5_clear_5 : decode cX5_clear 5 = .ok (.aload_n 0, 1) := by decide +kernel
theorem dX5_clear_6 : decode cX5_clear 6 = .ok (.iconst 0, 1) := by decide +kernel
theorem dX5_clear_7 : decode cX5_clear 7 = .ok (.putfield 29, 3) := by decide +kernel
theorem dX5_clear_10 : decode cX5_clear 10 = .ok (.aload_n 0, 1) := by decide +kernel
theorem dX5_clear_11 : decode cX5_clear 11 = .ok (.iconst 0, 1) := by decide +kernel
theorem dX5_clear_12 : decode cX5_clear 12 = .ok (.putfield 32, 3) := by decide +kernel
theorem dX5_clear_15 : decode cX5_clear 15 = .ok (.return_, 1) := by decide +kernel
set_option maxHeartbeats 8000000 in
set_option maxRecDepth 100000 in
theorem x_X5_clear (l : Launch) (E : EE) (z0 : Nat) (G : Nat → Nat) (hGz : ∀ q, G q ≠ 0 → z0 ≤ q) (B : AA) (R : RR) (hW : TW G B R) (h0 : Nat) (hG : G h0 = 11) : Met l yX5_clear [Cond.code yX5_clear cX5_clear 1 none] ({ frames := 0, cells := 0, slots := 0, locals := 0 } : Room) (va_Pc [.ref h0] (fun U => TX E G B R U.heap ∧ KS E z0 U)) (va_Qv (fun (u : AA) => (TW G u R) ∧ (Fr G ([11] : List Nat) B u) ∧ (C_X5_clear G B R h0 u)) (fun u t => TX E G u R t.heap) (fun q : Nat => G q ∈ ([11] : List Nat))) 0 0 (fun q : Nat => G q ∈ ([11] : List Nat)) := by
  refine Met.ofW (cc := cX5_clear) (maxL := 1) (ret := none) (by decide) rfl ?_
  intro p e s m args below meth c s₁ B9 hml hv
  obtain ⟨rfl, hT, hK⟩ := hv
  have hx := B9.exec
  have hb := B9.bytes
  have hr := B9.returns
  have hts : ∀ w ∈ TS, w.before ([.ref h0] : List Value).toArray s = true := fun w hw => hK.2.1 w hw _
  have hown : s.vm.findClass RX5 = some m.cls := findClass_of_methodNamed B9.named
  have hlocks := B9.notSynchronized
  have hS : va_S (fun q : Nat => G q ∈ ([11] : List Nat)) s.heap s.heap [] := va_S.rf
  have hAz : ∀ q, (fun q : Nat => G q ∈ ([11] : List Nat)) q → z0 ≤ q := zL hGz (by decide)
  have hW_0 := hW
  have hl := lv_entry ([.ref h0]) (n := 1) (Nat.le_of_ble_eq_true rfl)
  rw [lg_entry_eq]
  generalize (lg_sl ([.ref h0]) ++ List.replicate (1 - (lg_sl ([.ref h0])).length) Slot.unset).toArray = ls at hl ⊢
  have hl : lv_has ls 1 [(0, .ref h0)] := hl
  refine lv_aload_n hx hb dX5_clear_0 rfl (lv_at hl 0 rfl) ?_
  refine lv_iconst (v := 0) hx hb dX5_clear_1 (by decide) ?_
  have ha_1 := tx_11 hT hG
  have h9_2 := tw_11 hW_0 hG
  refine rr_put (D := DG E) (ci := 5) (v := .int 0) (ty := .int) (C := RX5) (T := TX5) (N := 6) hx hb hts iw_X5 tyX5 tyX5_ok nmX5 hown hK.1 ha_1 hS (by show G h0 ∈ ([11] : List Nat); rw [hG]; decide) rfl 3 (by decide) (hts _ fl_X5_26) (fun _ h9 => h9) rfl (by decide +kernel) rfl rfl (Nat.le_of_ble_eq_true rfl) dX5_clear_2 (fun H locs hn ho hz hS => ?_)
  obtain ⟨B_3, eB_3⟩ : ∃ z : AA, z = uA B h0 (upd (B h0) 3 0) := ⟨_, rfl⟩
  have sB_3 : B_3 h0 3 = 0 := by rw [eB_3, uA_s]; exact upd_s
  have nB_3 : ∀ k, k ≠ 3 → B_3 h0 k = B h0 k := fun k hk => by rw [eB_3, uA_s]; exact upd_n hk
  have fB_3 : ∀ c, G c ≠ 11 → B_3 c = B c := fun c hc => by rw [eB_3]; exact uA_n (fun e => hc (by rw [e]; exact hG))
  have hT : TX E G B_3 R H := by rw [eB_3]; exact hT.w (by rw [hG]; exact hn) ho
  have hWB_3 : TW G B_3 R := by rw [eB_3]; exact hW_0.w (by rw [hG]; exact ⟨h9_2.1, h9_2.2.1, (show 0 ≤ (0 : Int32).toInt ∧ (0 : Int32).toInt ≤ 3 from by decide), h9_2.2.2.2⟩)
  have hW := hWB_3
  refine lv_aload_n hx hb dX5_clear_5 rfl (lv_at hl 0 rfl) ?_
  refine lv_iconst (v := 0) hx hb dX5_clear_6 (by decide) ?_
  have ha_4 := tx_11 hT hG
  have h9_5 := tw_11 hWB_3 hG
  refine rr_put (D := DG E) (ci := 5) (v := .int 0) (ty := .int) (C := RX5) (T := TX5) (N := 6) hx hb hts iw_X5 tyX5 tyX5_ok nmX5 hown hK.1 ha_4 hS (by show G h0 ∈ ([11] : List Nat); rw [hG]; decide) rfl 4 (by decide) (hts _ fl_X5_29) (fun _ h9 => h9) rfl (by decide +kernel) rfl rfl (Nat.le_of_ble_eq_true rfl) dX5_clear_7 (fun H locs hn ho hz hS => ?_)
  obtain ⟨B_6, eB_6⟩ : ∃ z : AA, z = uA B_3 h0 (upd (B_3 h0) 4 0) := ⟨_, rfl⟩
  have sB_6 : B_6 h0 4 = 0 := by rw [eB_6, uA_s]; exact upd_s
  have nB_6 : ∀ k, k ≠ 4 → B_6 h0 k = B_3 h0 k := fun k hk => by rw [eB_6, uA_s]; exact upd_n hk
  have fB_6 : ∀ c, G c ≠ 11 → B_6 c = B_3 c := fun c hc => by rw [eB_6]; exact uA_n (fun e => hc (by rw [e]; exact hG))
  have hT : TX E G B_6 R H := by rw [eB_6]; exact hT.w (by rw [hG]; exact hn) ho
  have hWB_6 : TW G B_6 R := by rw [eB_6]; exact hWB_3.w (by rw [hG]; exact ⟨h9_5.1, h9_5.2.1, h9_5.2.2.1, (show 0 ≤ (0 : Int32).toInt ∧ (0 : Int32).toInt ≤ 4 from by decide)⟩)
  have hW := hWB_6
  refine lv_aload_n hx hb dX5_clear_10 rfl (lv_at hl 0 rfl) ?_
  refine lv_iconst (v := 0) hx hb dX5_clear_11 (by decide) ?_
  have ha_7 := tx_11 hT hG
  refine rr_put (D := DG E) (ci := 5) (v := .int 0) (ty := .int) (C := RX5) (T := TX5) (N := 6) hx hb hts iw_X5 tyX5 tyX5_ok nmX5 hown hK.1 ha_7 hS (by show G h0 ∈ ([11] : List Nat); rw [hG]; decide) rfl 5 (by decide) (hts _ fl_X5_32) (fun _ h9 => h9) rfl (by decide +kernel) rfl rfl (Nat.le_of_ble_eq_true rfl) dX5_clear_12 (fun H locs hn ho hz hS => ?_)
  obtain ⟨B_8, eB_8⟩ : ∃ z : AA, z = uA B_6 h0 (upd (B_6 h0) 5 0) := ⟨_, rfl⟩
  have sB_8 : B_8 h0 5 = 0 := by rw [eB_8, uA_s]; exact upd_s
  have nB_8 : ∀ k, k ≠ 5 → B_8 h0 k = B_6 h0 k := fun k hk => by rw [eB_8, uA_s]; exact upd_n hk
  have fB_8 : ∀ c, G c ≠ 11 → B_8 c = B_6 c := fun c hc => by rw [eB_8]; exact uA_n (fun e => hc (by rw [e]; exact hG))
  have hT : TX E G B_8 R H := by rw [eB_8]; exact hT.w (by rw [hG]; exact hn) ho
  have hWB_8 : TW G B_8 R := by rw [eB_8]; exact hWB_6.w (by rw [hG]; exact tw_11 hWB_6 hG)
  have hW := hWB_8
  exact W.vret hx hb hr (fun t ht hW9 => ⟨⟨B_8, rfl, ⟨hW, (Fr.w (Fr.w (Fr.w Fr.rf hG (by decide) eB_3) hG (by decide) eB_6) hG (by decide) eB_8), ⟨B_3, eB_3, B_6, eB_6, B_8, eB_8, rfl⟩⟩, (by show TX E G B_8 R t.heap; rw [ht]; exact hT)⟩, hS.F ht⟩) hS.2.2 dX5_clear_15
theorem dX5_isFull_0 : decode cX5_isFull 0 = .ok (.aload_n 0, 1) := by decide +kernel
theorem dX5_isFull_1 : decode cX5_isFull 1 = .ok (.getfield 29, 3) := by decide +kernel
theorem dX5_isFull_4 : decode cX5_isFull 4 = .ok (.iconst 4, 1) := by decide +kernel
theorem dX5_isFull_5 : decode cX5_isFull 5 = .ok (.if_icmp .ne 7, 3) := by decide +kernel
theorem dX5_isFull_8 : decode cX5_isFull 8 = .ok (.iconst 1, 1) := by decide +kernel
theorem dX5_isFull_9 : decode cX5_isFull 9 = .ok (.goto 4, 3) := by decide +kernel
theorem dX5_isFull_12 : decode cX5_isFull 12 = .ok (.iconst 0, 1) := by decide +kernel
theorem dX5_isFull_13 : decode cX5_isFull 13 = .ok (.ireturn, 1) := by decide +kernel
set_option maxHeartbeats 8000000 in
set_option maxRecDepth 100000 in
theorem x_X5_isFull (l : Launch) (E : EE) (z0 : Nat) (G : Nat → Nat) (hGz : ∀ q, G q ≠ 0 → z0 ≤ q) (B : AA) (R : RR) (hW : TW G B R) (h0 : Nat) (hG : G h0 = 11) : Met l yX5_isFull [Cond.code yX5_isFull cX5_isFull 1 (some .boolean)] ({ frames := 0, cells := 0, slots := 0, locals := 0 } : Room) (va_Pc [.ref h0] (fun U => TX E G B R U.heap ∧ KS E z0 U)) (va_Qi (fun (r : Int32) (u : Unit) => (r = 0 ∨ r = 1) ∧ (r.toInt = 1 ∨ (B h0 4).toInt ≤ 3) ∧ (C_X5_isFull G B R h0 r)) (fun u t => True) (fun _ : Nat => False)) 0 0 (fun _ : Nat => False) := by
  refine Met.ofW (cc := cX5_isFull) (maxL := 1) (ret := (some .boolean)) (by decide) rfl ?_
  intro p e s m args below meth c s₁ B9 hml hv
  obtain ⟨rfl, hT, hK⟩ := hv
  have hx := B9.exec
  have hb := B9.bytes
  have hr := B9.returns
  have hts : ∀ w ∈ TS, w.before ([.ref h0] : List Value).toArray s = true := fun w hw => hK.2.1 w hw _
  have hown : s.vm.findClass RX5 = some m.cls := findClass_of_methodNamed B9.named
  have hlocks := B9.notSynchronized
  have hS : va_S (fun _ : Nat => False) s.heap s.heap [] := va_S.rf
  have hAz : ∀ q, (fun _ : Nat => False) q → z0 ≤ q := fun _ h => h.elim
  have hW_0 := hW
  have hl := lv_entry ([.ref h0]) (n := 1) (Nat.le_of_ble_eq_true rfl)
  rw [lg_entry_eq]
  generalize (lg_sl ([.ref h0]) ++ List.replicate (1 - (lg_sl ([.ref h0])).length) Slot.unset).toArray = ls at hl ⊢
  have hl : lv_has ls 1 [(0, .ref h0)] := hl
  refine lv_aload_n hx hb dX5_isFull_0 rfl (lv_at hl 0 rfl) ?_
  have ha_1 := tx_11 hT hG
  have hb_2 := (tw_11 hW_0 hG).2.2.2
  refine va_get (D := DG E) (ci := 5) (v := .int (B h0 4)) (C := RX5) (T := TX5) (N := 6) hx hb hts iw_X5 hown hK.1 (va_one ha_1) 0 rfl rfl 4 (by decide) (hts _ fl_X5_29) (fun _ h9 => h9) rfl dX5_isFull_1 ?_
  refine lv_iconst (v := 4) hx hb dX5_isFull_4 (by decide) ?_
  refine lv_icmp_ne (tgt := 12) hx hb dX5_isFull_5 (by decide) (fun c_3 => ?_) (fun c_3 => ?_)
  · simp only [lt_I, le_I, eq_I, i_0, i_1, i_2, i_3, i_4, i_5, i_6, i_7, i_8, i_10, i_12, i_16, i_20, i_23, i_24, i_31, i_32, i_63, i_64, i_m1] at c_3
    refine lv_iconst (v := 0) hx hb dX5_isFull_12 (by decide) ?_
    exact W.zret (v := 0) (ty := .boolean) hx hb hr rfl (fun t ht hW9 => ⟨⟨0, (), rfl, ⟨(by decide), (by show (0 : Int32).toInt = 1 ∨ (B h0 4).toInt ≤ 3; have := i_0; omega), (Or.inl ⟨c_3, rfl⟩)⟩, trivial⟩, hS.F ht⟩) hS.2.2 dX5_isFull_13
  · simp only [lt_I, le_I, eq_I, i_0, i_1, i_2, i_3, i_4, i_5, i_6, i_7, i_8, i_10, i_12, i_16, i_20, i_23, i_24, i_31, i_32, i_63, i_64, i_m1] at c_3
    refine lv_iconst (v := 1) hx hb dX5_isFull_8 (by decide) ?_
    refine lv_goto (tgt := 13) hx hb dX5_isFull_9 (by decide) ?_
    exact W.zret (v := 1) (ty := .boolean) hx hb hr rfl (fun t ht hW9 => ⟨⟨1, (), rfl, ⟨(by decide), (by show (1 : Int32).toInt = 1 ∨ (B h0 4).toInt ≤ 3; have := i_1; omega), (Or.inr ⟨c_3, rfl⟩)⟩, trivial⟩, hS.F ht⟩) hS.2.2 dX5_isFull_13
theorem dX5_at_0 : decode cX5_at 0 = .ok (.aload_n 0, 1) := by decide +kernel
theorem dX5_at_1 : decode cX5_at 1 = .ok (.getfield 11, 3) := by decide +kernel
theorem dX5_at_4 : decode cX5_at 4 = .ok (.aload_n 0, 1) := by decide +kernel
theorem dX5_at_5 : decode cX5_at 5 = .ok (.getfield 26, 3) := by decide +kernel
theorem dX5_at_8 : decode cX5_at 8 = .ok (.iload_n 1, 1) := by decide +kernel
theorem dX5_at_9 : decode cX5_at 9 = .ok (.iadd, 1) := by decide +kernel
theorem dX5_at_10 : decode cX5_at 10 = .ok (.iconst 4, 1) := by decide +kernel
theorem dX5_at_11 : decode cX5_at 11 = .ok (.irem, 1) := by decide +kernel
theorem dX5_at_12 : decode cX5_at 12 = .ok (.aaload, 1) := by decide +kernel
theorem dX5_at_13 : decode cX5_at 13 = .ok (.areturn, 1) := by decide +kernel
set_option maxHeartbeats 8000000 in
set_option maxRecDepth 100000 in
theorem x_X5_at (l : Launch) (E : EE) (z0 : Nat) (G : Nat → Nat) (hGz : ∀ q, G q ≠ 0 → z0 ≤ q) (B : AA) (R : RR) (hW : TW G B R) (h0 : Nat) (p0 : Int32) (hG : G h0 = 11) (hy0 : 0 ≤ p0.toInt ∧ p0.toInt ≤ 4) : Met l yX5_at [Cond.code yX5_at cX5_at 2 (some (.object "RemoteReach$Posted"))] ({ frames := 0, cells := 0, slots := 0, locals := 0 } : Room) (va_Pc [.ref h0, .int p0] (fun U => TX E G B R U.heap ∧ KS E z0 U)) (va_Qr (fun (u : Unit) => True) (fun u ra t => ((G ra = 13) ∧ (C_X5_at G B R h0 p0 ra))) (fun _ : Nat => False)) 0 0 (fun _ : Nat => False) := by
  refine Met.ofW (cc := cX5_at) (maxL := 2) (ret := (some (.object "RemoteReach$Posted"))) (by decide) rfl ?_
  intro p e s m args below meth c s₁ B9 hml hv
  obtain ⟨rfl, hT, hK⟩ := hv
  have hx := B9.exec
  have hb := B9.bytes
  have hr := B9.returns
  have hts : ∀ w ∈ TS, w.before ([.ref h0, .int p0] : List Value).toArray s = true := fun w hw => hK.2.1 w hw _
  have hown : s.vm.findClass RX5 = some m.cls := findClass_of_methodNamed B9.named
  have hlocks := B9.notSynchronized
  have hS : va_S (fun _ : Nat => False) s.heap s.heap [] := va_S.rf
  have hAz : ∀ q, (fun _ : Nat => False) q → z0 ≤ q := fun _ h => h.elim
  have hW_0 := hW
  have hl := lv_entry ([.ref h0, .int p0]) (n := 2) (Nat.le_of_ble_eq_true rfl)
  rw [lg_entry_eq]
  generalize (lg_sl ([.ref h0, .int p0]) ++ List.replicate (2 - (lg_sl ([.ref h0, .int p0])).length) Slot.unset).toArray = ls at hl ⊢
  have hl : lv_has ls 2 [(0, .ref h0), (1, .int p0)] := hl
  refine lv_aload_n hx hb dX5_at_0 rfl (lv_at hl 0 rfl) ?_
  have ha_1 := tx_11 hT hG
  have hg_2 : G (R h0 2) = 12 := (tw_11 hW hG).2.1
  refine va_get (D := DG E) (ci := 5) (v := .ref (R h0 2)) (C := RX5) (T := TX5) (N := 6) hx hb hts iw_X5 hown hK.1 (va_one ha_1) 0 rfl rfl 2 (by decide) (hts _ fl_X5_11) (fun _ h9 => h9) rfl dX5_at_1 ?_
  refine lv_aload_n hx hb dX5_at_4 rfl (lv_at hl 0 rfl) ?_
  have hb_3 := (tw_11 hW_0 hG).2.2.1
  refine va_get (D := DG E) (ci := 5) (v := .int (B h0 3)) (C := RX5) (T := TX5) (N := 6) hx hb hts iw_X5 hown hK.1 (va_one ha_1) 0 rfl rfl 3 (by decide) (hts _ fl_X5_26) (fun _ h9 => h9) rfl dX5_at_5 ?_
  refine lv_iload_n hx hb dX5_at_8 rfl (lv_at hl 1 rfl) ?_
  refine lv_iadd hx hb dX5_at_9 ?_
  refine lv_topi (fun x_4 ex_4 => ?_)
  have fx_4 : x_4.toInt = (B h0 3).toInt + p0.toInt := by have h9 := s_add (x := (B h0 3)) (y := p0) (by omega) (by omega); rw [ex_4]; exact h9
  refine lv_iconst (v := 4) hx hb dX5_at_10 (by decide) ?_
  refine lv_irem hx hb dX5_at_11 (by decide) ?_
  refine lv_topi (fun x_5 ex_5 => ?_)
  have fx_5 : x_5.toInt = x_4.toInt % 4 := by have h9 := s_rem (x := x_4) 4 (by decide) (by decide) (by omega); rw [ex_5]; exact h9
  have ha_6 := tx_12 hT hg_2
  have hi_7 : vp_in x_5 4 := vp_in_iff.mpr (by omega)
  obtain ⟨n_8, hn_8, en_8⟩ := x_nat (x := x_5) (by omega)
  have hg_9 : G (R (R h0 2) n_8) = 13 := (tw_12 hW hg_2) n_8 (by omega)
  refine va_aldq (D := DG E) hx hb hK.1 (va_one ha_6) 0 6 rfl rfl hi_7 dX5_at_12 ?_
  refine W.eq (g2 := F0 m 13 ls [.ref (R (R h0 2) n_8)]) (by rw [en_8]; rfl) ?_
  exact W.aret (v := .ref (R (R h0 2) n_8)) hx hb hr (Or.inl ⟨_, rfl⟩) (Or.inr ⟨_, rfl⟩) (fun t ht hW9 => ⟨⟨(), (R (R h0 2) n_8), rfl, trivial, ⟨hg_9, ⟨x_4, ex_4, fx_4, x_5, ex_5, fx_5, n_8, hn_8, rfl⟩⟩⟩, hS.F ht⟩) hS.2.2 dX5_at_13
theorem gdX5_append_0 : (decode cX5_append 0 = .ok (.aload_n 0, 1)) ∧ (decode cX5_append 1 = .ok (.aload_n 0, 1)) ∧ (decode cX5_append 2 = .ok (.getfield 29, 3)) ∧ (decode cX5_append 5 = .ok (.invokevirtual 35, 3)) ∧ (decode cX5_append 8 = .ok (.astore 4, 2)) ∧ (decode cX5_append 10 = .ok (.aload 4, 2)) ∧ (decode cX5_append 12 = .ok (.iload_n 1, 1)) ∧ (decode cX5_append 13 = .ok (.putfield 39, 3)) ∧ (decode cX5_append 16 = .ok (.aload 4, 2)) ∧ (decode cX5_append 18 = .ok (.aload_n 0, 1)) ∧ (decode cX5_append 19 = .ok (.getfield 32, 3)) ∧ (decode cX5_append 22 = .ok (.putfield 42, 3)) ∧ (decode cX5_append 25 = .ok (.aload 4, 2)) ∧ (decode cX5_append 27 = .ok (.iload_n 2, 1)) ∧ (decode cX5_append 28 = .ok (.putfield 45, 3)) ∧ (decode cX5_append 31 = .ok (.aload 4, 2)) := by decide +kernel
theorem dX5_append_0 : decode cX5_append 0 = .ok (.aload_n 0, 1) := gdX5_append_0.1
theorem dX5_append_1 : decode cX5_append 1 = .ok (.aload_n 0, 1) := gdX5_append_0.2.1
theorem dX5_append_2 : decode cX5_append 2 = .ok (.getfield 29, 3) := gdX5_append_0.2.2.1
theorem dX5_append_5 : decode cX5_append 5 = .ok (.invokevirtual 35, 3) := gdX5_append_0.2.2.2.1
theorem dX5_append_8 : decode cX5_append 8 = .ok (.astore 4, 2) := gdX5_append_0.2.2.2.2.1
theorem dX5_append_10 : decode cX5_append 10 = .ok (.aload 4, 2) := gdX5_append_0.2.2.2.2.2.1
theorem dX5_append_12 : decode cX5_append 12 = .ok (.iload_n 1, 1) := gdX5_append_0.2.2.2.2.2.2.1
theorem dX5_append_13 : decode cX5_append 13 = .ok (.putfield 39, 3) := gdX5_append_0.2.2.2.2.2.2.2.1
theorem dX5_append_16 : decode cX5_append 16 = .ok (.aload 4, 2) := gdX5_append_0.2.2.2.2.2.2.2.2.1
theorem dX5_append_18 : decode cX5_append 18 = .ok (.aload_n 0, 1) := gdX5_append_0.2.2.2.2.2.2.2.2.2.1
theorem dX5_append_19 : decode cX5_append 19 = .ok (.getfield 32, 3) := gdX5_append_0.2.2.2.2.2.2.2.2.2.2.1
theorem dX5_append_22 : decode cX5_append 22 = .ok (.putfield 42, 3) := gdX5_append_0.2.2.2.2.2.2.2.2.2.2.2.1
theorem dX5_append_25 : decode cX5_append 25 = .ok (.aload 4, 2) := gdX5_append_0.2.2.2.2.2.2.2.2.2.2.2.2.1
theorem dX5_append_27 : decode cX5_append 27 = .ok (.iload_n 2, 1) := gdX5_append_0.2.2.2.2.2.2.2.2.2.2.2.2.2.1
theorem dX5_append_28 : decode cX5_append 28 = .ok (.putfield 45, 3) := gdX5_append_0.2.2.2.2.2.2.2.2.2.2.2.2.2.2.1
theorem dX5_append_31 : decode cX5_append 31 = .ok (.aload 4, 2) := gdX5_append_0.2.2.2.2.2.2.2.2.2.2.2.2.2.2.2
theorem gdX5_append_33 : (decode cX5_append 33 = .ok (.iload_n 3, 1)) ∧ (decode cX5_append 34 = .ok (.putfield 48, 3)) ∧ (decode cX5_append 37 = .ok (.aload 4, 2)) ∧ (decode cX5_append 39 = .ok (.iconst 0, 1)) ∧ (decode cX5_append 40 = .ok (.putfield 51, 3)) ∧ (decode cX5_append 43 = .ok (.aload_n 0, 1)) ∧ (decode cX5_append 44 = .ok (.dup, 1)) ∧ (decode cX5_append 45 = .ok (.getfield 32, 3)) ∧ (decode cX5_append 48 = .ok (.iconst 1, 1)) ∧ (decode cX5_append 49 = .ok (.iadd, 1)) ∧ (decode cX5_append 50 = .ok (.putfield 32, 3)) ∧ (decode cX5_append 53 = .ok (.aload_n 0, 1)) ∧ (decode cX5_append 54 = .ok (.dup, 1)) ∧ (decode cX5_append 55 = .ok (.getfield 29, 3)) ∧ (decode cX5_append 58 = .ok (.iconst 1, 1)) ∧ (decode cX5_append 59 = .ok (.iadd, 1)) := by decide +kernel
theorem dX5_append_33 : decode cX5_append 33 = .ok (.iload_n 3, 1) := gdX5_append_33.1
theorem dX5_append_34 : decode cX5_append 34 = .ok (.putfield 48, 3) := gdX5_append_33.2.1
theorem dX5_append_37 : decode cX5_append 37 = .ok (.aload 4, 2) := gdX5_append_33.2.2.1
theorem dX5_append_39 : decode cX5_append 39 = .ok (.iconst 0, 1) := gdX5_append_33.2.2.2.1
theorem dX5_append_40 : decode cX5_append 40 = .ok (.putfield 51, 3) := gdX5_append_33.2.2.2.2.1
theorem dX5_append_43 : decode cX5_append 43 = .ok (.aload_n 0, 1) := gdX5_append_33.2.2.2.2.2.1
theorem dX5_append_44 : decode cX5_append 44 = .ok (.dup, 1) := gdX5_append_33.2.2.2.2.2.2.1
theorem dX5_append_45 : decode cX5_append 45 = .ok (.getfield 32, 3) := gdX5_append_33.2.2.2.2.2.2.2.1
theorem dX5_append_48 : decode cX5_append 48 = .ok (.iconst 1, 1) := gdX5_append_33.2.2.2.2.2.2.2.2.1
theorem dX5_append_49 : decode cX5_append 49 = .ok (.iadd, 1) := gdX5_append_33.2.2.2.2.2.2.2.2.2.1
theorem dX5_append_50 : decode cX5_append 50 = .ok (.putfield 32, 3) := gdX5_append_33.2.2.2.2.2.2.2.2.2.2.1
theorem dX5_append_53 : decode cX5_append 53 = .ok (.aload_n 0, 1) := gdX5_append_33.2.2.2.2.2.2.2.2.2.2.2.1
theorem dX5_append_54 : decode cX5_append 54 = .ok (.dup, 1) := gdX5_append_33.2.2.2.2.2.2.2.2.2.2.2.2.1
theorem dX5_append_55 : decode cX5_append 55 = .ok (.getfield 29, 3) := gdX5_append_33.2.2.2.2.2.2.2.2.2.2.2.2.2.1
theorem dX5_append_58 : decode cX5_append 58 = .ok (.iconst 1, 1) := gdX5_append_33.2.2.2.2.2.2.2.2.2.2.2.2.2.2.1
theorem dX5_append_59 : decode cX5_append 59 = .ok (.iadd, 1) := gdX5_append_33.2.2.2.2.2.2.2.2.2.2.2.2.2.2.2
theorem gdX5_append_60 : (decode cX5_append 60 = .ok (.putfield 29, 3)) ∧ (decode cX5_append 63 = .ok (.aload 4, 2)) ∧ (decode cX5_append 65 = .ok (.areturn, 1)) := by decide +kernel
theorem dX5_append_60 : decode cX5_append 60 = .ok (.putfield 29, 3) := gdX5_append_60.1
theorem dX5_append_63 : decode cX5_append 63 = .ok (.aload 4, 2) := gdX5_append_60.2.1
theorem dX5_append_65 : decode cX5_append 65 = .ok (.areturn, 1) := gdX5_append_60.2.2
set_option maxHeartbeats 8000000 in
set_option maxRecDepth 100000 in
theorem x_X5_append (l : Launch) (E : EE) (z0 : Nat) (G : Nat → Nat) (hGz : ∀ q, G q ≠ 0 → z0 ≤ q) (B : AA) (R : RR) (hW : TW G B R) (h0 : Nat) (p0 : Int32) (p1 : Int32) (p2 : Int32) (hG : G h0 = 11) (hy0 : 0 ≤ p2.toInt ∧ p2.toInt ≤ 12) (hy1 : (B h0 4).toInt ≤ 3) : Met l yX5_append [Cond.code yX5_append cX5_append 5 (some (.object "RemoteReach$Posted"))] ({ frames := 1, cells := 0, slots := 0, locals := 21 } : Room) (va_Pc [.ref h0, .int p0, .int p1, .int p2] (fun U => TX E G B R U.heap ∧ KS E z0 U)) (va_Qr (fun (u : AA) => True) (fun u ra t => ((G ra = 13) ∧ (TW G u R) ∧ (Fr G ([11, 13] : List Nat) B u) ∧ (C_X5_append G B R h0 p0 p1 p2 u ra)) ∧ TX E G u R t.heap) (fun q : Nat => G q ∈ ([11, 13] : List Nat))) 0 0 (fun q : Nat => G q ∈ ([11, 13] : List Nat)) := by
  refine Met.ofW (cc := cX5_append) (maxL := 5) (ret := (some (.object "RemoteReach$Posted"))) (by decide) rfl ?_
  intro p e s m args below meth c s₁ B9 hml hv
  obtain ⟨rfl, hT, hK⟩ := hv
  have hx := B9.exec
  have hb := B9.bytes
  have hr := B9.returns
  have hts : ∀ w ∈ TS, w.before ([.ref h0, .int p0, .int p1, .int p2] : List Value).toArray s = true := fun w hw => hK.2.1 w hw _
  have hown : s.vm.findClass RX5 = some m.cls := findClass_of_methodNamed B9.named
  have hlocks := B9.notSynchronized
  have hS : va_S (fun q : Nat => G q ∈ ([11, 13] : List Nat)) s.heap s.heap [] := va_S.rf
  have hAz : ∀ q, (fun q : Nat => G q ∈ ([11, 13] : List Nat)) q → z0 ≤ q := zL hGz (by decide)
  have hW_0 := hW
  have hl := lv_entry ([.ref h0, .int p0, .int p1, .int p2]) (n := 5) (Nat.le_of_ble_eq_true rfl)
  rw [lg_entry_eq]
  generalize (lg_sl ([.ref h0, .int p0, .int p1, .int p2]) ++ List.replicate (5 - (lg_sl ([.ref h0, .int p0, .int p1, .int p2])).length) Slot.unset).toArray = ls at hl ⊢
  have hl : lv_has ls 5 [(0, .ref h0), (1, .int p0), (2, .int p1), (3, .int p2)] := hl
  refine lv_aload_n hx hb dX5_append_0 rfl (lv_at hl 0 rfl) ?_
  refine lv_aload_n hx hb dX5_append_1 rfl (lv_at hl 0 rfl) ?_
  have ha_1 := tx_11 hT hG
  have hb_2 := (tw_11 hW_0 hG).2.2.2
  refine va_get (D := DG E) (ci := 5) (v := .int (B h0 4)) (C := RX5) (T := TX5) (N := 6) hx hb hts iw_X5 hown hK.1 (va_one ha_1) 0 rfl rfl 4 (by decide) (hts _ fl_X5_29) (fun _ h9 => h9) rfl dX5_append_2 ?_
  refine va_callr (rnV (fun H => TX E G B R H) (As := [.int (B h0 4)]) (rest := []) ⟨hx, hb, hml, hown, hts⟩ (x_X5_at l E z0 G hGz B R hW h0 (B h0 4) hG (show 0 ≤ (B h0 4).toInt ∧ (B h0 4).toInt ≤ 4 from by first | decide | omega)) (cwV 1 hts (gdV ml_X5_35 im_X5_at se_X5_X5_at in_X5 co_X5_at rfl) rfl rfl rfl (by decide +kernel) ⟨Nat.le_of_ble_eq_true rfl, Nat.le_of_ble_eq_true rfl⟩) hT (fun U hU hW => hK.go hW hS hAz hU) (va_recv hK.1 (va_one ha_1) (ci := 5) (q0 := 0) rfl rfl) rfl rfl hl.1 rfl (lv_room (Nat.le_of_ble_eq_true rfl)) dX5_append_5 ⟨Nat.le_of_ble_eq_true rfl, Nat.le_of_ble_eq_true rfl⟩) hS (fun q _ h => h.elim) (fun q h => h.elim) (fun _ r_3 t H locs ht hvm hwr_3 hB hz hk hS => ?_)
  have hT : TX E G B R H := hT.kept (fun q hq => hk q hq (fun h => h))
  have hRr_3 := hB
  have hgr_3 : G r_3 = 13 := hRr_3.1
  have hCr_3 : C_X5_at G B R h0 (B h0 4) r_3 := hRr_3.2
  refine lv_astore (lv' := [(4, .ref r_3), (0, .ref h0), (1, .int p0), (2, .int p1), (3, .int p2)]) hx hb dX5_append_8 hl (by decide) rfl (fun ls hl => ?_)
  refine lv_aload hx hb dX5_append_10 (lv_at hl 0 rfl) ?_
  refine lv_iload_n hx hb dX5_append_12 rfl (lv_at hl 2 rfl) ?_
  have ha_4 := tx_13 hT hgr_3
  refine rr_put (D := DG E) (ci := 4) (v := .int p0) (ty := .int) (C := RX4) (T := TX4) (N := 10) hx hb hts iw_X4 tyX4 tyX4_ok nmX4 hown hK.1 ha_4 hS (by show G r_3 ∈ ([11, 13] : List Nat); rw [hgr_3]; decide) rfl 0 (by decide) (hts _ fl_X5_39) (fun _ h9 => h9) rfl (by decide +kernel) rfl rfl (Nat.le_of_ble_eq_true rfl) dX5_append_13 (fun H locs hn ho hz hS => ?_)
  obtain ⟨B_5, eB_5⟩ : ∃ z : AA, z = uA B r_3 (upd (B r_3) 0 p0) := ⟨_, rfl⟩
  have sB_5 : B_5 r_3 0 = p0 := by rw [eB_5, uA_s]; exact upd_s
  have nB_5 : ∀ k, k ≠ 0 → B_5 r_3 k = B r_3 k := fun k hk => by rw [eB_5, uA_s]; exact upd_n hk
  have fB_5 : ∀ c, G c ≠ 13 → B_5 c = B c := fun c hc => by rw [eB_5]; exact uA_n (fun e => hc (by rw [e]; exact hgr_3))
  have hT : TX E G B_5 R H := by rw [eB_5]; exact hT.w (by rw [hgr_3]; exact hn) ho
  have hWB_5 : TW G B_5 R := by rw [eB_5]; exact hW_0.w (by rw [hgr_3]; exact tw_13 hW_0 hgr_3)
  have hW := hWB_5
  refine lv_aload hx hb dX5_append_16 (lv_at hl 0 rfl) ?_
  refine lv_aload_n hx hb dX5_append_18 rfl (lv_at hl 1 rfl) ?_
  have ha_6 := tx_11 hT hG
  have l_7 : B_5 h0 5 = (B h0 5) := (congrFun (fB_5 h0 (by rw [hG]; decide)) 5)
  refine va_get (D := DG E) (ci := 5) (v := .int (B_5 h0 5)) (C := RX5) (T := TX5) (N := 6) hx hb hts iw_X5 hown hK.1 (va_one ha_6) 0 rfl rfl 5 (by decide) (hts _ fl_X5_32) (fun _ h9 => h9) rfl dX5_append_19 ?_
  refine W.eq (g2 := F0 m 22 ls [.int (B h0 5), .ref r_3]) (by rw [l_7]) ?_
  have ha_8 := tx_13 hT hgr_3
  refine rr_put (D := DG E) (ci := 4) (v := .int (B h0 5)) (ty := .int) (C := RX4) (T := TX4) (N := 10) hx hb hts iw_X4 tyX4 tyX4_ok nmX4 hown hK.1 ha_8 hS (by show G r_3 ∈ ([11, 13] : List Nat); rw [hgr_3]; decide) rfl 1 (by decide) (hts _ fl_X5_42) (fun _ h9 => h9) rfl (by decide +kernel) rfl rfl (Nat.le_of_ble_eq_true rfl) dX5_append_22 (fun H locs hn ho hz hS => ?_)
  obtain ⟨B_9, eB_9⟩ : ∃ z : AA, z = uA B_5 r_3 (upd (B_5 r_3) 1 (B h0 5)) := ⟨_, rfl⟩
  have sB_9 : B_9 r_3 1 = (B h0 5) := by rw [eB_9, uA_s]; exact upd_s
  have nB_9 : ∀ k, k ≠ 1 → B_9 r_3 k = B_5 r_3 k := fun k hk => by rw [eB_9, uA_s]; exact upd_n hk
  have fB_9 : ∀ c, G c ≠ 13 → B_9 c = B_5 c := fun c hc => by rw [eB_9]; exact uA_n (fun e => hc (by rw [e]; exact hgr_3))
  have hT : TX E G B_9 R H := by rw [eB_9]; exact hT.w (by rw [hgr_3]; exact hn) ho
  have hWB_9 : TW G B_9 R := by rw [eB_9]; exact hWB_5.w (by rw [hgr_3]; exact tw_13 hWB_5 hgr_3)
  have hW := hWB_9
  refine lv_aload hx hb dX5_append_25 (lv_at hl 0 rfl) ?_
  refine lv_iload_n hx hb dX5_append_27 rfl (lv_at hl 3 rfl) ?_
  have ha_10 := tx_13 hT hgr_3
  refine rr_put (D := DG E) (ci := 4) (v := .int p1) (ty := .int) (C := RX4) (T := TX4) (N := 10) hx hb hts iw_X4 tyX4 tyX4_ok nmX4 hown hK.1 ha_10 hS (by show G r_3 ∈ ([11, 13] : List Nat); rw [hgr_3]; decide) rfl 2 (by decide) (hts _ fl_X5_45) (fun _ h9 => h9) rfl (by decide +kernel) rfl rfl (Nat.le_of_ble_eq_true rfl) dX5_append_28 (fun H locs hn ho hz hS => ?_)
  obtain ⟨B_11, eB_11⟩ : ∃ z : AA, z = uA B_9 r_3 (upd (B_9 r_3) 2 p1) := ⟨_, rfl⟩
  have sB_11 : B_11 r_3 2 = p1 := by rw [eB_11, uA_s]; exact upd_s
  have nB_11 : ∀ k, k ≠ 2 → B_11 r_3 k = B_9 r_3 k := fun k hk => by rw [eB_11, uA_s]; exact upd_n hk
  have fB_11 : ∀ c, G c ≠ 13 → B_11 c = B_9 c := fun c hc => by rw [eB_11]; exact uA_n (fun e => hc (by rw [e]; exact hgr_3))
  have hT : TX E G B_11 R H := by rw [eB_11]; exact hT.w (by rw [hgr_3]; exact hn) ho
  have hWB_11 : TW G B_11 R := by rw [eB_11]; exact hWB_9.w (by rw [hgr_3]; exact tw_13 hWB_9 hgr_3)
  have hW := hWB_11
  refine lv_aload hx hb dX5_append_31 (lv_at hl 0 rfl) ?_
  refine lv_iload_n hx hb dX5_append_33 rfl (lv_at hl 4 rfl) ?_
  have ha_12 := tx_13 hT hgr_3
  have h9_13 := tw_13 hWB_11 hgr_3
  refine rr_put (D := DG E) (ci := 4) (v := .int p2) (ty := .int) (C := RX4) (T := TX4) (N := 10) hx hb hts iw_X4 tyX4 tyX4_ok nmX4 hown hK.1 ha_12 hS (by show G r_3 ∈ ([11, 13] : List Nat); rw [hgr_3]; decide) rfl 3 (by decide) (hts _ fl_X5_48) (fun _ h9 => h9) rfl (by decide +kernel) rfl rfl (Nat.le_of_ble_eq_true rfl) dX5_append_34 (fun H locs hn ho hz hS => ?_)
  obtain ⟨B_14, eB_14⟩ : ∃ z : AA, z = uA B_11 r_3 (upd (B_11 r_3) 3 p2) := ⟨_, rfl⟩
  have sB_14 : B_14 r_3 3 = p2 := by rw [eB_14, uA_s]; exact upd_s
  have nB_14 : ∀ k, k ≠ 3 → B_14 r_3 k = B_11 r_3 k := fun k hk => by rw [eB_14, uA_s]; exact upd_n hk
  have fB_14 : ∀ c, G c ≠ 13 → B_14 c = B_11 c := fun c hc => by rw [eB_14]; exact uA_n (fun e => hc (by rw [e]; exact hgr_3))
  have hT : TX E G B_14 R H := by rw [eB_14]; exact hT.w (by rw [hgr_3]; exact hn) ho
  have hWB_14 : TW G B_14 R := by rw [eB_14]; exact hWB_11.w (by rw [hgr_3]; exact (show 0 ≤ (p2 : Int32).toInt ∧ (p2 : Int32).toInt ≤ 12 from by omega))
  have hW := hWB_14
  refine lv_aload hx hb dX5_append_37 (lv_at hl 0 rfl) ?_
  refine lv_iconst (v := 0) hx hb dX5_append_39 (by decide) ?_
  have ha_15 := tx_13 hT hgr_3
  refine rr_put (D := DG E) (ci := 4) (v := .int 0) (ty := .int) (C := RX4) (T := TX4) (N := 10) hx hb hts iw_X4 tyX4 tyX4_ok nmX4 hown hK.1 ha_15 hS (by show G r_3 ∈ ([11, 13] : List Nat); rw [hgr_3]; decide) rfl 9 (by decide) (hts _ fl_X5_51) (fun _ h9 => h9) rfl (by decide +kernel) rfl rfl (Nat.le_of_ble_eq_true rfl) dX5_append_40 (fun H locs hn ho hz hS => ?_)
  obtain ⟨B_16, eB_16⟩ : ∃ z : AA, z = uA B_14 r_3 (upd (B_14 r_3) 9 0) := ⟨_, rfl⟩
  have sB_16 : B_16 r_3 9 = 0 := by rw [eB_16, uA_s]; exact upd_s
  have nB_16 : ∀ k, k ≠ 9 → B_16 r_3 k = B_14 r_3 k := fun k hk => by rw [eB_16, uA_s]; exact upd_n hk
  have fB_16 : ∀ c, G c ≠ 13 → B_16 c = B_14 c := fun c hc => by rw [eB_16]; exact uA_n (fun e => hc (by rw [e]; exact hgr_3))
  have hT : TX E G B_16 R H := by rw [eB_16]; exact hT.w (by rw [hgr_3]; exact hn) ho
  have hWB_16 : TW G B_16 R := by rw [eB_16]; exact hWB_14.w (by rw [hgr_3]; exact tw_13 hWB_14 hgr_3)
  have hW := hWB_16
  refine lv_aload_n hx hb dX5_append_43 rfl (lv_at hl 1 rfl) ?_
  refine lv_dup hx hb dX5_append_44 rfl ?_
  have ha_17 := tx_11 hT hG
  have l_18 : B_16 h0 5 = (B h0 5) := ((congrFun (fB_16 h0 (by rw [hG]; decide)) 5)).trans (((congrFun (fB_14 h0 (by rw [hG]; decide)) 5)).trans (((congrFun (fB_11 h0 (by rw [hG]; decide)) 5)).trans (((congrFun (fB_9 h0 (by rw [hG]; decide)) 5)).trans ((congrFun (fB_5 h0 (by rw [hG]; decide)) 5)))))
  refine va_get (D := DG E) (ci := 5) (v := .int (B_16 h0 5)) (C := RX5) (T := TX5) (N := 6) hx hb hts iw_X5 hown hK.1 (va_one ha_17) 0 rfl rfl 5 (by decide) (hts _ fl_X5_32) (fun _ h9 => h9) rfl dX5_append_45 ?_
  refine W.eq (g2 := F0 m 48 ls [.int (B h0 5), .ref h0]) (by rw [l_18]) ?_
  refine lv_iconst (v := 1) hx hb dX5_append_48 (by decide) ?_
  refine lv_iadd hx hb dX5_append_49 ?_
  refine lv_topi (fun x_19 ex_19 => ?_)
  refine rr_put (D := DG E) (ci := 5) (v := .int x_19) (ty := .int) (C := RX5) (T := TX5) (N := 6) hx hb hts iw_X5 tyX5 tyX5_ok nmX5 hown hK.1 ha_17 hS (by show G h0 ∈ ([11, 13] : List Nat); rw [hG]; decide) rfl 5 (by decide) (hts _ fl_X5_32) (fun _ h9 => h9) rfl (by decide +kernel) rfl rfl (Nat.le_of_ble_eq_true rfl) dX5_append_50 (fun H locs hn ho hz hS => ?_)
  obtain ⟨B_20, eB_20⟩ : ∃ z : AA, z = uA B_16 h0 (upd (B_16 h0) 5 x_19) := ⟨_, rfl⟩
  have sB_20 : B_20 h0 5 = x_19 := by rw [eB_20, uA_s]; exact upd_s
  have nB_20 : ∀ k, k ≠ 5 → B_20 h0 k = B_16 h0 k := fun k hk => by rw [eB_20, uA_s]; exact upd_n hk
  have fB_20 : ∀ c, G c ≠ 11 → B_20 c = B_16 c := fun c hc => by rw [eB_20]; exact uA_n (fun e => hc (by rw [e]; exact hG))
  have hT : TX E G B_20 R H := by rw [eB_20]; exact hT.w (by rw [hG]; exact hn) ho
  have hWB_20 : TW G B_20 R := by rw [eB_20]; exact hWB_16.w (by rw [hG]; exact tw_11 hWB_16 hG)
  have hW := hWB_20
  refine lv_aload_n hx hb dX5_append_53 rfl (lv_at hl 1 rfl) ?_
  refine lv_dup hx hb dX5_append_54 rfl ?_
  have ha_21 := tx_11 hT hG
  have l_22 : B_20 h0 4 = (B h0 4) := ((nB_20 4 (by decide))).trans (((congrFun (fB_16 h0 (by rw [hG]; decide)) 4)).trans (((congrFun (fB_14 h0 (by rw [hG]; decide)) 4)).trans (((congrFun (fB_11 h0 (by rw [hG]; decide)) 4)).trans (((congrFun (fB_9 h0 (by rw [hG]; decide)) 4)).trans ((congrFun (fB_5 h0 (by rw [hG]; decide)) 4))))))
  refine va_get (D := DG E) (ci := 5) (v := .int (B_20 h0 4)) (C := RX5) (T := TX5) (N := 6) hx hb hts iw_X5 hown hK.1 (va_one ha_21) 0 rfl rfl 4 (by decide) (hts _ fl_X5_29) (fun _ h9 => h9) rfl dX5_append_55 ?_
  refine W.eq (g2 := F0 m 58 ls [.int (B h0 4), .ref h0]) (by rw [l_22]) ?_
  refine lv_iconst (v := 1) hx hb dX5_append_58 (by decide) ?_
  refine lv_iadd hx hb dX5_append_59 ?_
  refine lv_topi (fun x_23 ex_23 => ?_)
  have fx_23 : x_23.toInt = (B h0 4).toInt + 1 := by have h9 := s_add (x := (B h0 4)) (y := 1) (by rw [i_1]; omega) (by rw [i_1]; omega); rw [i_1] at h9; rw [ex_23]; exact h9
  have h9_24 := tw_11 hWB_20 hG
  refine rr_put (D := DG E) (ci := 5) (v := .int x_23) (ty := .int) (C := RX5) (T := TX5) (N := 6) hx hb hts iw_X5 tyX5 tyX5_ok nmX5 hown hK.1 ha_21 hS (by show G h0 ∈ ([11, 13] : List Nat); rw [hG]; decide) rfl 4 (by decide) (hts _ fl_X5_29) (fun _ h9 => h9) rfl (by decide +kernel) rfl rfl (Nat.le_of_ble_eq_true rfl) dX5_append_60 (fun H locs hn ho hz hS => ?_)
  obtain ⟨B_25, eB_25⟩ : ∃ z : AA, z = uA B_20 h0 (upd (B_20 h0) 4 x_23) := ⟨_, rfl⟩
  have sB_25 : B_25 h0 4 = x_23 := by rw [eB_25, uA_s]; exact upd_s
  have nB_25 : ∀ k, k ≠ 4 → B_25 h0 k = B_20 h0 k := fun k hk => by rw [eB_25, uA_s]; exact upd_n hk
  have fB_25 : ∀ c, G c ≠ 11 → B_25 c = B_20 c := fun c hc => by rw [eB_25]; exact uA_n (fun e => hc (by rw [e]; exact hG))
  have hT : TX E G B_25 R H := by rw [eB_25]; exact hT.w (by rw [hG]; exact hn) ho
  have hWB_25 : TW G B_25 R := by rw [eB_25]; exact hWB_20.w (by rw [hG]; exact ⟨h9_24.1, h9_24.2.1, h9_24.2.2.1, (show 0 ≤ (x_23 : Int32).toInt ∧ (x_23 : Int32).toInt ≤ 4 from by omega)⟩)
  have hW := hWB_25
  refine lv_aload hx hb dX5_append_63 (lv_at hl 0 rfl) ?_
  exact W.aret (v := .ref r_3) hx hb hr (Or.inl ⟨_, rfl⟩) (Or.inr ⟨_, rfl⟩) (fun t ht hW9 => ⟨⟨B_25, r_3, rfl, trivial, ⟨⟨hgr_3, hW, (Fr.w (Fr.w (Fr.w (Fr.w (Fr.w (Fr.w (Fr.w Fr.rf hgr_3 (by decide) eB_5) hgr_3 (by decide) eB_9) hgr_3 (by decide) eB_11) hgr_3 (by decide) eB_14) hgr_3 (by decide) eB_16) hG (by decide) eB_20) hG (by decide) eB_25), ⟨r_3, hCr_3, B_5, eB_5, B_9, eB_9, B_11, eB_11, B_14, eB_14, B_16, eB_16, x_19, ex_19, B_20, eB_20, x_23, ex_23, fx_23, B_25, eB_25, rfl, rfl⟩⟩, (by show TX E G B_25 R t.heap; rw [ht]; exact hT)⟩⟩, hS.F ht⟩) hS.2.2 dX5_append_65
theorem dX5_completeFirst_0 : decode cX5_completeFirst 0 = .ok (.aload_n 0, 1) := by decide +kernel
theorem dX5_completeFirst_1 : decode cX5_completeFirst 1 = .ok (.getfield 21, 3) := by decide +kernel
theorem dX5_completeFirst_4 : decode cX5_completeFirst 4 = .ok (.aload_n 0, 1) := by decide +kernel
theorem dX5_completeFirst_5 : decode cX5_completeFirst 5 = .ok (.getfield 17, 3) := by decide +kernel
theorem dX5_completeFirst_8 : decode cX5_completeFirst 8 = .ok (.aload_n 0, 1) := by decide +kernel
theorem dX5_completeFirst_9 : decode cX5_completeFirst 9 = .ok (.iconst 0, 1) := by decide +kernel
theorem dX5_completeFirst_10 : decode cX5_completeFirst 10 = .ok (.invokevirtual 35, 3) := by decide +kernel
theorem dX5_completeFirst_13 : decode cX5_completeFirst 13 = .ok (.iload_n 1, 1) := by decide +kernel
theorem dX5_completeFirst_14 : decode cX5_completeFirst 14 = .ok (.invokevirtual 54, 3) := by decide +kernel
theorem dX5_completeFirst_17 : decode cX5_completeFirst 17 = .ok (.aload_n 0, 1) := by decide +kernel
theorem dX5_completeFirst_18 : decode cX5_completeFirst 18 = .ok (.aload_n 0, 1) := by decide +kernel
theorem dX5_completeFirst_19 : decode cX5_completeFirst 19 = .ok (.getfield 26, 3) := by decide +kernel
theorem dX5_completeFirst_22 : decode cX5_completeFirst 22 = .ok (.iconst 1, 1) := by decide +kernel
theorem dX5_completeFirst_23 : decode cX5_completeFirst 23 = .ok (.iadd, 1) := by decide +kernel
theorem dX5_completeFirst_24 : decode cX5_completeFirst 24 = .ok (.iconst 4, 1) := by decide +kernel
theorem dX5_completeFirst_25 : decode cX5_completeFirst 25 = .ok (.irem, 1) := by decide +kernel
theorem dX5_completeFirst_26 : decode cX5_completeFirst 26 = .ok (.putfield 26, 3) := by decide +kernel
theorem dX5_completeFirst_29 : decode cX5_completeFirst 29 = .ok (.aload_n 0, 1) := by decide +kernel
theorem dX5_completeFirst_30 : decode cX5_completeFirst 30 = .ok (.dup, 1) := by decide +kernel
theorem dX5_completeFirst_31 : decode cX5_completeFirst 31 = .ok (.getfield 29, 3) := by decide +kernel
theorem dX5_completeFirst_34 : decode cX5_completeFirst 34 = .ok (.iconst 1, 1) := by decide +kernel
theorem dX5_completeFirst_35 : decode cX5_completeFirst 35 = .ok (.isub, 1) := by decide +kernel
theorem dX5_completeFirst_36 : decode cX5_completeFirst 36 = .ok (.putfield 29, 3) := by decide +kernel
theorem dX5_completeFirst_39 : decode cX5_completeFirst 39 = .ok (.return_, 1) := by decide +kernel
set_option maxHeartbeats 8000000 in
set_option maxRecDepth 100000 in
theorem x_X5_completeFirst (l : Launch) (E : EE) (z0 : Nat) (G : Nat → Nat) (hGz : ∀ q, G q ≠ 0 → z0 ≤ q) (B : AA) (R : RR) (hW : TW G B R) (h0 : Nat) (p0 : Int32) (hG : G h0 = 11) (hy0 : 1 ≤ (B h0 4).toInt) : Met l yX5_completeFirst [Cond.code yX5_completeFirst cX5_completeFirst 2 none] ({ frames := 1, cells := 0, slots := 0, locals := 24 } : Room) (va_Pc [.ref h0, .int p0] (fun U => TX E G B R U.heap ∧ KS E z0 U)) (va_Qv (fun (u : AA) => (TW G u R) ∧ (Fr G ([5, 15, 11] : List Nat) B u) ∧ (C_X5_completeFirst G B R h0 p0 u)) (fun u t => TX E G u R t.heap) (fun q : Nat => G q ∈ ([5, 15, 11] : List Nat))) 0 0 (fun q : Nat => G q ∈ ([5, 15, 11] : List Nat)) := by
  refine Met.ofW (cc := cX5_completeFirst) (maxL := 2) (ret := none) (by decide) rfl ?_
  intro p e s m args below meth c s₁ B9 hml hv
  obtain ⟨rfl, hT, hK⟩ := hv
  have hx := B9.exec
  have hb := B9.bytes
  have hr := B9.returns
  have hts : ∀ w ∈ TS, w.before ([.ref h0, .int p0] : List Value).toArray s = true := fun w hw => hK.2.1 w hw _
  have hown : s.vm.findClass RX5 = some m.cls := findClass_of_methodNamed B9.named
  have hlocks := B9.notSynchronized
  have hS : va_S (fun q : Nat => G q ∈ ([5, 15, 11] : List Nat)) s.heap s.heap [] := va_S.rf
  have hAz : ∀ q, (fun q : Nat => G q ∈ ([5, 15, 11] : List Nat)) q → z0 ≤ q := zL hGz (by decide)
  have hW_0 := hW
  have hl := lv_entry ([.ref h0, .int p0]) (n := 2) (Nat.le_of_ble_eq_true rfl)
  rw [lg_entry_eq]
  generalize (lg_sl ([.ref h0, .int p0]) ++ List.replicate (2 - (lg_sl ([.ref h0, .int p0])).length) Slot.unset).toArray = ls at hl ⊢
  have hl : lv_has ls 2 [(0, .ref h0), (1, .int p0)] := hl
  refine lv_aload_n hx hb dX5_completeFirst_0 rfl (lv_at hl 0 rfl) ?_
  have ha_1 := tx_11 hT hG
  have hg_2 : G (R h0 1) = 5 := (tw_11 hW hG).1
  refine va_get (D := DG E) (ci := 5) (v := .ref (R h0 1)) (C := RX5) (T := TX5) (N := 6) hx hb hts iw_X5 hown hK.1 (va_one ha_1) 0 rfl rfl 1 (by decide) (hts _ fl_X5_21) (fun _ h9 => h9) rfl dX5_completeFirst_1 ?_
  refine lv_aload_n hx hb dX5_completeFirst_4 rfl (lv_at hl 0 rfl) ?_
  refine va_get (D := DG E) (ci := 5) (v := .int (B h0 0)) (C := RX5) (T := TX5) (N := 6) hx hb hts iw_X5 hown hK.1 (va_one ha_1) 0 rfl rfl 0 (by decide) (hts _ fl_X5_17) (fun _ h9 => h9) rfl dX5_completeFirst_5 ?_
  refine lv_aload_n hx hb dX5_completeFirst_8 rfl (lv_at hl 0 rfl) ?_
  refine lv_iconst (v := 0) hx hb dX5_completeFirst_9 (by decide) ?_
  refine va_callr (rnV (fun H => TX E G B R H) (As := [.int 0]) (rest := [.int (B h0 0), .ref (R h0 1)]) ⟨hx, hb, hml, hown, hts⟩ (x_X5_at l E z0 G hGz B R hW h0 (0 : Int32) hG (show 0 ≤ (0 : Int32).toInt ∧ (0 : Int32).toInt ≤ 4 from by have := i_0; first | decide | omega)) (cwV 1 hts (gdV ml_X5_35 im_X5_at se_X5_X5_at in_X5 co_X5_at rfl) rfl rfl rfl (by decide +kernel) ⟨Nat.le_of_ble_eq_true rfl, Nat.le_of_ble_eq_true rfl⟩) hT (fun U hU hW => hK.go hW hS hAz hU) (va_recv hK.1 (va_one ha_1) (ci := 5) (q0 := 0) rfl rfl) rfl rfl hl.1 rfl (lv_room (Nat.le_of_ble_eq_true rfl)) dX5_completeFirst_10 ⟨Nat.le_of_ble_eq_true rfl, Nat.le_of_ble_eq_true rfl⟩) hS (fun q _ h => h.elim) (fun q h => h.elim) (fun _ r_3 t H locs ht hvm hwr_3 hB hz hk hS => ?_)
  have hT : TX E G B R H := hT.kept (fun q hq => hk q hq (fun h => h))
  have hRr_3 := hB
  have hgr_3 : G r_3 = 13 := hRr_3.1
  have hCr_3 : C_X5_at G B R h0 (0 : Int32) r_3 := hRr_3.2
  refine lv_iload_n hx hb dX5_completeFirst_13 rfl (lv_at hl 1 rfl) ?_
  have ha_4 := tx_5 hT hg_2
  refine va_callv (rnV (fun H => TX E G B R H) (As := [.int (B h0 0), .ref r_3, .int p0]) (rest := []) ⟨hx, hb, hml, hown, hts⟩ (x_X1_complete l E z0 G hGz B R hW (R h0 1) (B h0 0) r_3 p0 hg_2 hgr_3) (cwV 3 hts (gdV ml_X5_54 im_X1_complete se_X1_X1_complete in_X1 co_X1_complete rfl) rfl rfl rfl (by decide +kernel) ⟨Nat.le_of_ble_eq_true rfl, Nat.le_of_ble_eq_true rfl⟩) hT (fun U hU hW => hK.go hW hS hAz hU) (va_recv hK.1 (va_one ha_4) (ci := 1) (q0 := 0) rfl rfl) rfl rfl hl.1 rfl (lv_room (Nat.le_of_ble_eq_true rfl)) dX5_completeFirst_14 ⟨Nat.le_of_ble_eq_true rfl, Nat.le_of_ble_eq_true rfl⟩) hS (fun q _ h => mL (L' := [5, 15]) (L := [5, 15, 11]) (by decide) h) (fun q h => mL (L' := [5, 15]) (L := [5, 15, 11]) (by decide) h) (fun U_6 t H locs ht hvm hwr_5 hB hz hk hS => ?_)
  have hT : TX E G U_6 R H := by rw [ht] at hB; exact hB
  have hWr_5 : TW G U_6 R := hwr_5.1
  have hW := hWr_5
  have hFr_5 : Fr G [5, 15] B U_6 := hwr_5.2.1
  have hCr_5 : C_X1_complete G B R (R h0 1) (B h0 0) r_3 p0 U_6 := hwr_5.2.2
  refine lv_aload_n hx hb dX5_completeFirst_17 rfl (lv_at hl 0 rfl) ?_
  refine lv_aload_n hx hb dX5_completeFirst_18 rfl (lv_at hl 0 rfl) ?_
  have ha_7 := tx_11 hT hG
  have l_8 : U_6 h0 3 = (B h0 3) := (congrFun (hFr_5 h0 (by rw [hG]; decide)) 3)
  have hb_9 := (tw_11 hW_0 hG).2.2.1
  refine va_get (D := DG E) (ci := 5) (v := .int (U_6 h0 3)) (C := RX5) (T := TX5) (N := 6) hx hb hts iw_X5 hown hK.1 (va_one ha_7) 0 rfl rfl 3 (by decide) (hts _ fl_X5_26) (fun _ h9 => h9) rfl dX5_completeFirst_19 ?_
  refine W.eq (g2 := F0 m 22 ls [.int (B h0 3), .ref h0]) (by rw [l_8]) ?_
  refine lv_iconst (v := 1) hx hb dX5_completeFirst_22 (by decide) ?_
  refine lv_iadd hx hb dX5_completeFirst_23 ?_
  refine lv_topi (fun x_10 ex_10 => ?_)
  have fx_10 : x_10.toInt = (B h0 3).toInt + 1 := by have h9 := s_add (x := (B h0 3)) (y := 1) (by rw [i_1]; omega) (by rw [i_1]; omega); rw [i_1] at h9; rw [ex_10]; exact h9
  refine lv_iconst (v := 4) hx hb dX5_completeFirst_24 (by decide) ?_
  refine lv_irem hx hb dX5_completeFirst_25 (by decide) ?_
  refine lv_topi (fun x_11 ex_11 => ?_)
  have fx_11 : x_11.toInt = x_10.toInt % 4 := by have h9 := s_rem (x := x_10) 4 (by decide) (by decide) (by omega); rw [ex_11]; exact h9
  have h9_12 := tw_11 hWr_5 hG
  refine rr_put (D := DG E) (ci := 5) (v := .int x_11) (ty := .int) (C := RX5) (T := TX5) (N := 6) hx hb hts iw_X5 tyX5 tyX5_ok nmX5 hown hK.1 ha_7 hS (by show G h0 ∈ ([5, 15, 11] : List Nat); rw [hG]; decide) rfl 3 (by decide) (hts _ fl_X5_26) (fun _ h9 => h9) rfl (by decide +kernel) rfl rfl (Nat.le_of_ble_eq_true rfl) dX5_completeFirst_26 (fun H locs hn ho hz hS => ?_)
  obtain ⟨B_13, eB_13⟩ : ∃ z : AA, z = uA U_6 h0 (upd (U_6 h0) 3 x_11) := ⟨_, rfl⟩
  have sB_13 : B_13 h0 3 = x_11 := by rw [eB_13, uA_s]; exact upd_s
  have nB_13 : ∀ k, k ≠ 3 → B_13 h0 k = U_6 h0 k := fun k hk => by rw [eB_13, uA_s]; exact upd_n hk
  have fB_13 : ∀ c, G c ≠ 11 → B_13 c = U_6 c := fun c hc => by rw [eB_13]; exact uA_n (fun e => hc (by rw [e]; exact hG))
  have hT : TX E G B_13 R H := by rw [eB_13]; exact hT.w (by rw [hG]; exact hn) ho
  have hWB_13 : TW G B_13 R := by rw [eB_13]; exact hWr_5.w (by rw [hG]; exact ⟨h9_12.1, h9_12.2.1, (show 0 ≤ (x_11 : Int32).toInt ∧ (x_11 : Int32).toInt ≤ 3 from by omega), h9_12.2.2.2⟩)
  have hW := hWB_13
  refine lv_aload_n hx hb dX5_completeFirst_29 rfl (lv_at hl 0 rfl) ?_
  refine lv_dup hx hb dX5_completeFirst_30 rfl ?_
  have ha_14 := tx_11 hT hG
  have l_15 : B_13 h0 4 = (B h0 4) := ((nB_13 4 (by decide))).trans ((congrFun (hFr_5 h0 (by rw [hG]; decide)) 4))
  have hb_16 := (tw_11 hW_0 hG).2.2.2
  refine va_get (D := DG E) (ci := 5) (v := .int (B_13 h0 4)) (C := RX5) (T := TX5) (N := 6) hx hb hts iw_X5 hown hK.1 (va_one ha_14) 0 rfl rfl 4 (by decide) (hts _ fl_X5_29) (fun _ h9 => h9) rfl dX5_completeFirst_31 ?_
  refine W.eq (g2 := F0 m 34 ls [.int (B h0 4), .ref h0]) (by rw [l_15]) ?_
  refine lv_iconst (v := 1) hx hb dX5_completeFirst_34 (by decide) ?_
  refine lv_isub hx hb dX5_completeFirst_35 ?_
  refine lv_topi (fun x_17 ex_17 => ?_)
  have fx_17 : x_17.toInt = (B h0 4).toInt - 1 := by have h9 := s_sub (x := (B h0 4)) (y := 1) (by rw [i_1]; omega) (by rw [i_1]; omega); rw [i_1] at h9; rw [ex_17]; exact h9
  have h9_18 := tw_11 hWB_13 hG
  refine rr_put (D := DG E) (ci := 5) (v := .int x_17) (ty := .int) (C := RX5) (T := TX5) (N := 6) hx hb hts iw_X5 tyX5 tyX5_ok nmX5 hown hK.1 ha_14 hS (by show G h0 ∈ ([5, 15, 11] : List Nat); rw [hG]; decide) rfl 4 (by decide) (hts _ fl_X5_29) (fun _ h9 => h9) rfl (by decide +kernel) rfl rfl (Nat.le_of_ble_eq_true rfl) dX5_completeFirst_36 (fun H locs hn ho hz hS => ?_)
  obtain ⟨B_19, eB_19⟩ : ∃ z : AA, z = uA B_13 h0 (upd (B_13 h0) 4 x_17) := ⟨_, rfl⟩
  have sB_19 : B_19 h0 4 = x_17 := by rw [eB_19, uA_s]; exact upd_s
  have nB_19 : ∀ k, k ≠ 4 → B_19 h0 k = B_13 h0 k := fun k hk => by rw [eB_19, uA_s]; exact upd_n hk
  have fB_19 : ∀ c, G c ≠ 11 → B_19 c = B_13 c := fun c hc => by rw [eB_19]; exact uA_n (fun e => hc (by rw [e]; exact hG))
  have hT : TX E G B_19 R H := by rw [eB_19]; exact hT.w (by rw [hG]; exact hn) ho
  have hWB_19 : TW G B_19 R := by rw [eB_19]; exact hWB_13.w (by rw [hG]; exact ⟨h9_18.1, h9_18.2.1, h9_18.2.2.1, (show 0 ≤ (x_17 : Int32).toInt ∧ (x_17 : Int32).toInt ≤ 4 from by omega)⟩)
  have hW := hWB_19
  exact W.vret hx hb hr (fun t ht hW9 => ⟨⟨B_19, rfl, ⟨hW, (Fr.w (Fr.w (Fr.c Fr.rf hFr_5 (by decide)) hG (by decide) eB_13) hG (by decide) eB_19), ⟨r_3, hCr_3, U_6, hFr_5, hCr_5, x_10, ex_10, fx_10, x_11, ex_11, fx_11, B_13, eB_13, x_17, ex_17, fx_17, B_19, eB_19, rfl⟩⟩, (by show TX E G B_19 R t.heap; rw [ht]; exact hT)⟩, hS.F ht⟩) hS.2.2 dX5_completeFirst_39
theorem dX5_completeAll_0 : decode cX5_completeAll 0 = .ok (.iload_n 1, 1) := by decide +kernel
theorem dX5_completeAll_1 : decode cX5_completeAll 1 = .ok (.istore_n 2, 1) := by decide +kernel
theorem dX5_completeAll_2 : decode cX5_completeAll 2 = .ok (.iconst 0, 1) := by decide +kernel
theorem dX5_completeAll_3 : decode cX5_completeAll 3 = .ok (.istore_n 3, 1) := by decide +kernel
theorem dX5_completeAll_4 : decode cX5_completeAll 4 = .ok (.iload_n 3, 1) := by decide +kernel
theorem dX5_completeAll_5 : decode cX5_completeAll 5 = .ok (.iconst 4, 1) := by decide +kernel
theorem dX5_completeAll_6 : decode cX5_completeAll 6 = .ok (.if_icmp .ge 23, 3) := by decide +kernel
theorem dX5_completeAll_9 : decode cX5_completeAll 9 = .ok (.aload_n 0, 1) := by decide +kernel
theorem dX5_completeAll_10 : decode cX5_completeAll 10 = .ok (.getfield 29, 3) := by decide +kernel
theorem dX5_completeAll_13 : decode cX5_completeAll 13 = .ok (.ifCond .le 16, 3) := by decide +kernel
theorem dX5_completeAll_16 : decode cX5_completeAll 16 = .ok (.aload_n 0, 1) := by decide +kernel
theorem dX5_completeAll_17 : decode cX5_completeAll 17 = .ok (.iload_n 2, 1) := by decide +kernel
theorem dX5_completeAll_18 : decode cX5_completeAll 18 = .ok (.invokevirtual 60, 3) := by decide +kernel
theorem dX5_completeAll_21 : decode cX5_completeAll 21 = .ok (.iconst 5, 1) := by decide +kernel
theorem dX5_completeAll_22 : decode cX5_completeAll 22 = .ok (.istore_n 2, 1) := by decide +kernel
theorem dX5_completeAll_23 : decode cX5_completeAll 23 = .ok (.iinc 3 1, 3) := by decide +kernel
theorem dX5_completeAll_26 : decode cX5_completeAll 26 = .ok (.goto (-22), 3) := by decide +kernel
theorem dX5_completeAll_29 : decode cX5_completeAll 29 = .ok (.return_, 1) := by decide +kernel
set_option maxHeartbeats 8000000 in
set_option maxRecDepth 100000 in
theorem x_X5_completeAll (l : Launch) (E : EE) (z0 : Nat) (G : Nat → Nat) (hGz : ∀ q, G q ≠ 0 → z0 ≤ q) (B : AA) (R : RR) (hW : TW G B R) (h0 : Nat) (p0 : Int32) (hG : G h0 = 11) : Met l yX5_completeAll [Cond.code yX5_completeAll cX5_completeAll 4 none] ({ frames := 2, cells := 0, slots := 0, locals := 45 } : Room) (va_Pc [.ref h0, .int p0] (fun U => TX E G B R U.heap ∧ KS E z0 U)) (va_Qv (fun (u : AA) => (TW G u R) ∧ (Fr G ([5, 15, 11] : List Nat) B u) ∧ (C_X5_completeAll G B R h0 p0 u)) (fun u t => TX E G u R t.heap) (fun q : Nat => G q ∈ ([5, 15, 11] : List Nat))) 0 0 (fun q : Nat => G q ∈ ([5, 15, 11] : List Nat)) := by
  refine Met.ofW (cc := cX5_completeAll) (maxL := 4) (ret := none) (by decide) rfl ?_
  intro p e s m args below meth c s₁ B9 hml hv
  obtain ⟨rfl, hT, hK⟩ := hv
  have hx := B9.exec
  have hb := B9.bytes
  have hr := B9.returns
  have hts : ∀ w ∈ TS, w.before ([.ref h0, .int p0] : List Value).toArray s = true := fun w hw => hK.2.1 w hw _
  have hown : s.vm.findClass RX5 = some m.cls := findClass_of_methodNamed B9.named
  have hlocks := B9.notSynchronized
  have hS : va_S (fun q : Nat => G q ∈ ([5, 15, 11] : List Nat)) s.heap s.heap [] := va_S.rf
  have hAz : ∀ q, (fun q : Nat => G q ∈ ([5, 15, 11] : List Nat)) q → z0 ≤ q := zL hGz (by decide)
  have hW_0 := hW
  have hl := lv_entry ([.ref h0, .int p0]) (n := 4) (Nat.le_of_ble_eq_true rfl)
  rw [lg_entry_eq]
  generalize (lg_sl ([.ref h0, .int p0]) ++ List.replicate (4 - (lg_sl ([.ref h0, .int p0])).length) Slot.unset).toArray = ls at hl ⊢
  have hl : lv_has ls 4 [(0, .ref h0), (1, .int p0)] := hl
  refine lv_iload_n hx hb dX5_completeAll_0 rfl (lv_at hl 1 rfl) ?_
  refine lv_istore_n (lv' := [(2, .int p0), (0, .ref h0), (1, .int p0)]) hx hb dX5_completeAll_1 rfl hl (by decide) rfl (fun ls hl => ?_)
  refine lv_iconst (v := 0) hx hb dX5_completeAll_2 (by decide) ?_
  refine lv_istore_n (lv' := [(3, .int 0), (2, .int p0), (0, .ref h0), (1, .int p0)]) hx hb dX5_completeAll_3 rfl hl (by decide) rfl (fun ls hl => ?_)
  refine lv_iload_n hx hb dX5_completeAll_4 rfl (lv_at hl 0 rfl) ?_
  refine lv_iconst (v := 4) hx hb dX5_completeAll_5 (by decide) ?_
  refine lv_icmp_ge (tgt := 29) hx hb dX5_completeAll_6 (by decide) (fun c_1 => absurd c_1 (by decide)) (fun c_1 => ?_)
  refine lv_aload_n hx hb dX5_completeAll_9 rfl (lv_at hl 2 rfl) ?_
  have ha_2 := tx_11 hT hG
  have hb_3 := (tw_11 hW_0 hG).2.2.2
  refine va_get (D := DG E) (ci := 5) (v := .int (B h0 4)) (C := RX5) (T := TX5) (N := 6) hx hb hts iw_X5 hown hK.1 (va_one ha_2) 0 rfl rfl 4 (by decide) (hts _ fl_X5_29) (fun _ h9 => h9) rfl dX5_completeAll_10 ?_
  refine lv_if_le (tgt := 29) hx hb dX5_completeAll_13 (by decide) (fun c_4 => ?_) (fun c_4 => ?_)
  · simp only [lt_I, le_I, eq_I, i_0, i_1, i_2, i_3, i_4, i_5, i_6, i_7, i_8, i_10, i_12, i_16, i_20, i_23, i_24, i_31, i_32, i_63, i_64, i_m1] at c_4
    exact W.vret hx hb hr (fun t ht hW9 => ⟨⟨B, rfl, ⟨hW, Fr.rf, (Or.inl ⟨c_4, rfl⟩)⟩, (by show TX E G B R t.heap; rw [ht]; exact hT)⟩, hS.F ht⟩) hS.2.2 dX5_completeAll_29
  · simp only [lt_I, le_I, eq_I, i_0, i_1, i_2, i_3, i_4, i_5, i_6, i_7, i_8, i_10, i_12, i_16, i_20, i_23, i_24, i_31, i_32, i_63, i_64, i_m1] at c_4
    refine lv_aload_n hx hb dX5_completeAll_16 rfl (lv_at hl 2 rfl) ?_
    refine lv_iload_n hx hb dX5_completeAll_17 rfl (lv_at hl 1 rfl) ?_
    refine va_callv (rnV (fun H => TX E G B R H) (As := [.int p0]) (rest := []) ⟨hx, hb, hml, hown, hts⟩ (x_X5_completeFirst l E z0 G hGz B R hW h0 p0 hG (show 1 ≤ (B h0 4).toInt from by first | decide | omega)) (cwV 1 hts (gdV ml_X5_60 im_X5_completeFirst se_X5_X5_completeFirst in_X5 co_X5_completeFirst rfl) rfl rfl rfl (by decide +kernel) ⟨Nat.le_of_ble_eq_true rfl, Nat.le_of_ble_eq_true rfl⟩) hT (fun U hU hW => hK.go hW hS hAz hU) (va_recv hK.1 (va_one ha_2) (ci := 5) (q0 := 0) rfl rfl) rfl rfl hl.1 rfl (lv_room (Nat.le_of_ble_eq_true rfl)) dX5_completeAll_18 ⟨Nat.le_of_ble_eq_true rfl, Nat.le_of_ble_eq_true rfl⟩) hS (fun q _ h => mL (L' := [5, 15, 11]) (L := [5, 15, 11]) (by decide) h) (fun q h => mL (L' := [5, 15, 11]) (L := [5, 15, 11]) (by decide) h) (fun U_6 t H locs ht hvm hwr_5 hB hz hk hS => ?_)
    have hT : TX E G U_6 R H := by rw [ht] at hB; exact hB
    have hWr_5 : TW G U_6 R := hwr_5.1
    have hW := hWr_5
    have hFr_5 : Fr G [5, 15, 11] B U_6 := hwr_5.2.1
    have hCr_5 : C_X5_completeFirst G B R h0 p0 U_6 := hwr_5.2.2
    refine lv_iconst (v := 5) hx hb dX5_completeAll_21 (by decide) ?_
    refine lv_istore_n (lv' := [(2, .int 5), (3, .int 0), (0, .ref h0), (1, .int p0)]) hx hb dX5_completeAll_22 rfl hl (by decide) rfl (fun ls hl => ?_)
    refine lv_iinc (v := 1) (lv' := [(3, .int 1), (2, .int 5), (0, .ref h0), (1, .int p0)]) hx hb dX5_completeAll_23 hl (k := 1) rfl (by decide) (by decide) rfl (fun ls hl => ?_)
    refine lv_goto (tgt := 4) hx hb dX5_completeAll_26 (by decide) ?_
    refine lv_iload_n hx hb dX5_completeAll_4 rfl (lv_at hl 0 rfl) ?_
    refine lv_iconst (v := 4) hx hb dX5_completeAll_5 (by decide) ?_
    refine lv_icmp_ge (tgt := 29) hx hb dX5_completeAll_6 (by decide) (fun c_7 => absurd c_7 (by decide)) (fun c_7 => ?_)
    refine lv_aload_n hx hb dX5_completeAll_9 rfl (lv_at hl 2 rfl) ?_
    have ha_8 := tx_11 hT hG
    have hb_9 := (tw_11 hWr_5 hG).2.2.2
    refine va_get (D := DG E) (ci := 5) (v := .int (U_6 h0 4)) (C := RX5) (T := TX5) (N := 6) hx hb hts iw_X5 hown hK.1 (va_one ha_8) 0 rfl rfl 4 (by decide) (hts _ fl_X5_29) (fun _ h9 => h9) rfl dX5_completeAll_10 ?_
    refine lv_if_le (tgt := 29) hx hb dX5_completeAll_13 (by decide) (fun c_10 => ?_) (fun c_10 => ?_)
    · simp only [lt_I, le_I, eq_I, i_0, i_1, i_2, i_3, i_4, i_5, i_6, i_7, i_8, i_10, i_12, i_16, i_20, i_23, i_24, i_31, i_32, i_63, i_64, i_m1] at c_10
      exact W.vret hx hb hr (fun t ht hW9 => ⟨⟨U_6, rfl, ⟨hW, (Fr.c Fr.rf hFr_5 (by decide)), (Or.inr (Or.inl ⟨c_4, U_6, hFr_5, hCr_5, c_10, rfl⟩))⟩, (by show TX E G U_6 R t.heap; rw [ht]; exact hT)⟩, hS.F ht⟩) hS.2.2 dX5_completeAll_29
    · simp only [lt_I, le_I, eq_I, i_0, i_1, i_2, i_3, i_4, i_5, i_6, i_7, i_8, i_10, i_12, i_16, i_20, i_23, i_24, i_31, i_32, i_63, i_64, i_m1] at c_10
      refine lv_aload_n hx hb dX5_completeAll_16 rfl (lv_at hl 2 rfl) ?_
      refine lv_iload_n hx hb dX5_completeAll_17 rfl (lv_at hl 1 rfl) ?_
      refine va_callv (rnV (fun H => TX E G U_6 R H) (As := [.int 5]) (rest := []) ⟨hx, hb, hml, hown, hts⟩ (x_X5_completeFirst l E z0 G hGz U_6 R hW h0 (5 : Int32) hG (show 1 ≤ (U_6 h0 4).toInt from by have := i_5; first | decide | omega)) (cwV 1 hts (gdV ml_X5_60 im_X5_completeFirst se_X5_X5_completeFirst in_X5 co_X5_completeFirst rfl) rfl rfl rfl (by decide +kernel) ⟨Nat.le_of_ble_eq_true rfl, Nat.le_of_ble_eq_true rfl⟩) hT (fun U hU hW => hK.go hW hS hAz hU) (va_recv hK.1 (va_one ha_8) (ci := 5) (q0 := 0) rfl rfl) rfl rfl hl.1 rfl (lv_room (Nat.le_of_ble_eq_true rfl)) dX5_completeAll_18 ⟨Nat.le_of_ble_eq_true rfl, Nat.le_of_ble_eq_true rfl⟩) hS (fun q _ h => mL (L' := [5, 15, 11]) (L := [5, 15, 11]) (by decide) h) (fun q h => mL (L' := [5, 15, 11]) (L := [5, 15, 11]) (by decide) h) (fun U_12 t H locs ht hvm hwr_11 hB hz hk hS => ?_)
      have hT : TX E G U_12 R H := by rw [ht] at hB; exact hB
      have hWr_11 : TW G U_12 R := hwr_11.1
      have hW := hWr_11
      have hFr_11 : Fr G [5, 15, 11] U_6 U_12 := hwr_11.2.1
      have hCr_11 : C_X5_completeFirst G U_6 R h0 (5 : Int32) U_12 := hwr_11.2.2
      refine lv_iconst (v := 5) hx hb dX5_completeAll_21 (by decide) ?_
      refine lv_istore_n (lv' := [(2, .int 5), (3, .int 1), (0, .ref h0), (1, .int p0)]) hx hb dX5_completeAll_22 rfl hl (by decide) rfl (fun ls hl => ?_)
      refine lv_iinc (v := 2) (lv' := [(3, .int 2), (2, .int 5), (0, .ref h0), (1, .int p0)]) hx hb dX5_completeAll_23 hl (k := 1) rfl (by decide) (by decide) rfl (fun ls hl => ?_)
      refine lv_goto (tgt := 4) hx hb dX5_completeAll_26 (by decide) ?_
      refine lv_iload_n hx hb dX5_completeAll_4 rfl (lv_at hl 0 rfl) ?_
      refine lv_iconst (v := 4) hx hb dX5_completeAll_5 (by decide) ?_
      refine lv_icmp_ge (tgt := 29) hx hb dX5_completeAll_6 (by decide) (fun c_13 => absurd c_13 (by decide)) (fun c_13 => ?_)
      refine lv_aload_n hx hb dX5_completeAll_9 rfl (lv_at hl 2 rfl) ?_
      have ha_14 := tx_11 hT hG
      have hb_15 := (tw_11 hWr_11 hG).2.2.2
      refine va_get (D := DG E) (ci := 5) (v := .int (U_12 h0 4)) (C := RX5) (T := TX5) (N := 6) hx hb hts iw_X5 hown hK.1 (va_one ha_14) 0 rfl rfl 4 (by decide) (hts _ fl_X5_29) (fun _ h9 => h9) rfl dX5_completeAll_10 ?_
      refine lv_if_le (tgt := 29) hx hb dX5_completeAll_13 (by decide) (fun c_16 => ?_) (fun c_16 => ?_)
      · simp only [lt_I, le_I, eq_I, i_0, i_1, i_2, i_3, i_4, i_5, i_6, i_7, i_8, i_10, i_12, i_16, i_20, i_23, i_24, i_31, i_32, i_63, i_64, i_m1] at c_16
        exact W.vret hx hb hr (fun t ht hW9 => ⟨⟨U_12, rfl, ⟨hW, (Fr.c (Fr.c Fr.rf hFr_5 (by decide)) hFr_11 (by decide)), (Or.inr (Or.inr (Or.inl ⟨c_4, U_6, hFr_5, hCr_5, c_10, U_12, hFr_11, hCr_11, c_16, rfl⟩)))⟩, (by show TX E G U_12 R t.heap; rw [ht]; exact hT)⟩, hS.F ht⟩) hS.2.2 dX5_completeAll_29
      · simp only [lt_I, le_I, eq_I, i_0, i_1, i_2, i_3, i_4, i_5, i_6, i_7, i_8, i_10, i_12, i_16, i_20, i_23, i_24, i_31, i_32, i_63, i_64, i_m1] at c_16
        refine lv_aload_n hx hb dX5_completeAll_16 rfl (lv_at hl 2 rfl) ?_
        refine lv_iload_n hx hb dX5_completeAll_17 rfl (lv_at hl 1 rfl) ?_
        refine va_callv (rnV (fun H => TX E G U_12 R H) (As := [.int 5]) (rest := []) ⟨hx, hb, hml, hown, hts⟩ (x_X5_completeFirst l E z0 G hGz U_12 R hW h0 (5 : Int32) hG (show 1 ≤ (U_12 h0 4).toInt from by have := i_5; first | decide | omega)) (cwV 1 hts (gdV ml_X5_60 im_X5_completeFirst se_X5_X5_completeFirst in_X5 co_X5_completeFirst rfl) rfl rfl rfl (by decide +kernel) ⟨Nat.le_of_ble_eq_true rfl, Nat.le_of_ble_eq_true rfl⟩) hT (fun U hU hW => hK.go hW hS hAz hU) (va_recv hK.1 (va_one ha_14) (ci := 5) (q0 := 0) rfl rfl) rfl rfl hl.1 rfl (lv_room (Nat.le_of_ble_eq_true rfl)) dX5_completeAll_18 ⟨Nat.le_of_ble_eq_true rfl, Nat.le_of_ble_eq_true rfl⟩) hS (fun q _ h => mL (L' := [5, 15, 11]) (L := [5, 15, 11]) (by decide) h) (fun q h => mL (L' := [5, 15, 11]) (L := [5, 15, 11]) (by decide) h) (fun U_18 t H locs ht hvm hwr_17 hB hz hk hS => ?_)
        have hT : TX E G U_18 R H := by rw [ht] at hB; exact hB
        have hWr_17 : TW G U_18 R := hwr_17.1
        have hW := hWr_17
        have hFr_17 : Fr G [5, 15, 11] U_12 U_18 := hwr_17.2.1
        have hCr_17 : C_X5_completeFirst G U_12 R h0 (5 : Int32) U_18 := hwr_17.2.2
        refine lv_iconst (v := 5) hx hb dX5_completeAll_21 (by decide) ?_
        refine lv_istore_n (lv' := [(2, .int 5), (3, .int 2), (0, .ref h0), (1, .int p0)]) hx hb dX5_completeAll_22 rfl hl (by decide) rfl (fun ls hl => ?_)
        refine lv_iinc (v := 3) (lv' := [(3, .int 3), (2, .int 5), (0, .ref h0), (1, .int p0)]) hx hb dX5_completeAll_23 hl (k := 1) rfl (by decide) (by decide) rfl (fun ls hl => ?_)
        refine lv_goto (tgt := 4) hx hb dX5_completeAll_26 (by decide) ?_
        refine lv_iload_n hx hb dX5_completeAll_4 rfl (lv_at hl 0 rfl) ?_
        refine lv_iconst (v := 4) hx hb dX5_completeAll_5 (by decide) ?_
        refine lv_icmp_ge (tgt := 29) hx hb dX5_completeAll_6 (by decide) (fun c_19 => absurd c_19 (by decide)) (fun c_19 => ?_)
        refine lv_aload_n hx hb dX5_completeAll_9 rfl (lv_at hl 2 rfl) ?_
        have ha_20 := tx_11 hT hG
        have hb_21 := (tw_11 hWr_17 hG).2.2.2
        refine va_get (D := DG E) (ci := 5) (v := .int (U_18 h0 4)) (C := RX5) (T := TX5) (N := 6) hx hb hts iw_X5 hown hK.1 (va_one ha_20) 0 rfl rfl 4 (by decide) (hts _ fl_X5_29) (fun _ h9 => h9) rfl dX5_completeAll_10 ?_
        refine lv_if_le (tgt := 29) hx hb dX5_completeAll_13 (by decide) (fun c_22 => ?_) (fun c_22 => ?_)
        · simp only [lt_I, le_I, eq_I, i_0, i_1, i_2, i_3, i_4, i_5, i_6, i_7, i_8, i_10, i_12, i_16, i_20, i_23, i_24, i_31, i_32, i_63, i_64, i_m1] at c_22
          exact W.vret hx hb hr (fun t ht hW9 => ⟨⟨U_18, rfl, ⟨hW, (Fr.c (Fr.c (Fr.c Fr.rf hFr_5 (by decide)) hFr_11 (by decide)) hFr_17 (by decide)), (Or.inr (Or.inr (Or.inr (Or.inl ⟨c_4, U_6, hFr_5, hCr_5, c_10, U_12, hFr_11, hCr_11, c_16, U_18, hFr_17, hCr_17, c_22, rfl⟩))))⟩, (by show TX E G U_18 R t.heap; rw [ht]; exact hT)⟩, hS.F ht⟩) hS.2.2 dX5_completeAll_29
        · simp only [lt_I, le_I, eq_I, i_0, i_1, i_2, i_3, i_4, i_5, i_6, i_7, i_8, i_10, i_12, i_16, i_20, i_23, i_24, i_31, i_32, i_63, i_64, i_m1] at c_22
          refine lv_aload_n hx hb dX5_completeAll_16 rfl (lv_at hl 2 rfl) ?_
          refine lv_iload_n hx hb dX5_completeAll_17 rfl (lv_at hl 1 rfl) ?_
          refine va_callv (rnV (fun H => TX E G U_18 R H) (As := [.int 5]) (rest := []) ⟨hx, hb, hml, hown, hts⟩ (x_X5_completeFirst l E z0 G hGz U_18 R hW h0 (5 : Int32) hG (show 1 ≤ (U_18 h0 4).toInt from by have := i_5; first | decide | omega)) (cwV 1 hts (gdV ml_X5_60 im_X5_completeFirst se_X5_X5_completeFirst in_X5 co_X5_completeFirst rfl) rfl rfl rfl (by decide +kernel) ⟨Nat.le_of_ble_eq_true rfl, Nat.le_of_ble_eq_true rfl⟩) hT (fun U hU hW => hK.go hW hS hAz hU) (va_recv hK.1 (va_one ha_20) (ci := 5) (q0 := 0) rfl rfl) rfl rfl hl.1 rfl (lv_room (Nat.le_of_ble_eq_true rfl)) dX5_completeAll_18 ⟨Nat.le_of_ble_eq_true rfl, Nat.le_of_ble_eq_true rfl⟩) hS (fun q _ h => mL (L' := [5, 15, 11]) (L := [5, 15, 11]) (by decide) h) (fun q h => mL (L' := [5, 15, 11]) (L := [5, 15, 11]) (by decide) h) (fun U_24 t H locs ht hvm hwr_23 hB hz hk hS => ?_)
          have hT : TX E G U_24 R H := by rw [ht] at hB; exact hB
          have hWr_23 : TW G U_24 R := hwr_23.1
          have hW := hWr_23
          have hFr_23 : Fr G [5, 15, 11] U_18 U_24 := hwr_23.2.1
          have hCr_23 : C_X5_completeFirst G U_18 R h0 (5 : Int32) U_24 := hwr_23.2.2
          refine lv_iconst (v := 5) hx hb dX5_completeAll_21 (by decide) ?_
          refine lv_istore_n (lv' := [(2, .int 5), (3, .int 3), (0, .ref h0), (1, .int p0)]) hx hb dX5_completeAll_22 rfl hl (by decide) rfl (fun ls hl => ?_)
          refine lv_iinc (v := 4) (lv' := [(3, .int 4), (2, .int 5), (0, .ref h0), (1, .int p0)]) hx hb dX5_completeAll_23 hl (k := 1) rfl (by decide) (by decide) rfl (fun ls hl => ?_)
          refine lv_goto (tgt := 4) hx hb dX5_completeAll_26 (by decide) ?_
          refine lv_iload_n hx hb dX5_completeAll_4 rfl (lv_at hl 0 rfl) ?_
          refine lv_iconst (v := 4) hx hb dX5_completeAll_5 (by decide) ?_
          refine lv_icmp_ge (tgt := 29) hx hb dX5_completeAll_6 (by decide) (fun c_25 => ?_) (fun c_25 => absurd c_25 (by decide))
          exact W.vret hx hb hr (fun t ht hW9 => ⟨⟨U_24, rfl, ⟨hW, (Fr.c (Fr.c (Fr.c (Fr.c Fr.rf hFr_5 (by decide)) hFr_11 (by decide)) hFr_17 (by decide)) hFr_23 (by decide)), (Or.inr (Or.inr (Or.inr (Or.inr ⟨c_4, U_6, hFr_5, hCr_5, c_10, U_12, hFr_11, hCr_11, c_16, U_18, hFr_17, hCr_17, c_22, U_24, hFr_23, hCr_23, rfl⟩))))⟩, (by show TX E G U_24 R t.heap; rw [ht]; exact hT)⟩, hS.F ht⟩) hS.2.2 dX5_completeAll_29
end
section
theorem dX7_start_0 : decode cX7_start 0 = .ok (.aload_n 0, 1) := by decide +kernel
theorem dX7_start_1 : decode cX7_start 1 = .ok (.iload_n 1, 1) := by decide +kernel
theorem dX7_start_2 : decode cX7_start 2 = .ok (.putfield 65, 3) := by decide +kernel
theorem dX7_start_5 : decode cX7_start 5 = .ok (.aload_n 0, 1) := by decide +kernel
theorem dX7_start_6 : decode cX7_start 6 = .ok (.iload_n 1, 1) := by decide +kernel
theorem dX7_start_7 : decode cX7_start 7 = .ok (.putfield 68, 3) := by decide +kernel
theorem dX7_start_10 : decode cX7_start 10 = .ok (.aload_n 0, 1) := by decide +kernel
theorem dX7_start_11 : decode cX7_start 11 = .ok (.iload_n 1, 1) := by decide +kernel
theorem dX7_start_12 : decode cX7_start 12 = .ok (.putfield 71, 3) := by decide +kernel
theorem dX7_start_15 : decode cX7_start 15 = .ok (.return_, 1) := by decide +kernel
set_option maxHeartbeats 8000000 in
set_option maxRecDepth 100000 in
theorem x_X7_start (l : Launch) (E : EE) (z0 : Nat) (G : Nat → Nat) (hGz : ∀ q, G q ≠ 0 → z0 ≤ q) (B : AA) (R : RR) (hW : TW G B R) (h0 : Nat) (p0 : Int32) (hG : G h0 = 9) : Met l yX7_start [Cond.code yX7_start cX7_start 2 none] ({ frames := 0, cells := 0, slots := 0, locals := 0 } : Room) (va_Pc [.ref h0, .int p0] (fun U => TX E G B R U.heap ∧ KS E z0 U)) (va_Qv (fun (u : AA) => (TW G u R) ∧ (Fr G ([9] : List Nat) B u) ∧ (C_X7_start G B R h0 p0 u)) (fun u t => TX E G u R t.heap) (fun q : Nat => G q ∈ ([9] : List Nat))) 0 0 (fun q : Nat => G q ∈ ([9] : List Nat)) := by
  refine Met.ofW (cc := cX7_start) (maxL := 2) (ret := none) (by decide) rfl ?_
  intro p e s m args below meth c s₁ B9 hml hv
  obtain ⟨rfl, hT, hK⟩ := hv
  have hx := B9.exec
  have hb := B9.bytes
  have hr := B9.returns
  have hts : ∀ w ∈ TS, w.before ([.ref h0, .int p0] : List Value).toArray s = true := fun w hw => hK.2.1 w hw _
  have hown : s.vm.findClass RX7 = some m.cls := findClass_of_methodNamed B9.named
  have hlocks := B9.notSynchronized
  have hS : va_S (fun q : Nat => G q ∈ ([9] : List Nat)) s.heap s.heap [] := va_S.rf
  have hAz : ∀ q, (fun q : Nat => G q ∈ ([9] : List Nat)) q → z0 ≤ q := zL hGz (by decide)
  have hW_0 := hW
  have hl := lv_entry ([.ref h0, .int p0]) (n := 2) (Nat.le_of_ble_eq_true rfl)
  rw [lg_entry_eq]
  generalize (lg_sl ([.ref h0, .int p0]) ++ List.replicate (2 - (lg_sl ([.ref h0, .int p0])).length) Slot.unset).toArray = ls at hl ⊢
  have hl : lv_has ls 2 [(0, .ref h0), (1, .int p0)] := hl
  refine lv_aload_n hx hb dX7_start_0 rfl (lv_at hl 0 rfl) ?_
  refine lv_iload_n hx hb dX7_start_1 rfl (lv_at hl 1 rfl) ?_
  have ha_1 := tx_9 hT hG
  refine rr_put (D := DG E) (ci := 7) (v := .int p0) (ty := .int) (C := RX7) (T := TX7) (N := 14) hx hb hts iw_X7 tyX7 tyX7_ok nmX7 hown hK.1 ha_1 hS (by show G h0 ∈ ([9] : List Nat); rw [hG]; decide) rfl 7 (by decide) (hts _ fl_X7_65) (fun _ h9 => h9) rfl (by decide +kernel) rfl rfl (Nat.le_of_ble_eq_true rfl) dX7_start_2 (fun H locs hn ho hz hS => ?_)
  obtain ⟨B_2, eB_2⟩ : ∃ z : AA, z = uA B h0 (upd (B h0) 7 p0) := ⟨_, rfl⟩
  have sB_2 : B_2 h0 7 = p0 := by rw [eB_2, uA_s]; exact upd_s
  have nB_2 : ∀ k, k ≠ 7 → B_2 h0 k = B h0 k := fun k hk => by rw [eB_2, uA_s]; exact upd_n hk
  have fB_2 : ∀ c, G c ≠ 9 → B_2 c = B c := fun c hc => by rw [eB_2]; exact uA_n (fun e => hc (by rw [e]; exact hG))
  have hT : TX E G B_2 R H := by rw [eB_2]; exact hT.w (by rw [hG]; exact hn) ho
  have hWB_2 : TW G B_2 R := by rw [eB_2]; exact hW_0.w (by rw [hG]; exact tw_9 hW_0 hG)
  have hW := hWB_2
  refine lv_aload_n hx hb dX7_start_5 rfl (lv_at hl 0 rfl) ?_
  refine lv_iload_n hx hb dX7_start_6 rfl (lv_at hl 1 rfl) ?_
  have ha_3 := tx_9 hT hG
  refine rr_put (D := DG E) (ci := 7) (v := .int p0) (ty := .int) (C := RX7) (T := TX7) (N := 14) hx hb hts iw_X7 tyX7 tyX7_ok nmX7 hown hK.1 ha_3 hS (by show G h0 ∈ ([9] : List Nat); rw [hG]; decide) rfl 8 (by decide) (hts _ fl_X7_68) (fun _ h9 => h9) rfl (by decide +kernel) rfl rfl (Nat.le_of_ble_eq_true rfl) dX7_start_7 (fun H locs hn ho hz hS => ?_)
  obtain ⟨B_4, eB_4⟩ : ∃ z : AA, z = uA B_2 h0 (upd (B_2 h0) 8 p0) := ⟨_, rfl⟩
  have sB_4 : B_4 h0 8 = p0 := by rw [eB_4, uA_s]; exact upd_s
  have nB_4 : ∀ k, k ≠ 8 → B_4 h0 k = B_2 h0 k := fun k hk => by rw [eB_4, uA_s]; exact upd_n hk
  have fB_4 : ∀ c, G c ≠ 9 → B_4 c = B_2 c := fun c hc => by rw [eB_4]; exact uA_n (fun e => hc (by rw [e]; exact hG))
  have hT : TX E G B_4 R H := by rw [eB_4]; exact hT.w (by rw [hG]; exact hn) ho
  have hWB_4 : TW G B_4 R := by rw [eB_4]; exact hWB_2.w (by rw [hG]; exact tw_9 hWB_2 hG)
  have hW := hWB_4
  refine lv_aload_n hx hb dX7_start_10 rfl (lv_at hl 0 rfl) ?_
  refine lv_iload_n hx hb dX7_start_11 rfl (lv_at hl 1 rfl) ?_
  have ha_5 := tx_9 hT hG
  refine rr_put (D := DG E) (ci := 7) (v := .int p0) (ty := .int) (C := RX7) (T := TX7) (N := 14) hx hb hts iw_X7 tyX7 tyX7_ok nmX7 hown hK.1 ha_5 hS (by show G h0 ∈ ([9] : List Nat); rw [hG]; decide) rfl 9 (by decide) (hts _ fl_X7_71) (fun _ h9 => h9) rfl (by decide +kernel) rfl rfl (Nat.le_of_ble_eq_true rfl) dX7_start_12 (fun H locs hn ho hz hS => ?_)
  obtain ⟨B_6, eB_6⟩ : ∃ z : AA, z = uA B_4 h0 (upd (B_4 h0) 9 p0) := ⟨_, rfl⟩
  have sB_6 : B_6 h0 9 = p0 := by rw [eB_6, uA_s]; exact upd_s
  have nB_6 : ∀ k, k ≠ 9 → B_6 h0 k = B_4 h0 k := fun k hk => by rw [eB_6, uA_s]; exact upd_n hk
  have fB_6 : ∀ c, G c ≠ 9 → B_6 c = B_4 c := fun c hc => by rw [eB_6]; exact uA_n (fun e => hc (by rw [e]; exact hG))
  have hT : TX E G B_6 R H := by rw [eB_6]; exact hT.w (by rw [hG]; exact hn) ho
  have hWB_6 : TW G B_6 R := by rw [eB_6]; exact hWB_4.w (by rw [hG]; exact tw_9 hWB_4 hG)
  have hW := hWB_6
  exact W.vret hx hb hr (fun t ht hW9 => ⟨⟨B_6, rfl, ⟨hW, (Fr.w (Fr.w (Fr.w Fr.rf hG (by decide) eB_2) hG (by decide) eB_4) hG (by decide) eB_6), ⟨B_2, eB_2, B_4, eB_4, B_6, eB_6, rfl⟩⟩, (by show TX E G B_6 R t.heap; rw [ht]; exact hT)⟩, hS.F ht⟩) hS.2.2 dX7_start_15
theorem dX7_clear_0 : decode cX7_clear 0 = .ok (.aload_n 0, 1) := by decide +kernel
theorem dX7_clear_1 : decode cX7_clear 1 = .ok (.getfield 41, 3) := by decide +kernel
theorem dX7_clear_4 : decode cX7_clear 4 = .ok (.invokevirtual 45, 3) := by decide +kernel
theorem dX7_clear_7 : decode cX7_clear 7 = .ok (.aload_n 0, 1) := by decide +kernel
theorem dX7_clear_8 : decode cX7_clear 8 = .ok (.iconst 0, 1) := by decide +kernel
theorem dX7_clear_9 : decode cX7_clear 9 = .ok (.invokevirtual 48, 3) := by decide +kernel
theorem dX7_clear_12 : decode cX7_clear 12 = .ok (.aload_n 0, 1) := by decide +kernel
theorem dX7_clear_13 : decode cX7_clear 13 = .ok (.iconst 0, 1) := by decide +kernel
theorem dX7_clear_14 : decode cX7_clear 14 = .ok (.putfield 52, 3) := by decide +kernel
theorem dX7_clear_17 : decode cX7_clear 17 = .ok (.aload_n 0, 1) := by decide +kernel
theorem dX7_clear_18 : decode cX7_clear 18 = .ok (.iconst 0, 1) := by decide +kernel
theorem dX7_clear_19 : decode cX7_clear 19 = .ok (.putfield 55, 3) := by decide +kernel
theorem dX7_clear_22 : decode cX7_clear 22 = .ok (.aload_n 0, 1) := by decide +kernel
theorem dX7_clear_23 : decode cX7_clear 23 = .ok (.iconst 0, 1) := by decide +kernel
theorem dX7_clear_24 : decode cX7_clear 24 = .ok (.putfield 58, 3) := by decide +kernel
theorem dX7_clear_27 : decode cX7_clear 27 = .ok (.aload_n 0, 1) := by decide +kernel
theorem dX7_clear_28 : decode cX7_clear 28 = .ok (.iconst 0, 1) := by decide +kernel
theorem dX7_clear_29 : decode cX7_clear 29 = .ok (.putfield 61, 3) := by decide +kernel
theorem dX7_clear_32 : decode cX7_clear 32 = .ok (.return_, 1) := by decide +kernel
set_option maxHeartbeats 8000000 in
set_option maxRecDepth 100000 in
theorem x_X7_clear (l : Launch) (E : EE) (z0 : Nat) (G : Nat → Nat) (hGz : ∀ q, G q ≠ 0 → z0 ≤ q) (B : AA) (R : RR) (hW : TW G B R) (h0 : Nat) (hG : G h0 = 9) : Met l yX7_clear [Cond.code yX7_clear cX7_clear 1 none] ({ frames := 1, cells := 0, slots := 0, locals := 21 } : Room) (va_Pc [.ref h0] (fun U => TX E G B R U.heap ∧ KS E z0 U)) (va_Qv (fun (u : AA) => (TW G u R) ∧ (Fr G ([9, 11] : List Nat) B u) ∧ (C_X7_clear G B R h0 u)) (fun u t => TX E G u R t.heap) (fun q : Nat => G q ∈ ([9, 11] : List Nat))) 0 0 (fun q : Nat => G q ∈ ([9, 11] : List Nat)) := by
  refine Met.ofW (cc := cX7_clear) (maxL := 1) (ret := none) (by decide) rfl ?_
  intro p e s m args below meth c s₁ B9 hml hv
  obtain ⟨rfl, hT, hK⟩ := hv
  have hx := B9.exec
  have hb := B9.bytes
  have hr := B9.returns
  have hts : ∀ w ∈ TS, w.before ([.ref h0] : List Value).toArray s = true := fun w hw => hK.2.1 w hw _
  have hown : s.vm.findClass RX7 = some m.cls := findClass_of_methodNamed B9.named
  have hlocks := B9.notSynchronized
  have hS : va_S (fun q : Nat => G q ∈ ([9, 11] : List Nat)) s.heap s.heap [] := va_S.rf
  have hAz : ∀ q, (fun q : Nat => G q ∈ ([9, 11] : List Nat)) q → z0 ≤ q := zL hGz (by decide)
  have hW_0 := hW
  have hl := lv_entry ([.ref h0]) (n := 1) (Nat.le_of_ble_eq_true rfl)
  rw [lg_entry_eq]
  generalize (lg_sl ([.ref h0]) ++ List.replicate (1 - (lg_sl ([.ref h0])).length) Slot.unset).toArray = ls at hl ⊢
  have hl : lv_has ls 1 [(0, .ref h0)] := hl
  refine lv_aload_n hx hb dX7_clear_0 rfl (lv_at hl 0 rfl) ?_
  have ha_1 := tx_9 hT hG
  have hg_2 : G (R h0 6) = 11 := (tw_9 hW hG).2.2.2
  refine va_get (D := DG E) (ci := 7) (v := .ref (R h0 6)) (C := RX7) (T := TX7) (N := 14) hx hb hts iw_X7 hown hK.1 (va_one ha_1) 0 rfl rfl 6 (by decide) (hts _ fl_X7_41) (fun _ h9 => h9) rfl dX7_clear_1 ?_
  have ha_3 := tx_11 hT hg_2
  refine va_callv (rnV (fun H => TX E G B R H) (As := []) (rest := []) ⟨hx, hb, hml, hown, hts⟩ (x_X5_clear l E z0 G hGz B R hW (R h0 6) hg_2) (cwV 0 hts (gdV ml_X7_45 im_X5_clear se_X5_X5_clear in_X5 co_X5_clear rfl) rfl rfl rfl (by decide +kernel) ⟨Nat.le_of_ble_eq_true rfl, Nat.le_of_ble_eq_true rfl⟩) hT (fun U hU hW => hK.go hW hS hAz hU) (va_recv hK.1 (va_one ha_3) (ci := 5) (q0 := 0) rfl rfl) rfl rfl hl.1 rfl (lv_room (Nat.le_of_ble_eq_true rfl)) dX7_clear_4 ⟨Nat.le_of_ble_eq_true rfl, Nat.le_of_ble_eq_true rfl⟩) hS (fun q _ h => mL (L' := [11]) (L := [9, 11]) (by decide) h) (fun q h => mL (L' := [11]) (L := [9, 11]) (by decide) h) (fun U_5 t H locs ht hvm hwr_4 hB hz hk hS => ?_)
  have hT : TX E G U_5 R H := by rw [ht] at hB; exact hB
  have hWr_4 : TW G U_5 R := hwr_4.1
  have hW := hWr_4
  have hFr_4 : Fr G [11] B U_5 := hwr_4.2.1
  have hCr_4 : C_X5_clear G B R (R h0 6) U_5 := hwr_4.2.2
  refine lv_aload_n hx hb dX7_clear_7 rfl (lv_at hl 0 rfl) ?_
  refine lv_iconst (v := 0) hx hb dX7_clear_8 (by decide) ?_
  have ha_6 := tx_9 hT hG
  refine va_callv (rnV (fun H => TX E G U_5 R H) (As := [.int 0]) (rest := []) ⟨hx, hb, hml, hown, hts⟩ (x_X7_start l E z0 G hGz U_5 R hW h0 (0 : Int32) hG) (cwV 1 hts (gdV ml_X7_48 im_X7_start se_X7_X7_start in_X7 co_X7_start rfl) rfl rfl rfl (by decide +kernel) ⟨Nat.le_of_ble_eq_true rfl, Nat.le_of_ble_eq_true rfl⟩) hT (fun U hU hW => hK.go hW hS hAz hU) (va_recv hK.1 (va_one ha_6) (ci := 7) (q0 := 0) rfl rfl) rfl rfl hl.1 rfl (lv_room (Nat.le_of_ble_eq_true rfl)) dX7_clear_9 ⟨Nat.le_of_ble_eq_true rfl, Nat.le_of_ble_eq_true rfl⟩) hS (fun q _ h => mL (L' := [9]) (L := [9, 11]) (by decide) h) (fun q h => mL (L' := [9]) (L := [9, 11]) (by decide) h) (fun U_8 t H locs ht hvm hwr_7 hB hz hk hS => ?_)
  have hT : TX E G U_8 R H := by rw [ht] at hB; exact hB
  have hWr_7 : TW G U_8 R := hwr_7.1
  have hW := hWr_7
  have hFr_7 : Fr G [9] U_5 U_8 := hwr_7.2.1
  have hCr_7 : C_X7_start G U_5 R h0 (0 : Int32) U_8 := hwr_7.2.2
  refine lv_aload_n hx hb dX7_clear_12 rfl (lv_at hl 0 rfl) ?_
  refine lv_iconst (v := 0) hx hb dX7_clear_13 (by decide) ?_
  have ha_9 := tx_9 hT hG
  refine rr_put (D := DG E) (ci := 7) (v := .int 0) (ty := .int) (C := RX7) (T := TX7) (N := 14) hx hb hts iw_X7 tyX7 tyX7_ok nmX7 hown hK.1 ha_9 hS (by show G h0 ∈ ([9, 11] : List Nat); rw [hG]; decide) rfl 10 (by decide) (hts _ fl_X7_52) (fun _ h9 => h9) rfl (by decide +kernel) rfl rfl (Nat.le_of_ble_eq_true rfl) dX7_clear_14 (fun H locs hn ho hz hS => ?_)
  obtain ⟨B_10, eB_10⟩ : ∃ z : AA, z = uA U_8 h0 (upd (U_8 h0) 10 0) := ⟨_, rfl⟩
  have sB_10 : B_10 h0 10 = 0 := by rw [eB_10, uA_s]; exact upd_s
  have nB_10 : ∀ k, k ≠ 10 → B_10 h0 k = U_8 h0 k := fun k hk => by rw [eB_10, uA_s]; exact upd_n hk
  have fB_10 : ∀ c, G c ≠ 9 → B_10 c = U_8 c := fun c hc => by rw [eB_10]; exact uA_n (fun e => hc (by rw [e]; exact hG))
  have hT : TX E G B_10 R H := by rw [eB_10]; exact hT.w (by rw [hG]; exact hn) ho
  have hWB_10 : TW G B_10 R := by rw [eB_10]; exact hWr_7.w (by rw [hG]; exact tw_9 hWr_7 hG)
  have hW := hWB_10
  refine lv_aload_n hx hb dX7_clear_17 rfl (lv_at hl 0 rfl) ?_
  refine lv_iconst (v := 0) hx hb dX7_clear_18 (by decide) ?_
  have ha_11 := tx_9 hT hG
  refine rr_put (D := DG E) (ci := 7) (v := .int 0) (ty := .int) (C := RX7) (T := TX7) (N := 14) hx hb hts iw_X7 tyX7 tyX7_ok nmX7 hown hK.1 ha_11 hS (by show G h0 ∈ ([9, 11] : List Nat); rw [hG]; decide) rfl 11 (by decide) (hts _ fl_X7_55) (fun _ h9 => h9) rfl (by decide +kernel) rfl rfl (Nat.le_of_ble_eq_true rfl) dX7_clear_19 (fun H locs hn ho hz hS => ?_)
  obtain ⟨B_12, eB_12⟩ : ∃ z : AA, z = uA B_10 h0 (upd (B_10 h0) 11 0) := ⟨_, rfl⟩
  have sB_12 : B_12 h0 11 = 0 := by rw [eB_12, uA_s]; exact upd_s
  have nB_12 : ∀ k, k ≠ 11 → B_12 h0 k = B_10 h0 k := fun k hk => by rw [eB_12, uA_s]; exact upd_n hk
  have fB_12 : ∀ c, G c ≠ 9 → B_12 c = B_10 c := fun c hc => by rw [eB_12]; exact uA_n (fun e => hc (by rw [e]; exact hG))
  have hT : TX E G B_12 R H := by rw [eB_12]; exact hT.w (by rw [hG]; exact hn) ho
  have hWB_12 : TW G B_12 R := by rw [eB_12]; exact hWB_10.w (by rw [hG]; exact tw_9 hWB_10 hG)
  have hW := hWB_12
  refine lv_aload_n hx hb dX7_clear_22 rfl (lv_at hl 0 rfl) ?_
  refine lv_iconst (v := 0) hx hb dX7_clear_23 (by decide) ?_
  have ha_13 := tx_9 hT hG
  refine rr_put (D := DG E) (ci := 7) (v := .int 0) (ty := .int) (C := RX7) (T := TX7) (N := 14) hx hb hts iw_X7 tyX7 tyX7_ok nmX7 hown hK.1 ha_13 hS (by show G h0 ∈ ([9, 11] : List Nat); rw [hG]; decide) rfl 12 (by decide) (hts _ fl_X7_58) (fun _ h9 => h9) rfl (by decide +kernel) rfl rfl (Nat.le_of_ble_eq_true rfl) dX7_clear_24 (fun H locs hn ho hz hS => ?_)
  obtain ⟨B_14, eB_14⟩ : ∃ z : AA, z = uA B_12 h0 (upd (B_12 h0) 12 0) := ⟨_, rfl⟩
  have sB_14 : B_14 h0 12 = 0 := by rw [eB_14, uA_s]; exact upd_s
  have nB_14 : ∀ k, k ≠ 12 → B_14 h0 k = B_12 h0 k := fun k hk => by rw [eB_14, uA_s]; exact upd_n hk
  have fB_14 : ∀ c, G c ≠ 9 → B_14 c = B_12 c := fun c hc => by rw [eB_14]; exact uA_n (fun e => hc (by rw [e]; exact hG))
  have hT : TX E G B_14 R H := by rw [eB_14]; exact hT.w (by rw [hG]; exact hn) ho
  have hWB_14 : TW G B_14 R := by rw [eB_14]; exact hWB_12.w (by rw [hG]; exact tw_9 hWB_12 hG)
  have hW := hWB_14
  refine lv_aload_n hx hb dX7_clear_27 rfl (lv_at hl 0 rfl) ?_
  refine lv_iconst (v := 0) hx hb dX7_clear_28 (by decide) ?_
  have ha_15 := tx_9 hT hG
  refine rr_put (D := DG E) (ci := 7) (v := .int 0) (ty := .boolean) (C := RX7) (T := TX7) (N := 14) hx hb hts iw_X7 tyX7 tyX7_ok nmX7 hown hK.1 ha_15 hS (by show G h0 ∈ ([9, 11] : List Nat); rw [hG]; decide) rfl 13 (by decide) (hts _ fl_X7_61) (fun _ h9 => h9) rfl (by decide +kernel) rfl rfl (Nat.le_of_ble_eq_true rfl) dX7_clear_29 (fun H locs hn ho hz hS => ?_)
  obtain ⟨B_16, eB_16⟩ : ∃ z : AA, z = uA B_14 h0 (upd (B_14 h0) 13 0) := ⟨_, rfl⟩
  have sB_16 : B_16 h0 13 = 0 := by rw [eB_16, uA_s]; exact upd_s
  have nB_16 : ∀ k, k ≠ 13 → B_16 h0 k = B_14 h0 k := fun k hk => by rw [eB_16, uA_s]; exact upd_n hk
  have fB_16 : ∀ c, G c ≠ 9 → B_16 c = B_14 c := fun c hc => by rw [eB_16]; exact uA_n (fun e => hc (by rw [e]; exact hG))
  have hT : TX E G B_16 R H := by rw [eB_16]; exact hT.w (by rw [hG]; exact hn) ho
  have hWB_16 : TW G B_16 R := by rw [eB_16]; exact hWB_14.w (by rw [hG]; exact tw_9 hWB_14 hG)
  have hW := hWB_16
  exact W.vret hx hb hr (fun t ht hW9 => ⟨⟨B_16, rfl, ⟨hW, (Fr.w (Fr.w (Fr.w (Fr.w (Fr.c (Fr.c Fr.rf hFr_4 (by decide)) hFr_7 (by decide)) hG (by decide) eB_10) hG (by decide) eB_12) hG (by decide) eB_14) hG (by decide) eB_16), ⟨U_5, hFr_4, hCr_4, U_8, hFr_7, hCr_7, B_10, eB_10, B_12, eB_12, B_14, eB_14, B_16, eB_16, rfl⟩⟩, (by show TX E G B_16 R t.heap; rw [ht]; exact hT)⟩, hS.F ht⟩) hS.2.2 dX7_clear_32
theorem gdX7_post_0 : (decode cX7_post 0 = .ok (.aload_n 0, 1)) ∧ (decode cX7_post 1 = .ok (.getfield 41, 3)) ∧ (decode cX7_post 4 = .ok (.iload_n 1, 1)) ∧ (decode cX7_post 5 = .ok (.iload_n 2, 1)) ∧ (decode cX7_post 6 = .ok (.iload_n 3, 1)) ∧ (decode cX7_post 7 = .ok (.invokevirtual 74, 3)) ∧ (decode cX7_post 10 = .ok (.astore 7, 2)) ∧ (decode cX7_post 12 = .ok (.aload 7, 2)) ∧ (decode cX7_post 14 = .ok (.aload_n 0, 1)) ∧ (decode cX7_post 15 = .ok (.getfield 65, 3)) ∧ (decode cX7_post 18 = .ok (.putfield 78, 3)) ∧ (decode cX7_post 21 = .ok (.aload 7, 2)) ∧ (decode cX7_post 23 = .ok (.iload_n 3, 1)) ∧ (decode cX7_post 24 = .ok (.invokestatic 83, 3)) ∧ (decode cX7_post 27 = .ok (.putfield 86, 3)) ∧ (decode cX7_post 30 = .ok (.aload 7, 2)) := by decide +kernel
theorem dX7_post_0 : decode cX7_post 0 = .ok (.aload_n 0, 1) := gdX7_post_0.1
theorem dX7_post_1 : decode cX7_post 1 = .ok (.getfield 41, 3) := gdX7_post_0.2.1
theorem dX7_post_4 : decode cX7_post 4 = .ok (.iload_n 1, 1) := gdX7_post_0.2.2.1
theorem dX7_post_5 : decode cX7_post 5 = .ok (.iload_n 2, 1) := gdX7_post_0.2.2.2.1
theorem dX7_post_6 : decode cX7_post 6 = .ok (.iload_n 3, 1) := gdX7_post_0.2.2.2.2.1
theorem dX7_post_7 : decode cX7_post 7 = .ok (.invokevirtual 74, 3) := gdX7_post_0.2.2.2.2.2.1
theorem dX7_post_10 : decode cX7_post 10 = .ok (.astore 7, 2) := gdX7_post_0.2.2.2.2.2.2.1
theorem dX7_post_12 : decode cX7_post 12 = .ok (.aload 7, 2) := gdX7_post_0.2.2.2.2.2.2.2.1
theorem dX7_post_14 : decode cX7_post 14 = .ok (.aload_n 0, 1) := gdX7_post_0.2.2.2.2.2.2.2.2.1
theorem dX7_post_15 : decode cX7_post 15 = .ok (.getfield 65, 3) := gdX7_post_0.2.2.2.2.2.2.2.2.2.1
theorem dX7_post_18 : decode cX7_post 18 = .ok (.putfield 78, 3) := gdX7_post_0.2.2.2.2.2.2.2.2.2.2.1
theorem dX7_post_21 : decode cX7_post 21 = .ok (.aload 7, 2) := gdX7_post_0.2.2.2.2.2.2.2.2.2.2.2.1
theorem dX7_post_23 : decode cX7_post 23 = .ok (.iload_n 3, 1) := gdX7_post_0.2.2.2.2.2.2.2.2.2.2.2.2.1
theorem dX7_post_24 : decode cX7_post 24 = .ok (.invokestatic 83, 3) := gdX7_post_0.2.2.2.2.2.2.2.2.2.2.2.2.2.1
theorem dX7_post_27 : decode cX7_post 27 = .ok (.putfield 86, 3) := gdX7_post_0.2.2.2.2.2.2.2.2.2.2.2.2.2.2.1
theorem dX7_post_30 : decode cX7_post 30 = .ok (.aload 7, 2) := gdX7_post_0.2.2.2.2.2.2.2.2.2.2.2.2.2.2.2
theorem gdX7_post_32 : (decode cX7_post 32 = .ok (.iload 4, 2)) ∧ (decode cX7_post 34 = .ok (.putfield 89, 3)) ∧ (decode cX7_post 37 = .ok (.aload 7, 2)) ∧ (decode cX7_post 39 = .ok (.iload 5, 2)) ∧ (decode cX7_post 41 = .ok (.putfield 92, 3)) ∧ (decode cX7_post 44 = .ok (.aload 7, 2)) ∧ (decode cX7_post 46 = .ok (.iload 6, 2)) ∧ (decode cX7_post 48 = .ok (.putfield 95, 3)) ∧ (decode cX7_post 51 = .ok (.aload_n 0, 1)) ∧ (decode cX7_post 52 = .ok (.aload_n 0, 1)) ∧ (decode cX7_post 53 = .ok (.getfield 65, 3)) ∧ (decode cX7_post 56 = .ok (.aload 7, 2)) ∧ (decode cX7_post 58 = .ok (.getfield 86, 3)) ∧ (decode cX7_post 61 = .ok (.invokestatic 98, 3)) ∧ (decode cX7_post 64 = .ok (.putfield 65, 3)) ∧ (decode cX7_post 67 = .ok (.aload 7, 2)) := by decide +kernel
theorem dX7_post_32 : decode cX7_post 32 = .ok (.iload 4, 2) := gdX7_post_32.1
theorem dX7_post_34 : decode cX7_post 34 = .ok (.putfield 89, 3) := gdX7_post_32.2.1
theorem dX7_post_37 : decode cX7_post 37 = .ok (.aload 7, 2) := gdX7_post_32.2.2.1
theorem dX7_post_39 : decode cX7_post 39 = .ok (.iload 5, 2) := gdX7_post_32.2.2.2.1
theorem dX7_post_41 : decode cX7_post 41 = .ok (.putfield 92, 3) := gdX7_post_32.2.2.2.2.1
theorem dX7_post_44 : decode cX7_post 44 = .ok (.aload 7, 2) := gdX7_post_32.2.2.2.2.2.1
theorem dX7_post_46 : decode cX7_post 46 = .ok (.iload 6, 2) := gdX7_post_32.2.2.2.2.2.2.1
theorem dX7_post_48 : decode cX7_post 48 = .ok (.putfield 95, 3) := gdX7_post_32.2.2.2.2.2.2.2.1
theorem dX7_post_51 : decode cX7_post 51 = .ok (.aload_n 0, 1) := gdX7_post_32.2.2.2.2.2.2.2.2.1
theorem dX7_post_52 : decode cX7_post 52 = .ok (.aload_n 0, 1) := gdX7_post_32.2.2.2.2.2.2.2.2.2.1
theorem dX7_post_53 : decode cX7_post 53 = .ok (.getfield 65, 3) := gdX7_post_32.2.2.2.2.2.2.2.2.2.2.1
theorem dX7_post_56 : decode cX7_post 56 = .ok (.aload 7, 2) := gdX7_post_32.2.2.2.2.2.2.2.2.2.2.2.1
theorem dX7_post_58 : decode cX7_post 58 = .ok (.getfield 86, 3) := gdX7_post_32.2.2.2.2.2.2.2.2.2.2.2.2.1
theorem dX7_post_61 : decode cX7_post 61 = .ok (.invokestatic 98, 3) := gdX7_post_32.2.2.2.2.2.2.2.2.2.2.2.2.2.1
theorem dX7_post_64 : decode cX7_post 64 = .ok (.putfield 65, 3) := gdX7_post_32.2.2.2.2.2.2.2.2.2.2.2.2.2.2.1
theorem dX7_post_67 : decode cX7_post 67 = .ok (.aload 7, 2) := gdX7_post_32.2.2.2.2.2.2.2.2.2.2.2.2.2.2.2
theorem dX7_post_69 : decode cX7_post 69 = .ok (.getfield 102, 3) := by decide +kernel
theorem dX7_post_72 : decode cX7_post 72 = .ok (.ireturn, 1) := by decide +kernel
set_option maxHeartbeats 8000000 in
set_option maxRecDepth 100000 in
theorem x_X7_post (l : Launch) (E : EE) (z0 : Nat) (G : Nat → Nat) (hGz : ∀ q, G q ≠ 0 → z0 ≤ q) (B : AA) (R : RR) (hW : TW G B R) (h0 : Nat) (p0 : Int32) (p1 : Int32) (p2 : Int32) (p3 : Int32) (p4 : Int32) (p5 : Int32) (hG : G h0 = 9) (hy0 : 0 ≤ p2.toInt ∧ p2.toInt ≤ 12) (hy1 : (B (R h0 6) 4).toInt ≤ 3) : Met l yX7_post [Cond.code yX7_post cX7_post 8 (some .int)] ({ frames := 2, cells := 0, slots := 0, locals := 45 } : Room) (va_Pc [.ref h0, .int p0, .int p1, .int p2, .int p3, .int p4, .int p5] (fun U => TX E G B R U.heap ∧ KS E z0 U)) (va_Qi (fun (r : Int32) (u : AA) => (TW G u R) ∧ (Fr G ([9, 11, 13] : List Nat) B u) ∧ (C_X7_post G B R h0 p0 p1 p2 p3 p4 p5 u r)) (fun u t => TX E G u R t.heap) (fun q : Nat => G q ∈ ([9, 11, 13] : List Nat))) 0 0 (fun q : Nat => G q ∈ ([9, 11, 13] : List Nat)) := by
  refine Met.ofW (cc := cX7_post) (maxL := 8) (ret := (some .int)) (by decide) rfl ?_
  intro p e s m args below meth c s₁ B9 hml hv
  obtain ⟨rfl, hT, hK⟩ := hv
  have hx := B9.exec
  have hb := B9.bytes
  have hr := B9.returns
  have hts : ∀ w ∈ TS, w.before ([.ref h0, .int p0, .int p1, .int p2, .int p3, .int p4, .int p5] : List Value).toArray s = true := fun w hw => hK.2.1 w hw _
  have hown : s.vm.findClass RX7 = some m.cls := findClass_of_methodNamed B9.named
  have hlocks := B9.notSynchronized
  have hS : va_S (fun q : Nat => G q ∈ ([9, 11, 13] : List Nat)) s.heap s.heap [] := va_S.rf
  have hAz : ∀ q, (fun q : Nat => G q ∈ ([9, 11, 13] : List Nat)) q → z0 ≤ q := zL hGz (by decide)
  have hW_0 := hW
  have hl := lv_entry ([.ref h0, .int p0, .int p1, .int p2, .int p3, .int p4, .int p5]) (n := 8) (Nat.le_of_ble_eq_true rfl)
  rw [lg_entry_eq]
  generalize (lg_sl ([.ref h0, .int p0, .int p1, .int p2, .int p3, .int p4, .int p5]) ++ List.replicate (8 - (lg_sl ([.ref h0, .int p0, .int p1, .int p2, .int p3, .int p4, .int p5])).length) Slot.unset).toArray = ls at hl ⊢
  have hl : lv_has ls 8 [(0, .ref h0), (1, .int p0), (2, .int p1), (3, .int p2), (4, .int p3), (5, .int p4), (6, .int p5)] := hl
  refine lv_aload_n hx hb dX7_post_0 rfl (lv_at hl 0 rfl) ?_
  have ha_1 := tx_9 hT hG
  have hg_2 : G (R h0 6) = 11 := (tw_9 hW hG).2.2.2
  refine va_get (D := DG E) (ci := 7) (v := .ref (R h0 6)) (C := RX7) (T := TX7) (N := 14) hx hb hts iw_X7 hown hK.1 (va_one ha_1) 0 rfl rfl 6 (by decide) (hts _ fl_X7_41) (fun _ h9 => h9) rfl dX7_post_1 ?_
  refine lv_iload_n hx hb dX7_post_4 rfl (lv_at hl 1 rfl) ?_
  refine lv_iload_n hx hb dX7_post_5 rfl (lv_at hl 2 rfl) ?_
  refine lv_iload_n hx hb dX7_post_6 rfl (lv_at hl 3 rfl) ?_
  have hb_3 := (tw_11 hW_0 hg_2).2.2.2
  have ha_4 := tx_11 hT hg_2
  refine va_callr (rnV (fun H => TX E G B R H) (As := [.int p0, .int p1, .int p2]) (rest := []) ⟨hx, hb, hml, hown, hts⟩ (x_X5_append l E z0 G hGz B R hW (R h0 6) p0 p1 p2 hg_2 (show 0 ≤ p2.toInt ∧ p2.toInt ≤ 12 from by first | decide | omega) (show (B (R h0 6) 4).toInt ≤ 3 from by first | decide | omega)) (cwV 3 hts (gdV ml_X7_74 im_X5_append se_X5_X5_append in_X5 co_X5_append rfl) rfl rfl rfl (by decide +kernel) ⟨Nat.le_of_ble_eq_true rfl, Nat.le_of_ble_eq_true rfl⟩) hT (fun U hU hW => hK.go hW hS hAz hU) (va_recv hK.1 (va_one ha_4) (ci := 5) (q0 := 0) rfl rfl) rfl rfl hl.1 rfl (lv_room (Nat.le_of_ble_eq_true rfl)) dX7_post_7 ⟨Nat.le_of_ble_eq_true rfl, Nat.le_of_ble_eq_true rfl⟩) hS (fun q _ h => mL (L' := [11, 13]) (L := [9, 11, 13]) (by decide) h) (fun q h => mL (L' := [11, 13]) (L := [9, 11, 13]) (by decide) h) (fun U_6 r_5 t H locs ht hvm hwr_5 hB hz hk hS => ?_)
  have hRr_5 := hB.1
  have hB := hB.2
  have hT : TX E G U_6 R H := by rw [ht] at hB; exact hB
  have hgr_5 : G r_5 = 13 := hRr_5.1
  have hWr_5 : TW G U_6 R := hRr_5.2.1
  have hW := hWr_5
  have hFr_5 : Fr G [11, 13] B U_6 := hRr_5.2.2.1
  have hCr_5 : C_X5_append G B R (R h0 6) p0 p1 p2 U_6 r_5 := hRr_5.2.2.2
  refine lv_astore (lv' := [(7, .ref r_5), (0, .ref h0), (1, .int p0), (2, .int p1), (3, .int p2), (4, .int p3), (5, .int p4), (6, .int p5)]) hx hb dX7_post_10 hl (by decide) rfl (fun ls hl => ?_)
  refine lv_aload hx hb dX7_post_12 (lv_at hl 0 rfl) ?_
  refine lv_aload_n hx hb dX7_post_14 rfl (lv_at hl 1 rfl) ?_
  have ha_7 := tx_9 hT hG
  have l_8 : U_6 h0 7 = (B h0 7) := (congrFun (hFr_5 h0 (by rw [hG]; decide)) 7)
  refine va_get (D := DG E) (ci := 7) (v := .int (U_6 h0 7)) (C := RX7) (T := TX7) (N := 14) hx hb hts iw_X7 hown hK.1 (va_one ha_7) 0 rfl rfl 7 (by decide) (hts _ fl_X7_65) (fun _ h9 => h9) rfl dX7_post_15 ?_
  refine W.eq (g2 := F0 m 18 ls [.int (B h0 7), .ref r_5]) (by rw [l_8]) ?_
  have ha_9 := tx_13 hT hgr_5
  refine rr_put (D := DG E) (ci := 4) (v := .int (B h0 7)) (ty := .int) (C := RX4) (T := TX4) (N := 10) hx hb hts iw_X4 tyX4 tyX4_ok nmX4 hown hK.1 ha_9 hS (by show G r_5 ∈ ([9, 11, 13] : List Nat); rw [hgr_5]; decide) rfl 4 (by decide) (hts _ fl_X7_78) (fun _ h9 => h9) rfl (by decide +kernel) rfl rfl (Nat.le_of_ble_eq_true rfl) dX7_post_18 (fun H locs hn ho hz hS => ?_)
  obtain ⟨B_10, eB_10⟩ : ∃ z : AA, z = uA U_6 r_5 (upd (U_6 r_5) 4 (B h0 7)) := ⟨_, rfl⟩
  have sB_10 : B_10 r_5 4 = (B h0 7) := by rw [eB_10, uA_s]; exact upd_s
  have nB_10 : ∀ k, k ≠ 4 → B_10 r_5 k = U_6 r_5 k := fun k hk => by rw [eB_10, uA_s]; exact upd_n hk
  have fB_10 : ∀ c, G c ≠ 13 → B_10 c = U_6 c := fun c hc => by rw [eB_10]; exact uA_n (fun e => hc (by rw [e]; exact hgr_5))
  have hT : TX E G B_10 R H := by rw [eB_10]; exact hT.w (by rw [hgr_5]; exact hn) ho
  have hWB_10 : TW G B_10 R := by rw [eB_10]; exact hWr_5.w (by rw [hgr_5]; exact tw_13 hWr_5 hgr_5)
  have hW := hWB_10
  refine lv_aload hx hb dX7_post_21 (lv_at hl 0 rfl) ?_
  refine lv_iload_n hx hb dX7_post_23 rfl (lv_at hl 4 rfl) ?_
  refine rnSN (As := [.int p2]) (rest := [.ref r_5]) ⟨hx, hb, hml, hown, hts⟩ (c_X9_numbersFor l p2) ⟨va_cnB (host := RX9) 1 hts (gd1 co_X9_numbersFor rfl) rfl rfl rfl (hK.2.1 _ mn_X7_83 #[]) (hts _ in_X9) (by decide +kernel) ⟨Nat.le_of_ble_eq_true rfl, Nat.le_of_ble_eq_true rfl⟩, hts _ st_X9_numbersFor, trivial⟩ rfl rfl hl.1 rfl (lv_room (Nat.le_of_ble_eq_true rfl)) dX7_post_24 ⟨Nat.le_of_ble_eq_true rfl, Nat.le_of_ble_eq_true rfl⟩ ?_
  refine W.eq (g2 := F0 m 27 ls [.int (((p2 + 4) - 1) / 4), .ref r_5]) (by rfl) ?_
  refine lv_topi (fun x_11 ex_11 => ?_)
  have ha_12 := tx_13 hT hgr_5
  refine rr_put (D := DG E) (ci := 4) (v := .int x_11) (ty := .int) (C := RX4) (T := TX4) (N := 10) hx hb hts iw_X4 tyX4 tyX4_ok nmX4 hown hK.1 ha_12 hS (by show G r_5 ∈ ([9, 11, 13] : List Nat); rw [hgr_5]; decide) rfl 5 (by decide) (hts _ fl_X7_86) (fun _ h9 => h9) rfl (by decide +kernel) rfl rfl (Nat.le_of_ble_eq_true rfl) dX7_post_27 (fun H locs hn ho hz hS => ?_)
  obtain ⟨B_13, eB_13⟩ : ∃ z : AA, z = uA B_10 r_5 (upd (B_10 r_5) 5 x_11) := ⟨_, rfl⟩
  have sB_13 : B_13 r_5 5 = x_11 := by rw [eB_13, uA_s]; exact upd_s
  have nB_13 : ∀ k, k ≠ 5 → B_13 r_5 k = B_10 r_5 k := fun k hk => by rw [eB_13, uA_s]; exact upd_n hk
  have fB_13 : ∀ c, G c ≠ 13 → B_13 c = B_10 c := fun c hc => by rw [eB_13]; exact uA_n (fun e => hc (by rw [e]; exact hgr_5))
  have hT : TX E G B_13 R H := by rw [eB_13]; exact hT.w (by rw [hgr_5]; exact hn) ho
  have hWB_13 : TW G B_13 R := by rw [eB_13]; exact hWB_10.w (by rw [hgr_5]; exact tw_13 hWB_10 hgr_5)
  have hW := hWB_13
  refine lv_aload hx hb dX7_post_30 (lv_at hl 0 rfl) ?_
  refine lv_iload hx hb dX7_post_32 (lv_at hl 5 rfl) ?_
  have ha_14 := tx_13 hT hgr_5
  refine rr_put (D := DG E) (ci := 4) (v := .int p3) (ty := .int) (C := RX4) (T := TX4) (N := 10) hx hb hts iw_X4 tyX4 tyX4_ok nmX4 hown hK.1 ha_14 hS (by show G r_5 ∈ ([9, 11, 13] : List Nat); rw [hgr_5]; decide) rfl 6 (by decide) (hts _ fl_X7_89) (fun _ h9 => h9) rfl (by decide +kernel) rfl rfl (Nat.le_of_ble_eq_true rfl) dX7_post_34 (fun H locs hn ho hz hS => ?_)
  obtain ⟨B_15, eB_15⟩ : ∃ z : AA, z = uA B_13 r_5 (upd (B_13 r_5) 6 p3) := ⟨_, rfl⟩
  have sB_15 : B_15 r_5 6 = p3 := by rw [eB_15, uA_s]; exact upd_s
  have nB_15 : ∀ k, k ≠ 6 → B_15 r_5 k = B_13 r_5 k := fun k hk => by rw [eB_15, uA_s]; exact upd_n hk
  have fB_15 : ∀ c, G c ≠ 13 → B_15 c = B_13 c := fun c hc => by rw [eB_15]; exact uA_n (fun e => hc (by rw [e]; exact hgr_5))
  have hT : TX E G B_15 R H := by rw [eB_15]; exact hT.w (by rw [hgr_5]; exact hn) ho
  have hWB_15 : TW G B_15 R := by rw [eB_15]; exact hWB_13.w (by rw [hgr_5]; exact tw_13 hWB_13 hgr_5)
  have hW := hWB_15
  refine lv_aload hx hb dX7_post_37 (lv_at hl 0 rfl) ?_
  refine lv_iload hx hb dX7_post_39 (lv_at hl 6 rfl) ?_
  have ha_16 := tx_13 hT hgr_5
  refine rr_put (D := DG E) (ci := 4) (v := .int p4) (ty := .int) (C := RX4) (T := TX4) (N := 10) hx hb hts iw_X4 tyX4 tyX4_ok nmX4 hown hK.1 ha_16 hS (by show G r_5 ∈ ([9, 11, 13] : List Nat); rw [hgr_5]; decide) rfl 7 (by decide) (hts _ fl_X7_92) (fun _ h9 => h9) rfl (by decide +kernel) rfl rfl (Nat.le_of_ble_eq_true rfl) dX7_post_41 (fun H locs hn ho hz hS => ?_)
  obtain ⟨B_17, eB_17⟩ : ∃ z : AA, z = uA B_15 r_5 (upd (B_15 r_5) 7 p4) := ⟨_, rfl⟩
  have sB_17 : B_17 r_5 7 = p4 := by rw [eB_17, uA_s]; exact upd_s
  have nB_17 : ∀ k, k ≠ 7 → B_17 r_5 k = B_15 r_5 k := fun k hk => by rw [eB_17, uA_s]; exact upd_n hk
  have fB_17 : ∀ c, G c ≠ 13 → B_17 c = B_15 c := fun c hc => by rw [eB_17]; exact uA_n (fun e => hc (by rw [e]; exact hgr_5))
  have hT : TX E G B_17 R H := by rw [eB_17]; exact hT.w (by rw [hgr_5]; exact hn) ho
  have hWB_17 : TW G B_17 R := by rw [eB_17]; exact hWB_15.w (by rw [hgr_5]; exact tw_13 hWB_15 hgr_5)
  have hW := hWB_17
  refine lv_aload hx hb dX7_post_44 (lv_at hl 0 rfl) ?_
  refine lv_iload hx hb dX7_post_46 (lv_at hl 7 rfl) ?_
  have ha_18 := tx_13 hT hgr_5
  refine rr_put (D := DG E) (ci := 4) (v := .int p5) (ty := .int) (C := RX4) (T := TX4) (N := 10) hx hb hts iw_X4 tyX4 tyX4_ok nmX4 hown hK.1 ha_18 hS (by show G r_5 ∈ ([9, 11, 13] : List Nat); rw [hgr_5]; decide) rfl 8 (by decide) (hts _ fl_X7_95) (fun _ h9 => h9) rfl (by decide +kernel) rfl rfl (Nat.le_of_ble_eq_true rfl) dX7_post_48 (fun H locs hn ho hz hS => ?_)
  obtain ⟨B_19, eB_19⟩ : ∃ z : AA, z = uA B_17 r_5 (upd (B_17 r_5) 8 p5) := ⟨_, rfl⟩
  have sB_19 : B_19 r_5 8 = p5 := by rw [eB_19, uA_s]; exact upd_s
  have nB_19 : ∀ k, k ≠ 8 → B_19 r_5 k = B_17 r_5 k := fun k hk => by rw [eB_19, uA_s]; exact upd_n hk
  have fB_19 : ∀ c, G c ≠ 13 → B_19 c = B_17 c := fun c hc => by rw [eB_19]; exact uA_n (fun e => hc (by rw [e]; exact hgr_5))
  have hT : TX E G B_19 R H := by rw [eB_19]; exact hT.w (by rw [hgr_5]; exact hn) ho
  have hWB_19 : TW G B_19 R := by rw [eB_19]; exact hWB_17.w (by rw [hgr_5]; exact tw_13 hWB_17 hgr_5)
  have hW := hWB_19
  refine lv_aload_n hx hb dX7_post_51 rfl (lv_at hl 1 rfl) ?_
  refine lv_aload_n hx hb dX7_post_52 rfl (lv_at hl 1 rfl) ?_
  have ha_20 := tx_9 hT hG
  have l_21 : B_19 h0 7 = (B h0 7) := ((congrFun (fB_19 h0 (by rw [hG]; decide)) 7)).trans (((congrFun (fB_17 h0 (by rw [hG]; decide)) 7)).trans (((congrFun (fB_15 h0 (by rw [hG]; decide)) 7)).trans (((congrFun (fB_13 h0 (by rw [hG]; decide)) 7)).trans (((congrFun (fB_10 h0 (by rw [hG]; decide)) 7)).trans ((congrFun (hFr_5 h0 (by rw [hG]; decide)) 7))))))
  refine va_get (D := DG E) (ci := 7) (v := .int (B_19 h0 7)) (C := RX7) (T := TX7) (N := 14) hx hb hts iw_X7 hown hK.1 (va_one ha_20) 0 rfl rfl 7 (by decide) (hts _ fl_X7_65) (fun _ h9 => h9) rfl dX7_post_53 ?_
  refine W.eq (g2 := F0 m 56 ls [.int (B h0 7), .ref h0]) (by rw [l_21]) ?_
  refine lv_aload hx hb dX7_post_56 (lv_at hl 0 rfl) ?_
  have ha_22 := tx_13 hT hgr_5
  have l_23 : B_19 r_5 5 = x_11 := ((nB_19 5 (by decide))).trans (((nB_17 5 (by decide))).trans (((nB_15 5 (by decide))).trans (sB_13)))
  refine va_get (D := DG E) (ci := 4) (v := .int (B_19 r_5 5)) (C := RX4) (T := TX4) (N := 10) hx hb hts iw_X4 hown hK.1 (va_one ha_22) 0 rfl rfl 5 (by decide) (hts _ fl_X7_86) (fun _ h9 => h9) rfl dX7_post_58 ?_
  refine W.eq (g2 := F0 m 61 ls [.int x_11, .int (B h0 7), .ref h0]) (by rw [l_23]) ?_
  refine rnSN (As := [.int (B h0 7), .int x_11]) (rest := [.ref h0]) ⟨hx, hb, hml, hown, hts⟩ (c_X9_after l ((B h0 7)) x_11) ⟨va_cnB (host := RX9) 2 hts (gd1 co_X9_after rfl) rfl rfl rfl (hK.2.1 _ mn_X7_98 #[]) (hts _ in_X9) (by decide +kernel) ⟨Nat.le_of_ble_eq_true rfl, Nat.le_of_ble_eq_true rfl⟩, hts _ st_X9_after, trivial⟩ rfl rfl hl.1 rfl (lv_room (Nat.le_of_ble_eq_true rfl)) dX7_post_61 ⟨Nat.le_of_ble_eq_true rfl, Nat.le_of_ble_eq_true rfl⟩ ?_
  refine W.eq (g2 := F0 m 64 ls [.int (((B h0 7) + x_11) &&& 63), .ref h0]) (by rfl) ?_
  refine lv_topi (fun x_24 ex_24 => ?_)
  have fx_24 := s_and63 ((B h0 7) + x_11); rw [← ex_24] at fx_24
  refine rr_put (D := DG E) (ci := 7) (v := .int x_24) (ty := .int) (C := RX7) (T := TX7) (N := 14) hx hb hts iw_X7 tyX7 tyX7_ok nmX7 hown hK.1 ha_20 hS (by show G h0 ∈ ([9, 11, 13] : List Nat); rw [hG]; decide) rfl 7 (by decide) (hts _ fl_X7_65) (fun _ h9 => h9) rfl (by decide +kernel) rfl rfl (Nat.le_of_ble_eq_true rfl) dX7_post_64 (fun H locs hn ho hz hS => ?_)
  obtain ⟨B_25, eB_25⟩ : ∃ z : AA, z = uA B_19 h0 (upd (B_19 h0) 7 x_24) := ⟨_, rfl⟩
  have sB_25 : B_25 h0 7 = x_24 := by rw [eB_25, uA_s]; exact upd_s
  have nB_25 : ∀ k, k ≠ 7 → B_25 h0 k = B_19 h0 k := fun k hk => by rw [eB_25, uA_s]; exact upd_n hk
  have fB_25 : ∀ c, G c ≠ 9 → B_25 c = B_19 c := fun c hc => by rw [eB_25]; exact uA_n (fun e => hc (by rw [e]; exact hG))
  have hT : TX E G B_25 R H := by rw [eB_25]; exact hT.w (by rw [hG]; exact hn) ho
  have hWB_25 : TW G B_25 R := by rw [eB_25]; exact hWB_19.w (by rw [hG]; exact tw_9 hWB_19 hG)
  have hW := hWB_25
  refine lv_aload hx hb dX7_post_67 (lv_at hl 0 rfl) ?_
  have ha_26 := tx_13 hT hgr_5
  have l_27 : B_25 r_5 1 = (U_6 r_5 1) := ((congrFun (fB_25 r_5 (by rw [hgr_5]; decide)) 1)).trans (((nB_19 1 (by decide))).trans (((nB_17 1 (by decide))).trans (((nB_15 1 (by decide))).trans (((nB_13 1 (by decide))).trans ((nB_10 1 (by decide)))))))
  refine va_get (D := DG E) (ci := 4) (v := .int (B_25 r_5 1)) (C := RX4) (T := TX4) (N := 10) hx hb hts iw_X4 hown hK.1 (va_one ha_26) 0 rfl rfl 1 (by decide) (hts _ fl_X7_102) (fun _ h9 => h9) rfl dX7_post_69 ?_
  refine W.eq (g2 := F0 m 72 ls [.int (U_6 r_5 1)]) (by rw [l_27]) ?_
  exact W.iret (v := (U_6 r_5 1)) hx hb hr (fun t ht hW9 => ⟨⟨(U_6 r_5 1), B_25, rfl, ⟨hW, (Fr.w (Fr.w (Fr.w (Fr.w (Fr.w (Fr.w (Fr.c Fr.rf hFr_5 (by decide)) hgr_5 (by decide) eB_10) hgr_5 (by decide) eB_13) hgr_5 (by decide) eB_15) hgr_5 (by decide) eB_17) hgr_5 (by decide) eB_19) hG (by decide) eB_25), ⟨r_5, U_6, hFr_5, hCr_5, B_10, eB_10, x_11, ex_11, B_13, eB_13, B_15, eB_15, B_17, eB_17, B_19, eB_19, x_24, ex_24, B_25, eB_25, rfl, rfl⟩⟩, (by show TX E G B_25 R t.heap; rw [ht]; exact hT)⟩, hS.F ht⟩) hS.2.2 dX7_post_72
theorem dX7_ownerOf_0 : decode cX7_ownerOf 0 = .ok (.iconst 0, 1) := by decide +kernel
theorem dX7_ownerOf_1 : decode cX7_ownerOf 1 = .ok (.istore_n 2, 1) := by decide +kernel
theorem dX7_ownerOf_2 : decode cX7_ownerOf 2 = .ok (.iload_n 2, 1) := by decide +kernel
theorem dX7_ownerOf_3 : decode cX7_ownerOf 3 = .ok (.aload_n 0, 1) := by decide +kernel
theorem dX7_ownerOf_4 : decode cX7_ownerOf 4 = .ok (.getfield 41, 3) := by decide +kernel
theorem dX7_ownerOf_7 : decode cX7_ownerOf 7 = .ok (.getfield 105, 3) := by decide +kernel
theorem dX7_ownerOf_10 : decode cX7_ownerOf 10 = .ok (.if_icmp .ge 35, 3) := by decide +kernel
theorem dX7_ownerOf_13 : decode cX7_ownerOf 13 = .ok (.aload_n 0, 1) := by decide +kernel
theorem dX7_ownerOf_14 : decode cX7_ownerOf 14 = .ok (.getfield 41, 3) := by decide +kernel
theorem dX7_ownerOf_17 : decode cX7_ownerOf 17 = .ok (.iload_n 2, 1) := by decide +kernel
theorem dX7_ownerOf_18 : decode cX7_ownerOf 18 = .ok (.invokevirtual 108, 3) := by decide +kernel
theorem dX7_ownerOf_21 : decode cX7_ownerOf 21 = .ok (.astore_n 3, 1) := by decide +kernel
theorem dX7_ownerOf_22 : decode cX7_ownerOf 22 = .ok (.aload_n 3, 1) := by decide +kernel
theorem dX7_ownerOf_23 : decode cX7_ownerOf 23 = .ok (.getfield 78, 3) := by decide +kernel
theorem dX7_ownerOf_26 : decode cX7_ownerOf 26 = .ok (.iload_n 1, 1) := by decide +kernel
theorem dX7_ownerOf_27 : decode cX7_ownerOf 27 = .ok (.invokestatic 112, 3) := by decide +kernel
theorem dX7_ownerOf_30 : decode cX7_ownerOf 30 = .ok (.aload_n 3, 1) := by decide +kernel
theorem dX7_ownerOf_31 : decode cX7_ownerOf 31 = .ok (.getfield 86, 3) := by decide +kernel
theorem dX7_ownerOf_34 : decode cX7_ownerOf 34 = .ok (.if_icmp .ge 5, 3) := by decide +kernel
theorem dX7_ownerOf_37 : decode cX7_ownerOf 37 = .ok (.iload_n 2, 1) := by decide +kernel
theorem dX7_ownerOf_38 : decode cX7_ownerOf 38 = .ok (.ireturn, 1) := by decide +kernel
theorem dX7_ownerOf_39 : decode cX7_ownerOf 39 = .ok (.iinc 2 1, 3) := by decide +kernel
theorem dX7_ownerOf_42 : decode cX7_ownerOf 42 = .ok (.goto (-40), 3) := by decide +kernel
theorem dX7_ownerOf_45 : decode cX7_ownerOf 45 = .ok (.iconst (-1), 1) := by decide +kernel
theorem dX7_ownerOf_46 : decode cX7_ownerOf 46 = .ok (.ireturn, 1) := by decide +kernel
set_option maxHeartbeats 8000000 in
set_option maxRecDepth 100000 in
theorem x_X7_ownerOf (l : Launch) (E : EE) (z0 : Nat) (G : Nat → Nat) (hGz : ∀ q, G q ≠ 0 → z0 ≤ q) (B : AA) (R : RR) (hW : TW G B R) (h0 : Nat) (p0 : Int32) (hG : G h0 = 9) : Met l yX7_ownerOf [Cond.code yX7_ownerOf cX7_ownerOf 4 (some .int)] ({ frames := 1, cells := 0, slots := 0, locals := 21 } : Room) (va_Pc [.ref h0, .int p0] (fun U => TX E G B R U.heap ∧ KS E z0 U)) (va_Qi (fun (r : Int32) (u : Unit) => (-1 ≤ r.toInt ∧ r.toInt ≤ 3) ∧ (C_X7_ownerOf G B R h0 p0 r)) (fun u t => True) (fun _ : Nat => False)) 0 0 (fun _ : Nat => False) := by
  refine Met.ofW (cc := cX7_ownerOf) (maxL := 4) (ret := (some .int)) (by decide) rfl ?_
  intro p e s m args below meth c s₁ B9 hml hv
  obtain ⟨rfl, hT, hK⟩ := hv
  have hx := B9.exec
  have hb := B9.bytes
  have hr := B9.returns
  have hts : ∀ w ∈ TS, w.before ([.ref h0, .int p0] : List Value).toArray s = true := fun w hw => hK.2.1 w hw _
  have hown : s.vm.findClass RX7 = some m.cls := findClass_of_methodNamed B9.named
  have hlocks := B9.notSynchronized
  have hS : va_S (fun _ : Nat => False) s.heap s.heap [] := va_S.rf
  have hAz : ∀ q, (fun _ : Nat => False) q → z0 ≤ q := fun _ h => h.elim
  have hW_0 := hW
  have hl := lv_entry ([.ref h0, .int p0]) (n := 4) (Nat.le_of_ble_eq_true rfl)
  rw [lg_entry_eq]
  generalize (lg_sl ([.ref h0, .int p0]) ++ List.replicate (4 - (lg_sl ([.ref h0, .int p0])).length) Slot.unset).toArray = ls at hl ⊢
  have hl : lv_has ls 4 [(0, .ref h0), (1, .int p0)] := hl
  refine lv_iconst (v := 0) hx hb dX7_ownerOf_0 (by decide) ?_
  refine lv_istore_n (lv' := [(2, .int 0), (0, .ref h0), (1, .int p0)]) hx hb dX7_ownerOf_1 rfl hl (by decide) rfl (fun ls hl => ?_)
  refine lv_iload_n hx hb dX7_ownerOf_2 rfl (lv_at hl 0 rfl) ?_
  refine lv_aload_n hx hb dX7_ownerOf_3 rfl (lv_at hl 1 rfl) ?_
  have ha_1 := tx_9 hT hG
  have hg_2 : G (R h0 6) = 11 := (tw_9 hW hG).2.2.2
  refine va_get (D := DG E) (ci := 7) (v := .ref (R h0 6)) (C := RX7) (T := TX7) (N := 14) hx hb hts iw_X7 hown hK.1 (va_one ha_1) 0 rfl rfl 6 (by decide) (hts _ fl_X7_41) (fun _ h9 => h9) rfl dX7_ownerOf_4 ?_
  have ha_3 := tx_11 hT hg_2
  have hb_4 := (tw_11 hW_0 hg_2).2.2.2
  refine va_get (D := DG E) (ci := 5) (v := .int (B (R h0 6) 4)) (C := RX5) (T := TX5) (N := 6) hx hb hts iw_X5 hown hK.1 (va_one ha_3) 0 rfl rfl 4 (by decide) (hts _ fl_X7_105) (fun _ h9 => h9) rfl dX7_ownerOf_7 ?_
  refine lv_icmp_ge (tgt := 45) hx hb dX7_ownerOf_10 (by decide) (fun c_5 => ?_) (fun c_5 => ?_)
  · simp only [lt_I, le_I, eq_I, i_0, i_1, i_2, i_3, i_4, i_5, i_6, i_7, i_8, i_10, i_12, i_16, i_20, i_23, i_24, i_31, i_32, i_63, i_64, i_m1] at c_5
    refine lv_iconst (v := (-1)) hx hb dX7_ownerOf_45 (by decide) ?_
    exact W.iret (v := (-1)) hx hb hr (fun t ht hW9 => ⟨⟨(-1), (), rfl, ⟨(by show -1 ≤ ((-1) : Int32).toInt ∧ ((-1) : Int32).toInt ≤ 3; have := i_m1; omega), (Or.inl ⟨c_5, rfl⟩)⟩, trivial⟩, hS.F ht⟩) hS.2.2 dX7_ownerOf_46
  · simp only [lt_I, le_I, eq_I, i_0, i_1, i_2, i_3, i_4, i_5, i_6, i_7, i_8, i_10, i_12, i_16, i_20, i_23, i_24, i_31, i_32, i_63, i_64, i_m1] at c_5
    refine lv_aload_n hx hb dX7_ownerOf_13 rfl (lv_at hl 1 rfl) ?_
    refine va_get (D := DG E) (ci := 7) (v := .ref (R h0 6)) (C := RX7) (T := TX7) (N := 14) hx hb hts iw_X7 hown hK.1 (va_one ha_1) 0 rfl rfl 6 (by decide) (hts _ fl_X7_41) (fun _ h9 => h9) rfl dX7_ownerOf_14 ?_
    refine lv_iload_n hx hb dX7_ownerOf_17 rfl (lv_at hl 0 rfl) ?_
    refine va_callr (rnV (fun H => TX E G B R H) (As := [.int 0]) (rest := []) ⟨hx, hb, hml, hown, hts⟩ (x_X5_at l E z0 G hGz B R hW (R h0 6) (0 : Int32) hg_2 (show 0 ≤ (0 : Int32).toInt ∧ (0 : Int32).toInt ≤ 4 from by have := i_0; first | decide | omega)) (cwV 1 hts (gdV ml_X7_108 im_X5_at se_X5_X5_at in_X5 co_X5_at rfl) rfl rfl rfl (by decide +kernel) ⟨Nat.le_of_ble_eq_true rfl, Nat.le_of_ble_eq_true rfl⟩) hT (fun U hU hW => hK.go hW hS hAz hU) (va_recv hK.1 (va_one ha_3) (ci := 5) (q0 := 0) rfl rfl) rfl rfl hl.1 rfl (lv_room (Nat.le_of_ble_eq_true rfl)) dX7_ownerOf_18 ⟨Nat.le_of_ble_eq_true rfl, Nat.le_of_ble_eq_true rfl⟩) hS (fun q _ h => h.elim) (fun q h => h.elim) (fun _ r_6 t H locs ht hvm hwr_6 hB hz hk hS => ?_)
    have hT : TX E G B R H := hT.kept (fun q hq => hk q hq (fun h => h))
    have hRr_6 := hB
    have hgr_6 : G r_6 = 13 := hRr_6.1
    have hCr_6 : C_X5_at G B R (R h0 6) (0 : Int32) r_6 := hRr_6.2
    refine lv_astore_n (lv' := [(3, .ref r_6), (2, .int 0), (0, .ref h0), (1, .int p0)]) hx hb dX7_ownerOf_21 rfl hl (by decide) rfl (fun ls hl => ?_)
    refine lv_aload_n hx hb dX7_ownerOf_22 rfl (lv_at hl 0 rfl) ?_
    have ha_7 := tx_13 hT hgr_6
    refine va_get (D := DG E) (ci := 4) (v := .int (B r_6 4)) (C := RX4) (T := TX4) (N := 10) hx hb hts iw_X4 hown hK.1 (va_one ha_7) 0 rfl rfl 4 (by decide) (hts _ fl_X7_78) (fun _ h9 => h9) rfl dX7_ownerOf_23 ?_
    refine lv_iload_n hx hb dX7_ownerOf_26 rfl (lv_at hl 3 rfl) ?_
    refine rnSN (As := [.int (B r_6 4), .int p0]) (rest := []) ⟨hx, hb, hml, hown, hts⟩ (c_X9_distance l ((B r_6 4)) p0) ⟨va_cnB (host := RX9) 2 hts (gd1 co_X9_distance rfl) rfl rfl rfl (hK.2.1 _ mn_X7_112 #[]) (hts _ in_X9) (by decide +kernel) ⟨Nat.le_of_ble_eq_true rfl, Nat.le_of_ble_eq_true rfl⟩, hts _ st_X9_distance, trivial⟩ rfl rfl hl.1 rfl (lv_room (Nat.le_of_ble_eq_true rfl)) dX7_ownerOf_27 ⟨Nat.le_of_ble_eq_true rfl, Nat.le_of_ble_eq_true rfl⟩ ?_
    refine W.eq (g2 := F0 m 30 ls [.int ((p0 - (B r_6 4)) &&& 63)]) (by rfl) ?_
    refine lv_topi (fun x_8 ex_8 => ?_)
    have fx_8 := s_and63 (p0 - (B r_6 4)); rw [← ex_8] at fx_8
    refine lv_aload_n hx hb dX7_ownerOf_30 rfl (lv_at hl 0 rfl) ?_
    refine va_get (D := DG E) (ci := 4) (v := .int (B r_6 5)) (C := RX4) (T := TX4) (N := 10) hx hb hts iw_X4 hown hK.1 (va_one ha_7) 0 rfl rfl 5 (by decide) (hts _ fl_X7_86) (fun _ h9 => h9) rfl dX7_ownerOf_31 ?_
    refine lv_icmp_ge (tgt := 39) hx hb dX7_ownerOf_34 (by decide) (fun c_9 => ?_) (fun c_9 => ?_)
    · simp only [lt_I, le_I, eq_I, i_0, i_1, i_2, i_3, i_4, i_5, i_6, i_7, i_8, i_10, i_12, i_16, i_20, i_23, i_24, i_31, i_32, i_63, i_64, i_m1] at c_9
      refine lv_iinc (v := 1) (lv' := [(2, .int 1), (3, .ref r_6), (0, .ref h0), (1, .int p0)]) hx hb dX7_ownerOf_39 hl (k := 1) rfl (by decide) (by decide) rfl (fun ls hl => ?_)
      refine lv_goto (tgt := 2) hx hb dX7_ownerOf_42 (by decide) ?_
      refine lv_iload_n hx hb dX7_ownerOf_2 rfl (lv_at hl 0 rfl) ?_
      refine lv_aload_n hx hb dX7_ownerOf_3 rfl (lv_at hl 2 rfl) ?_
      have ha_10 := tx_9 hT hG
      refine va_get (D := DG E) (ci := 7) (v := .ref (R h0 6)) (C := RX7) (T := TX7) (N := 14) hx hb hts iw_X7 hown hK.1 (va_one ha_10) 0 rfl rfl 6 (by decide) (hts _ fl_X7_41) (fun _ h9 => h9) rfl dX7_ownerOf_4 ?_
      have ha_11 := tx_11 hT hg_2
      refine va_get (D := DG E) (ci := 5) (v := .int (B (R h0 6) 4)) (C := RX5) (T := TX5) (N := 6) hx hb hts iw_X5 hown hK.1 (va_one ha_11) 0 rfl rfl 4 (by decide) (hts _ fl_X7_105) (fun _ h9 => h9) rfl dX7_ownerOf_7 ?_
      refine lv_icmp_ge (tgt := 45) hx hb dX7_ownerOf_10 (by decide) (fun c_12 => ?_) (fun c_12 => ?_)
      · simp only [lt_I, le_I, eq_I, i_0, i_1, i_2, i_3, i_4, i_5, i_6, i_7, i_8, i_10, i_12, i_16, i_20, i_23, i_24, i_31, i_32, i_63, i_64, i_m1] at c_12
        refine lv_iconst (v := (-1)) hx hb dX7_ownerOf_45 (by decide) ?_
        exact W.iret (v := (-1)) hx hb hr (fun t ht hW9 => ⟨⟨(-1), (), rfl, ⟨(by show -1 ≤ ((-1) : Int32).toInt ∧ ((-1) : Int32).toInt ≤ 3; have := i_m1; omega), (Or.inr (Or.inl ⟨c_5, r_6, hCr_6, x_8, ex_8, c_9, c_12, rfl⟩))⟩, trivial⟩, hS.F ht⟩) hS.2.2 dX7_ownerOf_46
      · simp only [lt_I, le_I, eq_I, i_0, i_1, i_2, i_3, i_4, i_5, i_6, i_7, i_8, i_10, i_12, i_16, i_20, i_23, i_24, i_31, i_32, i_63, i_64, i_m1] at c_12
        refine lv_aload_n hx hb dX7_ownerOf_13 rfl (lv_at hl 2 rfl) ?_
        refine va_get (D := DG E) (ci := 7) (v := .ref (R h0 6)) (C := RX7) (T := TX7) (N := 14) hx hb hts iw_X7 hown hK.1 (va_one ha_10) 0 rfl rfl 6 (by decide) (hts _ fl_X7_41) (fun _ h9 => h9) rfl dX7_ownerOf_14 ?_
        refine lv_iload_n hx hb dX7_ownerOf_17 rfl (lv_at hl 0 rfl) ?_
        refine va_callr (rnV (fun H => TX E G B R H) (As := [.int 1]) (rest := []) ⟨hx, hb, hml, hown, hts⟩ (x_X5_at l E z0 G hGz B R hW (R h0 6) (1 : Int32) hg_2 (show 0 ≤ (1 : Int32).toInt ∧ (1 : Int32).toInt ≤ 4 from by have := i_1; first | decide | omega)) (cwV 1 hts (gdV ml_X7_108 im_X5_at se_X5_X5_at in_X5 co_X5_at rfl) rfl rfl rfl (by decide +kernel) ⟨Nat.le_of_ble_eq_true rfl, Nat.le_of_ble_eq_true rfl⟩) hT (fun U hU hW => hK.go hW hS hAz hU) (va_recv hK.1 (va_one ha_11) (ci := 5) (q0 := 0) rfl rfl) rfl rfl hl.1 rfl (lv_room (Nat.le_of_ble_eq_true rfl)) dX7_ownerOf_18 ⟨Nat.le_of_ble_eq_true rfl, Nat.le_of_ble_eq_true rfl⟩) hS (fun q _ h => h.elim) (fun q h => h.elim) (fun _ r_13 t H locs ht hvm hwr_13 hB hz hk hS => ?_)
        have hT : TX E G B R H := hT.kept (fun q hq => hk q hq (fun h => h))
        have hRr_13 := hB
        have hgr_13 : G r_13 = 13 := hRr_13.1
        have hCr_13 : C_X5_at G B R (R h0 6) (1 : Int32) r_13 := hRr_13.2
        refine lv_astore_n (lv' := [(3, .ref r_13), (2, .int 1), (0, .ref h0), (1, .int p0)]) hx hb dX7_ownerOf_21 rfl hl (by decide) rfl (fun ls hl => ?_)
        refine lv_aload_n hx hb dX7_ownerOf_22 rfl (lv_at hl 0 rfl) ?_
        have ha_14 := tx_13 hT hgr_13
        refine va_get (D := DG E) (ci := 4) (v := .int (B r_13 4)) (C := RX4) (T := TX4) (N := 10) hx hb hts iw_X4 hown hK.1 (va_one ha_14) 0 rfl rfl 4 (by decide) (hts _ fl_X7_78) (fun _ h9 => h9) rfl dX7_ownerOf_23 ?_
        refine lv_iload_n hx hb dX7_ownerOf_26 rfl (lv_at hl 3 rfl) ?_
        refine rnSN (As := [.int (B r_13 4), .int p0]) (rest := []) ⟨hx, hb, hml, hown, hts⟩ (c_X9_distance l ((B r_13 4)) p0) ⟨va_cnB (host := RX9) 2 hts (gd1 co_X9_distance rfl) rfl rfl rfl (hK.2.1 _ mn_X7_112 #[]) (hts _ in_X9) (by decide +kernel) ⟨Nat.le_of_ble_eq_true rfl, Nat.le_of_ble_eq_true rfl⟩, hts _ st_X9_distance, trivial⟩ rfl rfl hl.1 rfl (lv_room (Nat.le_of_ble_eq_true rfl)) dX7_ownerOf_27 ⟨Nat.le_of_ble_eq_true rfl, Nat.le_of_ble_eq_true rfl⟩ ?_
        refine W.eq (g2 := F0 m 30 ls [.int ((p0 - (B r_13 4)) &&& 63)]) (by rfl) ?_
        refine lv_topi (fun x_15 ex_15 => ?_)
        have fx_15 := s_and63 (p0 - (B r_13 4)); rw [← ex_15] at fx_15
        refine lv_aload_n hx hb dX7_ownerOf_30 rfl (lv_at hl 0 rfl) ?_
        refine va_get (D := DG E) (ci := 4) (v := .int (B r_13 5)) (C := RX4) (T := TX4) (N := 10) hx hb hts iw_X4 hown hK.1 (va_one ha_14) 0 rfl rfl 5 (by decide) (hts _ fl_X7_86) (fun _ h9 => h9) rfl dX7_ownerOf_31 ?_
        refine lv_icmp_ge (tgt := 39) hx hb dX7_ownerOf_34 (by decide) (fun c_16 => ?_) (fun c_16 => ?_)
        · simp only [lt_I, le_I, eq_I, i_0, i_1, i_2, i_3, i_4, i_5, i_6, i_7, i_8, i_10, i_12, i_16, i_20, i_23, i_24, i_31, i_32, i_63, i_64, i_m1] at c_16
          refine lv_iinc (v := 2) (lv' := [(2, .int 2), (3, .ref r_13), (0, .ref h0), (1, .int p0)]) hx hb dX7_ownerOf_39 hl (k := 1) rfl (by decide) (by decide) rfl (fun ls hl => ?_)
          refine lv_goto (tgt := 2) hx hb dX7_ownerOf_42 (by decide) ?_
          refine lv_iload_n hx hb dX7_ownerOf_2 rfl (lv_at hl 0 rfl) ?_
          refine lv_aload_n hx hb dX7_ownerOf_3 rfl (lv_at hl 2 rfl) ?_
          have ha_17 := tx_9 hT hG
          refine va_get (D := DG E) (ci := 7) (v := .ref (R h0 6)) (C := RX7) (T := TX7) (N := 14) hx hb hts iw_X7 hown hK.1 (va_one ha_17) 0 rfl rfl 6 (by decide) (hts _ fl_X7_41) (fun _ h9 => h9) rfl dX7_ownerOf_4 ?_
          have ha_18 := tx_11 hT hg_2
          refine va_get (D := DG E) (ci := 5) (v := .int (B (R h0 6) 4)) (C := RX5) (T := TX5) (N := 6) hx hb hts iw_X5 hown hK.1 (va_one ha_18) 0 rfl rfl 4 (by decide) (hts _ fl_X7_105) (fun _ h9 => h9) rfl dX7_ownerOf_7 ?_
          refine lv_icmp_ge (tgt := 45) hx hb dX7_ownerOf_10 (by decide) (fun c_19 => ?_) (fun c_19 => ?_)
          · simp only [lt_I, le_I, eq_I, i_0, i_1, i_2, i_3, i_4, i_5, i_6, i_7, i_8, i_10, i_12, i_16, i_20, i_23, i_24, i_31, i_32, i_63, i_64, i_m1] at c_19
            refine lv_iconst (v := (-1)) hx hb dX7_ownerOf_45 (by decide) ?_
            exact W.iret (v := (-1)) hx hb hr (fun t ht hW9 => ⟨⟨(-1), (), rfl, ⟨(by show -1 ≤ ((-1) : Int32).toInt ∧ ((-1) : Int32).toInt ≤ 3; have := i_m1; omega), (Or.inr (Or.inr (Or.inl ⟨c_5, r_6, hCr_6, x_8, ex_8, c_9, c_12, r_13, hCr_13, x_15, ex_15, c_16, c_19, rfl⟩)))⟩, trivial⟩, hS.F ht⟩) hS.2.2 dX7_ownerOf_46
          · simp only [lt_I, le_I, eq_I, i_0, i_1, i_2, i_3, i_4, i_5, i_6, i_7, i_8, i_10, i_12, i_16, i_20, i_23, i_24, i_31, i_32, i_63, i_64, i_m1] at c_19
            refine lv_aload_n hx hb dX7_ownerOf_13 rfl (lv_at hl 2 rfl) ?_
            refine va_get (D := DG E) (ci := 7) (v := .ref (R h0 6)) (C := RX7) (T := TX7) (N := 14) hx hb hts iw_X7 hown hK.1 (va_one ha_17) 0 rfl rfl 6 (by decide) (hts _ fl_X7_41) (fun _ h9 => h9) rfl dX7_ownerOf_14 ?_
            refine lv_iload_n hx hb dX7_ownerOf_17 rfl (lv_at hl 0 rfl) ?_
            refine va_callr (rnV (fun H => TX E G B R H) (As := [.int 2]) (rest := []) ⟨hx, hb, hml, hown, hts⟩ (x_X5_at l E z0 G hGz B R hW (R h0 6) (2 : Int32) hg_2 (show 0 ≤ (2 : Int32).toInt ∧ (2 : Int32).toInt ≤ 4 from by have := i_2; first | decide | omega)) (cwV 1 hts (gdV ml_X7_108 im_X5_at se_X5_X5_at in_X5 co_X5_at rfl) rfl rfl rfl (by decide +kernel) ⟨Nat.le_of_ble_eq_true rfl, Nat.le_of_ble_eq_true rfl⟩) hT (fun U hU hW => hK.go hW hS hAz hU) (va_recv hK.1 (va_one ha_18) (ci := 5) (q0 := 0) rfl rfl) rfl rfl hl.1 rfl (lv_room (Nat.le_of_ble_eq_true rfl)) dX7_ownerOf_18 ⟨Nat.le_of_ble_eq_true rfl, Nat.le_of_ble_eq_true rfl⟩) hS (fun q _ h => h.elim) (fun q h => h.elim) (fun _ r_20 t H locs ht hvm hwr_20 hB hz hk hS => ?_)
            have hT : TX E G B R H := hT.kept (fun q hq => hk q hq (fun h => h))
            have hRr_20 := hB
            have hgr_20 : G r_20 = 13 := hRr_20.1
            have hCr_20 : C_X5_at G B R (R h0 6) (2 : Int32) r_20 := hRr_20.2
            refine lv_astore_n (lv' := [(3, .ref r_20), (2, .int 2), (0, .ref h0), (1, .int p0)]) hx hb dX7_ownerOf_21 rfl hl (by decide) rfl (fun ls hl => ?_)
            refine lv_aload_n hx hb dX7_ownerOf_22 rfl (lv_at hl 0 rfl) ?_
            have ha_21 := tx_13 hT hgr_20
            refine va_get (D := DG E) (ci := 4) (v := .int (B r_20 4)) (C := RX4) (T := TX4) (N := 10) hx hb hts iw_X4 hown hK.1 (va_one ha_21) 0 rfl rfl 4 (by decide) (hts _ fl_X7_78) (fun _ h9 => h9) rfl dX7_ownerOf_23 ?_
            refine lv_iload_n hx hb dX7_ownerOf_26 rfl (lv_at hl 3 rfl) ?_
            refine rnSN (As := [.int (B r_20 4), .int p0]) (rest := []) ⟨hx, hb, hml, hown, hts⟩ (c_X9_distance l ((B r_20 4)) p0) ⟨va_cnB (host := RX9) 2 hts (gd1 co_X9_distance rfl) rfl rfl rfl (hK.2.1 _ mn_X7_112 #[]) (hts _ in_X9) (by decide +kernel) ⟨Nat.le_of_ble_eq_true rfl, Nat.le_of_ble_eq_true rfl⟩, hts _ st_X9_distance, trivial⟩ rfl rfl hl.1 rfl (lv_room (Nat.le_of_ble_eq_true rfl)) dX7_ownerOf_27 ⟨Nat.le_of_ble_eq_true rfl, Nat.le_of_ble_eq_true rfl⟩ ?_
            refine W.eq (g2 := F0 m 30 ls [.int ((p0 - (B r_20 4)) &&& 63)]) (by rfl) ?_
            refine lv_topi (fun x_22 ex_22 => ?_)
            have fx_22 := s_and63 (p0 - (B r_20 4)); rw [← ex_22] at fx_22
            refine lv_aload_n hx hb dX7_ownerOf_30 rfl (lv_at hl 0 rfl) ?_
            refine va_get (D := DG E) (ci := 4) (v := .int (B r_20 5)) (C := RX4) (T := TX4) (N := 10) hx hb hts iw_X4 hown hK.1 (va_one ha_21) 0 rfl rfl 5 (by decide) (hts _ fl_X7_86) (fun _ h9 => h9) rfl dX7_ownerOf_31 ?_
            refine lv_icmp_ge (tgt := 39) hx hb dX7_ownerOf_34 (by decide) (fun c_23 => ?_) (fun c_23 => ?_)
            · simp only [lt_I, le_I, eq_I, i_0, i_1, i_2, i_3, i_4, i_5, i_6, i_7, i_8, i_10, i_12, i_16, i_20, i_23, i_24, i_31, i_32, i_63, i_64, i_m1] at c_23
              refine lv_iinc (v := 3) (lv' := [(2, .int 3), (3, .ref r_20), (0, .ref h0), (1, .int p0)]) hx hb dX7_ownerOf_39 hl (k := 1) rfl (by decide) (by decide) rfl (fun ls hl => ?_)
              refine lv_goto (tgt := 2) hx hb dX7_ownerOf_42 (by decide) ?_
              refine lv_iload_n hx hb dX7_ownerOf_2 rfl (lv_at hl 0 rfl) ?_
              refine lv_aload_n hx hb dX7_ownerOf_3 rfl (lv_at hl 2 rfl) ?_
              have ha_24 := tx_9 hT hG
              refine va_get (D := DG E) (ci := 7) (v := .ref (R h0 6)) (C := RX7) (T := TX7) (N := 14) hx hb hts iw_X7 hown hK.1 (va_one ha_24) 0 rfl rfl 6 (by decide) (hts _ fl_X7_41) (fun _ h9 => h9) rfl dX7_ownerOf_4 ?_
              have ha_25 := tx_11 hT hg_2
              refine va_get (D := DG E) (ci := 5) (v := .int (B (R h0 6) 4)) (C := RX5) (T := TX5) (N := 6) hx hb hts iw_X5 hown hK.1 (va_one ha_25) 0 rfl rfl 4 (by decide) (hts _ fl_X7_105) (fun _ h9 => h9) rfl dX7_ownerOf_7 ?_
              refine lv_icmp_ge (tgt := 45) hx hb dX7_ownerOf_10 (by decide) (fun c_26 => ?_) (fun c_26 => ?_)
              · simp only [lt_I, le_I, eq_I, i_0, i_1, i_2, i_3, i_4, i_5, i_6, i_7, i_8, i_10, i_12, i_16, i_20, i_23, i_24, i_31, i_32, i_63, i_64, i_m1] at c_26
                refine lv_iconst (v := (-1)) hx hb dX7_ownerOf_45 (by decide) ?_
                exact W.iret (v := (-1)) hx hb hr (fun t ht hW9 => ⟨⟨(-1), (), rfl, ⟨(by show -1 ≤ ((-1) : Int32).toInt ∧ ((-1) : Int32).toInt ≤ 3; have := i_m1; omega), (Or.inr (Or.inr (Or.inr (Or.inl ⟨c_5, r_6, hCr_6, x_8, ex_8, c_9, c_12, r_13, hCr_13, x_15, ex_15, c_16, c_19, r_20, hCr_20, x_22, ex_22, c_23, c_26, rfl⟩))))⟩, trivial⟩, hS.F ht⟩) hS.2.2 dX7_ownerOf_46
              · simp only [lt_I, le_I, eq_I, i_0, i_1, i_2, i_3, i_4, i_5, i_6, i_7, i_8, i_10, i_12, i_16, i_20, i_23, i_24, i_31, i_32, i_63, i_64, i_m1] at c_26
                refine lv_aload_n hx hb dX7_ownerOf_13 rfl (lv_at hl 2 rfl) ?_
                refine va_get (D := DG E) (ci := 7) (v := .ref (R h0 6)) (C := RX7) (T := TX7) (N := 14) hx hb hts iw_X7 hown hK.1 (va_one ha_24) 0 rfl rfl 6 (by decide) (hts _ fl_X7_41) (fun _ h9 => h9) rfl dX7_ownerOf_14 ?_
                refine lv_iload_n hx hb dX7_ownerOf_17 rfl (lv_at hl 0 rfl) ?_
                refine va_callr (rnV (fun H => TX E G B R H) (As := [.int 3]) (rest := []) ⟨hx, hb, hml, hown, hts⟩ (x_X5_at l E z0 G hGz B R hW (R h0 6) (3 : Int32) hg_2 (show 0 ≤ (3 : Int32).toInt ∧ (3 : Int32).toInt ≤ 4 from by have := i_3; first | decide | omega)) (cwV 1 hts (gdV ml_X7_108 im_X5_at se_X5_X5_at in_X5 co_X5_at rfl) rfl rfl rfl (by decide +kernel) ⟨Nat.le_of_ble_eq_true rfl, Nat.le_of_ble_eq_true rfl⟩) hT (fun U hU hW => hK.go hW hS hAz hU) (va_recv hK.1 (va_one ha_25) (ci := 5) (q0 := 0) rfl rfl) rfl rfl hl.1 rfl (lv_room (Nat.le_of_ble_eq_true rfl)) dX7_ownerOf_18 ⟨Nat.le_of_ble_eq_true rfl, Nat.le_of_ble_eq_true rfl⟩) hS (fun q _ h => h.elim) (fun q h => h.elim) (fun _ r_27 t H locs ht hvm hwr_27 hB hz hk hS => ?_)
                have hT : TX E G B R H := hT.kept (fun q hq => hk q hq (fun h => h))
                have hRr_27 := hB
                have hgr_27 : G r_27 = 13 := hRr_27.1
                have hCr_27 : C_X5_at G B R (R h0 6) (3 : Int32) r_27 := hRr_27.2
                refine lv_astore_n (lv' := [(3, .ref r_27), (2, .int 3), (0, .ref h0), (1, .int p0)]) hx hb dX7_ownerOf_21 rfl hl (by decide) rfl (fun ls hl => ?_)
                refine lv_aload_n hx hb dX7_ownerOf_22 rfl (lv_at hl 0 rfl) ?_
                have ha_28 := tx_13 hT hgr_27
                refine va_get (D := DG E) (ci := 4) (v := .int (B r_27 4)) (C := RX4) (T := TX4) (N := 10) hx hb hts iw_X4 hown hK.1 (va_one ha_28) 0 rfl rfl 4 (by decide) (hts _ fl_X7_78) (fun _ h9 => h9) rfl dX7_ownerOf_23 ?_
                refine lv_iload_n hx hb dX7_ownerOf_26 rfl (lv_at hl 3 rfl) ?_
                refine rnSN (As := [.int (B r_27 4), .int p0]) (rest := []) ⟨hx, hb, hml, hown, hts⟩ (c_X9_distance l ((B r_27 4)) p0) ⟨va_cnB (host := RX9) 2 hts (gd1 co_X9_distance rfl) rfl rfl rfl (hK.2.1 _ mn_X7_112 #[]) (hts _ in_X9) (by decide +kernel) ⟨Nat.le_of_ble_eq_true rfl, Nat.le_of_ble_eq_true rfl⟩, hts _ st_X9_distance, trivial⟩ rfl rfl hl.1 rfl (lv_room (Nat.le_of_ble_eq_true rfl)) dX7_ownerOf_27 ⟨Nat.le_of_ble_eq_true rfl, Nat.le_of_ble_eq_true rfl⟩ ?_
                refine W.eq (g2 := F0 m 30 ls [.int ((p0 - (B r_27 4)) &&& 63)]) (by rfl) ?_
                refine lv_topi (fun x_29 ex_29 => ?_)
                have fx_29 := s_and63 (p0 - (B r_27 4)); rw [← ex_29] at fx_29
                refine lv_aload_n hx hb dX7_ownerOf_30 rfl (lv_at hl 0 rfl) ?_
                refine va_get (D := DG E) (ci := 4) (v := .int (B r_27 5)) (C := RX4) (T := TX4) (N := 10) hx hb hts iw_X4 hown hK.1 (va_one ha_28) 0 rfl rfl 5 (by decide) (hts _ fl_X7_86) (fun _ h9 => h9) rfl dX7_ownerOf_31 ?_
                refine lv_icmp_ge (tgt := 39) hx hb dX7_ownerOf_34 (by decide) (fun c_30 => ?_) (fun c_30 => ?_)
                · simp only [lt_I, le_I, eq_I, i_0, i_1, i_2, i_3, i_4, i_5, i_6, i_7, i_8, i_10, i_12, i_16, i_20, i_23, i_24, i_31, i_32, i_63, i_64, i_m1] at c_30
                  refine lv_iinc (v := 4) (lv' := [(2, .int 4), (3, .ref r_27), (0, .ref h0), (1, .int p0)]) hx hb dX7_ownerOf_39 hl (k := 1) rfl (by decide) (by decide) rfl (fun ls hl => ?_)
                  refine lv_goto (tgt := 2) hx hb dX7_ownerOf_42 (by decide) ?_
                  refine lv_iload_n hx hb dX7_ownerOf_2 rfl (lv_at hl 0 rfl) ?_
                  refine lv_aload_n hx hb dX7_ownerOf_3 rfl (lv_at hl 2 rfl) ?_
                  have ha_31 := tx_9 hT hG
                  refine va_get (D := DG E) (ci := 7) (v := .ref (R h0 6)) (C := RX7) (T := TX7) (N := 14) hx hb hts iw_X7 hown hK.1 (va_one ha_31) 0 rfl rfl 6 (by decide) (hts _ fl_X7_41) (fun _ h9 => h9) rfl dX7_ownerOf_4 ?_
                  have ha_32 := tx_11 hT hg_2
                  refine va_get (D := DG E) (ci := 5) (v := .int (B (R h0 6) 4)) (C := RX5) (T := TX5) (N := 6) hx hb hts iw_X5 hown hK.1 (va_one ha_32) 0 rfl rfl 4 (by decide) (hts _ fl_X7_105) (fun _ h9 => h9) rfl dX7_ownerOf_7 ?_
                  refine lv_icmp_ge (tgt := 45) hx hb dX7_ownerOf_10 (by decide) (fun c_33 => ?_) (fun c_33 => by exfalso; simp only [lt_I, le_I, eq_I, i_0, i_1, i_2, i_3, i_4, i_5, i_6, i_7, i_8, i_10, i_12, i_16, i_20, i_23, i_24, i_31, i_32, i_63, i_64, i_m1] at c_33; omega)
                  refine lv_iconst (v := (-1)) hx hb dX7_ownerOf_45 (by decide) ?_
                  exact W.iret (v := (-1)) hx hb hr (fun t ht hW9 => ⟨⟨(-1), (), rfl, ⟨(by show -1 ≤ ((-1) : Int32).toInt ∧ ((-1) : Int32).toInt ≤ 3; have := i_m1; omega), (Or.inr (Or.inr (Or.inr (Or.inr (Or.inl ⟨c_5, r_6, hCr_6, x_8, ex_8, c_9, c_12, r_13, hCr_13, x_15, ex_15, c_16, c_19, r_20, hCr_20, x_22, ex_22, c_23, c_26, r_27, hCr_27, x_29, ex_29, c_30, rfl⟩)))))⟩, trivial⟩, hS.F ht⟩) hS.2.2 dX7_ownerOf_46
                · simp only [lt_I, le_I, eq_I, i_0, i_1, i_2, i_3, i_4, i_5, i_6, i_7, i_8, i_10, i_12, i_16, i_20, i_23, i_24, i_31, i_32, i_63, i_64, i_m1] at c_30
                  refine lv_iload_n hx hb dX7_ownerOf_37 rfl (lv_at hl 1 rfl) ?_
                  exact W.iret (v := 3) hx hb hr (fun t ht hW9 => ⟨⟨3, (), rfl, ⟨(by show -1 ≤ (3 : Int32).toInt ∧ (3 : Int32).toInt ≤ 3; have := i_3; omega), (Or.inr (Or.inr (Or.inr (Or.inr (Or.inr (Or.inl ⟨c_5, r_6, hCr_6, x_8, ex_8, c_9, c_12, r_13, hCr_13, x_15, ex_15, c_16, c_19, r_20, hCr_20, x_22, ex_22, c_23, c_26, r_27, hCr_27, x_29, ex_29, c_30, rfl⟩))))))⟩, trivial⟩, hS.F ht⟩) hS.2.2 dX7_ownerOf_38
            · simp only [lt_I, le_I, eq_I, i_0, i_1, i_2, i_3, i_4, i_5, i_6, i_7, i_8, i_10, i_12, i_16, i_20, i_23, i_24, i_31, i_32, i_63, i_64, i_m1] at c_23
              refine lv_iload_n hx hb dX7_ownerOf_37 rfl (lv_at hl 1 rfl) ?_
              exact W.iret (v := 2) hx hb hr (fun t ht hW9 => ⟨⟨2, (), rfl, ⟨(by show -1 ≤ (2 : Int32).toInt ∧ (2 : Int32).toInt ≤ 3; have := i_2; omega), (Or.inr (Or.inr (Or.inr (Or.inr (Or.inr (Or.inr (Or.inl ⟨c_5, r_6, hCr_6, x_8, ex_8, c_9, c_12, r_13, hCr_13, x_15, ex_15, c_16, c_19, r_20, hCr_20, x_22, ex_22, c_23, rfl⟩)))))))⟩, trivial⟩, hS.F ht⟩) hS.2.2 dX7_ownerOf_38
        · simp only [lt_I, le_I, eq_I, i_0, i_1, i_2, i_3, i_4, i_5, i_6, i_7, i_8, i_10, i_12, i_16, i_20, i_23, i_24, i_31, i_32, i_63, i_64, i_m1] at c_16
          refine lv_iload_n hx hb dX7_ownerOf_37 rfl (lv_at hl 1 rfl) ?_
          exact W.iret (v := 1) hx hb hr (fun t ht hW9 => ⟨⟨1, (), rfl, ⟨(by show -1 ≤ (1 : Int32).toInt ∧ (1 : Int32).toInt ≤ 3; have := i_1; omega), (Or.inr (Or.inr (Or.inr (Or.inr (Or.inr (Or.inr (Or.inr (Or.inl ⟨c_5, r_6, hCr_6, x_8, ex_8, c_9, c_12, r_13, hCr_13, x_15, ex_15, c_16, rfl⟩))))))))⟩, trivial⟩, hS.F ht⟩) hS.2.2 dX7_ownerOf_38
    · simp only [lt_I, le_I, eq_I, i_0, i_1, i_2, i_3, i_4, i_5, i_6, i_7, i_8, i_10, i_12, i_16, i_20, i_23, i_24, i_31, i_32, i_63, i_64, i_m1] at c_9
      refine lv_iload_n hx hb dX7_ownerOf_37 rfl (lv_at hl 1 rfl) ?_
      exact W.iret (v := 0) hx hb hr (fun t ht hW9 => ⟨⟨0, (), rfl, ⟨(by show -1 ≤ (0 : Int32).toInt ∧ (0 : Int32).toInt ≤ 3; have := i_0; omega), (Or.inr (Or.inr (Or.inr (Or.inr (Or.inr (Or.inr (Or.inr (Or.inr ⟨c_5, r_6, hCr_6, x_8, ex_8, c_9, rfl⟩))))))))⟩, trivial⟩, hS.F ht⟩) hS.2.2 dX7_ownerOf_38
theorem dX7_isOpen_0 : decode cX7_isOpen 0 = .ok (.aload_n 0, 1) := by decide +kernel
theorem dX7_isOpen_1 : decode cX7_isOpen 1 = .ok (.getfield 68, 3) := by decide +kernel
theorem dX7_isOpen_4 : decode cX7_isOpen 4 = .ok (.iload_n 1, 1) := by decide +kernel
theorem dX7_isOpen_5 : decode cX7_isOpen 5 = .ok (.invokestatic 112, 3) := by decide +kernel
theorem dX7_isOpen_8 : decode cX7_isOpen 8 = .ok (.aload_n 0, 1) := by decide +kernel
theorem dX7_isOpen_9 : decode cX7_isOpen 9 = .ok (.getfield 68, 3) := by decide +kernel
theorem dX7_isOpen_12 : decode cX7_isOpen 12 = .ok (.aload_n 0, 1) := by decide +kernel
theorem dX7_isOpen_13 : decode cX7_isOpen 13 = .ok (.getfield 71, 3) := by decide +kernel
theorem dX7_isOpen_16 : decode cX7_isOpen 16 = .ok (.invokestatic 112, 3) := by decide +kernel
theorem dX7_isOpen_19 : decode cX7_isOpen 19 = .ok (.if_icmp .ge 7, 3) := by decide +kernel
theorem dX7_isOpen_22 : decode cX7_isOpen 22 = .ok (.iconst 1, 1) := by decide +kernel
theorem dX7_isOpen_23 : decode cX7_isOpen 23 = .ok (.goto 4, 3) := by decide +kernel
theorem dX7_isOpen_26 : decode cX7_isOpen 26 = .ok (.iconst 0, 1) := by decide +kernel
theorem dX7_isOpen_27 : decode cX7_isOpen 27 = .ok (.ireturn, 1) := by decide +kernel
set_option maxHeartbeats 8000000 in
set_option maxRecDepth 100000 in
theorem x_X7_isOpen (l : Launch) (E : EE) (z0 : Nat) (G : Nat → Nat) (hGz : ∀ q, G q ≠ 0 → z0 ≤ q) (B : AA) (R : RR) (hW : TW G B R) (h0 : Nat) (p0 : Int32) (hG : G h0 = 9) : Met l yX7_isOpen [Cond.code yX7_isOpen cX7_isOpen 2 (some .boolean)] ({ frames := 1, cells := 0, slots := 0, locals := 21 } : Room) (va_Pc [.ref h0, .int p0] (fun U => TX E G B R U.heap ∧ KS E z0 U)) (va_Qi (fun (r : Int32) (u : Unit) => (r = 0 ∨ r = 1) ∧ (C_X7_isOpen G B R h0 p0 r)) (fun u t => True) (fun _ : Nat => False)) 0 0 (fun _ : Nat => False) := by
  refine Met.ofW (cc := cX7_isOpen) (maxL := 2) (ret := (some .boolean)) (by decide) rfl ?_
  intro p e s m args below meth c s₁ B9 hml hv
  obtain ⟨rfl, hT, hK⟩ := hv
  have hx := B9.exec
  have hb := B9.bytes
  have hr := B9.returns
  have hts : ∀ w ∈ TS, w.before ([.ref h0, .int p0] : List Value).toArray s = true := fun w hw => hK.2.1 w hw _
  have hown : s.vm.findClass RX7 = some m.cls := findClass_of_methodNamed B9.named
  have hlocks := B9.notSynchronized
  have hS : va_S (fun _ : Nat => False) s.heap s.heap [] := va_S.rf
  have hAz : ∀ q, (fun _ : Nat => False) q → z0 ≤ q := fun _ h => h.elim
  have hW_0 := hW
  have hl := lv_entry ([.ref h0, .int p0]) (n := 2) (Nat.le_of_ble_eq_true rfl)
  rw [lg_entry_eq]
  generalize (lg_sl ([.ref h0, .int p0]) ++ List.replicate (2 - (lg_sl ([.ref h0, .int p0])).length) Slot.unset).toArray = ls at hl ⊢
  have hl : lv_has ls 2 [(0, .ref h0), (1, .int p0)] := hl
  refine lv_aload_n hx hb dX7_isOpen_0 rfl (lv_at hl 0 rfl) ?_
  have ha_1 := tx_9 hT hG
  refine va_get (D := DG E) (ci := 7) (v := .int (B h0 8)) (C := RX7) (T := TX7) (N := 14) hx hb hts iw_X7 hown hK.1 (va_one ha_1) 0 rfl rfl 8 (by decide) (hts _ fl_X7_68) (fun _ h9 => h9) rfl dX7_isOpen_1 ?_
  refine lv_iload_n hx hb dX7_isOpen_4 rfl (lv_at hl 1 rfl) ?_
  refine rnSN (As := [.int (B h0 8), .int p0]) (rest := []) ⟨hx, hb, hml, hown, hts⟩ (c_X9_distance l ((B h0 8)) p0) ⟨va_cnB (host := RX9) 2 hts (gd1 co_X9_distance rfl) rfl rfl rfl (hK.2.1 _ mn_X7_112 #[]) (hts _ in_X9) (by decide +kernel) ⟨Nat.le_of_ble_eq_true rfl, Nat.le_of_ble_eq_true rfl⟩, hts _ st_X9_distance, trivial⟩ rfl rfl hl.1 rfl (lv_room (Nat.le_of_ble_eq_true rfl)) dX7_isOpen_5 ⟨Nat.le_of_ble_eq_true rfl, Nat.le_of_ble_eq_true rfl⟩ ?_
  refine W.eq (g2 := F0 m 8 ls [.int ((p0 - (B h0 8)) &&& 63)]) (by rfl) ?_
  refine lv_topi (fun x_2 ex_2 => ?_)
  have fx_2 := s_and63 (p0 - (B h0 8)); rw [← ex_2] at fx_2
  refine lv_aload_n hx hb dX7_isOpen_8 rfl (lv_at hl 0 rfl) ?_
  refine va_get (D := DG E) (ci := 7) (v := .int (B h0 8)) (C := RX7) (T := TX7) (N := 14) hx hb hts iw_X7 hown hK.1 (va_one ha_1) 0 rfl rfl 8 (by decide) (hts _ fl_X7_68) (fun _ h9 => h9) rfl dX7_isOpen_9 ?_
  refine lv_aload_n hx hb dX7_isOpen_12 rfl (lv_at hl 0 rfl) ?_
  refine va_get (D := DG E) (ci := 7) (v := .int (B h0 9)) (C := RX7) (T := TX7) (N := 14) hx hb hts iw_X7 hown hK.1 (va_one ha_1) 0 rfl rfl 9 (by decide) (hts _ fl_X7_71) (fun _ h9 => h9) rfl dX7_isOpen_13 ?_
  refine rnSN (As := [.int (B h0 8), .int (B h0 9)]) (rest := [.int x_2]) ⟨hx, hb, hml, hown, hts⟩ (c_X9_distance l ((B h0 8)) ((B h0 9))) ⟨va_cnB (host := RX9) 2 hts (gd1 co_X9_distance rfl) rfl rfl rfl (hK.2.1 _ mn_X7_112 #[]) (hts _ in_X9) (by decide +kernel) ⟨Nat.le_of_ble_eq_true rfl, Nat.le_of_ble_eq_true rfl⟩, hts _ st_X9_distance, trivial⟩ rfl rfl hl.1 rfl (lv_room (Nat.le_of_ble_eq_true rfl)) dX7_isOpen_16 ⟨Nat.le_of_ble_eq_true rfl, Nat.le_of_ble_eq_true rfl⟩ ?_
  refine W.eq (g2 := F0 m 19 ls [.int (((B h0 9) - (B h0 8)) &&& 63), .int x_2]) (by rfl) ?_
  refine lv_topi (fun x_3 ex_3 => ?_)
  have fx_3 := s_and63 ((B h0 9) - (B h0 8)); rw [← ex_3] at fx_3
  refine lv_icmp_ge (tgt := 26) hx hb dX7_isOpen_19 (by decide) (fun c_4 => ?_) (fun c_4 => ?_)
  · simp only [lt_I, le_I, eq_I, i_0, i_1, i_2, i_3, i_4, i_5, i_6, i_7, i_8, i_10, i_12, i_16, i_20, i_23, i_24, i_31, i_32, i_63, i_64, i_m1] at c_4
    refine lv_iconst (v := 0) hx hb dX7_isOpen_26 (by decide) ?_
    exact W.zret (v := 0) (ty := .boolean) hx hb hr rfl (fun t ht hW9 => ⟨⟨0, (), rfl, ⟨(by decide), (Or.inl ⟨x_2, ex_2, x_3, ex_3, c_4, rfl⟩)⟩, trivial⟩, hS.F ht⟩) hS.2.2 dX7_isOpen_27
  · simp only [lt_I, le_I, eq_I, i_0, i_1, i_2, i_3, i_4, i_5, i_6, i_7, i_8, i_10, i_12, i_16, i_20, i_23, i_24, i_31, i_32, i_63, i_64, i_m1] at c_4
    refine lv_iconst (v := 1) hx hb dX7_isOpen_22 (by decide) ?_
    refine lv_goto (tgt := 27) hx hb dX7_isOpen_23 (by decide) ?_
    exact W.zret (v := 1) (ty := .boolean) hx hb hr rfl (fun t ht hW9 => ⟨⟨1, (), rfl, ⟨(by decide), (Or.inr ⟨x_2, ex_2, x_3, ex_3, c_4, rfl⟩)⟩, trivial⟩, hS.F ht⟩) hS.2.2 dX7_isOpen_27
theorem dX7_awaitsReply_0 : decode cX7_awaitsReply 0 = .ok (.aload_n 0, 1) := by decide +kernel
theorem dX7_awaitsReply_1 : decode cX7_awaitsReply 1 = .ok (.iload_n 1, 1) := by decide +kernel
theorem dX7_awaitsReply_2 : decode cX7_awaitsReply 2 = .ok (.invokevirtual 115, 3) := by decide +kernel
theorem dX7_awaitsReply_5 : decode cX7_awaitsReply 5 = .ok (.istore_n 2, 1) := by decide +kernel
theorem dX7_awaitsReply_6 : decode cX7_awaitsReply 6 = .ok (.iload_n 2, 1) := by decide +kernel
theorem dX7_awaitsReply_7 : decode cX7_awaitsReply 7 = .ok (.iconst (-1), 1) := by decide +kernel
theorem dX7_awaitsReply_8 : decode cX7_awaitsReply 8 = .ok (.if_icmp .eq 21, 3) := by decide +kernel
theorem dX7_awaitsReply_11 : decode cX7_awaitsReply 11 = .ok (.aload_n 0, 1) := by decide +kernel
theorem dX7_awaitsReply_12 : decode cX7_awaitsReply 12 = .ok (.getfield 41, 3) := by decide +kernel
theorem dX7_awaitsReply_15 : decode cX7_awaitsReply 15 = .ok (.iload_n 2, 1) := by decide +kernel
theorem dX7_awaitsReply_16 : decode cX7_awaitsReply 16 = .ok (.invokevirtual 108, 3) := by decide +kernel
theorem dX7_awaitsReply_19 : decode cX7_awaitsReply 19 = .ok (.invokevirtual 165, 3) := by decide +kernel
theorem dX7_awaitsReply_22 : decode cX7_awaitsReply 22 = .ok (.ifCond .eq 7, 3) := by decide +kernel
theorem dX7_awaitsReply_25 : decode cX7_awaitsReply 25 = .ok (.iconst 1, 1) := by decide +kernel
theorem dX7_awaitsReply_26 : decode cX7_awaitsReply 26 = .ok (.goto 4, 3) := by decide +kernel
theorem dX7_awaitsReply_29 : decode cX7_awaitsReply 29 = .ok (.iconst 0, 1) := by decide +kernel
theorem dX7_awaitsReply_30 : decode cX7_awaitsReply 30 = .ok (.ireturn, 1) := by decide +kernel
set_option maxHeartbeats 8000000 in
set_option maxRecDepth 100000 in
theorem x_X7_awaitsReply (l : Launch) (E : EE) (z0 : Nat) (G : Nat → Nat) (hGz : ∀ q, G q ≠ 0 → z0 ≤ q) (B : AA) (R : RR) (hW : TW G B R) (h0 : Nat) (p0 : Int32) (hG : G h0 = 9) : Met l yX7_awaitsReply [Cond.code yX7_awaitsReply cX7_awaitsReply 3 (some .boolean)] ({ frames := 2, cells := 0, slots := 0, locals := 44 } : Room) (va_Pc [.ref h0, .int p0] (fun U => TX E G B R U.heap ∧ KS E z0 U)) (va_Qi (fun (r : Int32) (u : Unit) => (r = 0 ∨ r = 1) ∧ (C_X7_awaitsReply G B R h0 p0 r)) (fun u t => True) (fun _ : Nat => False)) 0 0 (fun _ : Nat => False) := by
  refine Met.ofW (cc := cX7_awaitsReply) (maxL := 3) (ret := (some .boolean)) (by decide) rfl ?_
  intro p e s m args below meth c s₁ B9 hml hv
  obtain ⟨rfl, hT, hK⟩ := hv
  have hx := B9.exec
  have hb := B9.bytes
  have hr := B9.returns
  have hts : ∀ w ∈ TS, w.before ([.ref h0, .int p0] : List Value).toArray s = true := fun w hw => hK.2.1 w hw _
  have hown : s.vm.findClass RX7 = some m.cls := findClass_of_methodNamed B9.named
  have hlocks := B9.notSynchronized
  have hS : va_S (fun _ : Nat => False) s.heap s.heap [] := va_S.rf
  have hAz : ∀ q, (fun _ : Nat => False) q → z0 ≤ q := fun _ h => h.elim
  have hW_0 := hW
  have hl := lv_entry ([.ref h0, .int p0]) (n := 3) (Nat.le_of_ble_eq_true rfl)
  rw [lg_entry_eq]
  generalize (lg_sl ([.ref h0, .int p0]) ++ List.replicate (3 - (lg_sl ([.ref h0, .int p0])).length) Slot.unset).toArray = ls at hl ⊢
  have hl : lv_has ls 3 [(0, .ref h0), (1, .int p0)] := hl
  refine lv_aload_n hx hb dX7_awaitsReply_0 rfl (lv_at hl 0 rfl) ?_
  refine lv_iload_n hx hb dX7_awaitsReply_1 rfl (lv_at hl 1 rfl) ?_
  have ha_1 := tx_9 hT hG
  refine va_calli (rnV (fun H => TX E G B R H) (As := [.int p0]) (rest := []) ⟨hx, hb, hml, hown, hts⟩ (x_X7_ownerOf l E z0 G hGz B R hW h0 p0 hG) (cwV 1 hts (gdV ml_X7_115 im_X7_ownerOf se_X7_X7_ownerOf in_X7 co_X7_ownerOf rfl) rfl rfl rfl (by decide +kernel) ⟨Nat.le_of_ble_eq_true rfl, Nat.le_of_ble_eq_true rfl⟩) hT (fun U hU hW => hK.go hW hS hAz hU) (va_recv hK.1 (va_one ha_1) (ci := 7) (q0 := 0) rfl rfl) rfl rfl hl.1 rfl (lv_room (Nat.le_of_ble_eq_true rfl)) dX7_awaitsReply_2 ⟨Nat.le_of_ble_eq_true rfl, Nat.le_of_ble_eq_true rfl⟩) hS (fun q _ h => h.elim) (fun q h => h.elim) (fun r_2 _ t H locs ht hvm hwr_2 hB hz hk hS => ?_)
  have hT : TX E G B R H := hT.kept (fun q hq => hk q hq (fun h => h))
  have hp0r_2 : -1 ≤ r_2.toInt ∧ r_2.toInt ≤ 3 := hwr_2.1
  have hCr_2 : C_X7_ownerOf G B R h0 p0 r_2 := hwr_2.2
  refine lv_istore_n (lv' := [(2, .int r_2), (0, .ref h0), (1, .int p0)]) hx hb dX7_awaitsReply_5 rfl hl (by decide) rfl (fun ls hl => ?_)
  refine lv_iload_n hx hb dX7_awaitsReply_6 rfl (lv_at hl 0 rfl) ?_
  refine lv_iconst (v := (-1)) hx hb dX7_awaitsReply_7 (by decide) ?_
  refine lv_icmp_eq (tgt := 29) hx hb dX7_awaitsReply_8 (by decide) (fun c_3 => ?_) (fun c_3 => ?_)
  · simp only [lt_I, le_I, eq_I, i_0, i_1, i_2, i_3, i_4, i_5, i_6, i_7, i_8, i_10, i_12, i_16, i_20, i_23, i_24, i_31, i_32, i_63, i_64, i_m1] at c_3
    refine lv_iconst (v := 0) hx hb dX7_awaitsReply_29 (by decide) ?_
    exact W.zret (v := 0) (ty := .boolean) hx hb hr rfl (fun t ht hW9 => ⟨⟨0, (), rfl, ⟨(by decide), (Or.inl ⟨r_2, hCr_2, c_3, rfl⟩)⟩, trivial⟩, hS.F ht⟩) hS.2.2 dX7_awaitsReply_30
  · simp only [lt_I, le_I, eq_I, i_0, i_1, i_2, i_3, i_4, i_5, i_6, i_7, i_8, i_10, i_12, i_16, i_20, i_23, i_24, i_31, i_32, i_63, i_64, i_m1] at c_3
    refine lv_aload_n hx hb dX7_awaitsReply_11 rfl (lv_at hl 1 rfl) ?_
    have ha_4 := tx_9 hT hG
    have hg_5 : G (R h0 6) = 11 := (tw_9 hW hG).2.2.2
    refine va_get (D := DG E) (ci := 7) (v := .ref (R h0 6)) (C := RX7) (T := TX7) (N := 14) hx hb hts iw_X7 hown hK.1 (va_one ha_4) 0 rfl rfl 6 (by decide) (hts _ fl_X7_41) (fun _ h9 => h9) rfl dX7_awaitsReply_12 ?_
    refine lv_iload_n hx hb dX7_awaitsReply_15 rfl (lv_at hl 0 rfl) ?_
    have ha_6 := tx_11 hT hg_5
    refine va_callr (rnV (fun H => TX E G B R H) (As := [.int r_2]) (rest := []) ⟨hx, hb, hml, hown, hts⟩ (x_X5_at l E z0 G hGz B R hW (R h0 6) r_2 hg_5 (show 0 ≤ r_2.toInt ∧ r_2.toInt ≤ 4 from by first | decide | omega)) (cwV 1 hts (gdV ml_X7_108 im_X5_at se_X5_X5_at in_X5 co_X5_at rfl) rfl rfl rfl (by decide +kernel) ⟨Nat.le_of_ble_eq_true rfl, Nat.le_of_ble_eq_true rfl⟩) hT (fun U hU hW => hK.go hW hS hAz hU) (va_recv hK.1 (va_one ha_6) (ci := 5) (q0 := 0) rfl rfl) rfl rfl hl.1 rfl (lv_room (Nat.le_of_ble_eq_true rfl)) dX7_awaitsReply_16 ⟨Nat.le_of_ble_eq_true rfl, Nat.le_of_ble_eq_true rfl⟩) hS (fun q _ h => h.elim) (fun q h => h.elim) (fun _ r_7 t H locs ht hvm hwr_7 hB hz hk hS => ?_)
    have hT : TX E G B R H := hT.kept (fun q hq => hk q hq (fun h => h))
    have hRr_7 := hB
    have hgr_7 : G r_7 = 13 := hRr_7.1
    have hCr_7 : C_X5_at G B R (R h0 6) r_2 r_7 := hRr_7.2
    have ha_8 := tx_13 hT hgr_7
    refine va_calli (rnV (fun H => TX E G B R H) (As := []) (rest := []) ⟨hx, hb, hml, hown, hts⟩ (x_X4_awaitsReply l E z0 G hGz B R hW r_7 hgr_7) (cwV 0 hts (gdV ml_X7_165 im_X4_awaitsReply se_X4_X4_awaitsReply in_X4 co_X4_awaitsReply rfl) rfl rfl rfl (by decide +kernel) ⟨Nat.le_of_ble_eq_true rfl, Nat.le_of_ble_eq_true rfl⟩) hT (fun U hU hW => hK.go hW hS hAz hU) (va_recv hK.1 (va_one ha_8) (ci := 4) (q0 := 0) rfl rfl) rfl rfl hl.1 rfl (lv_room (Nat.le_of_ble_eq_true rfl)) dX7_awaitsReply_19 ⟨Nat.le_of_ble_eq_true rfl, Nat.le_of_ble_eq_true rfl⟩) hS (fun q _ h => h.elim) (fun q h => h.elim) (fun r_9 _ t H locs ht hvm hwr_9 hB hz hk hS => ?_)
    have hT : TX E G B R H := hT.kept (fun q hq => hk q hq (fun h => h))
    have hbr_9 : r_9 = 0 ∨ r_9 = 1 := hwr_9.1
    have hCr_9 : C_X4_awaitsReply G B R r_7 r_9 := hwr_9.2
    have hzr_9 := s_rng hbr_9
    refine lv_if_eq (tgt := 29) hx hb dX7_awaitsReply_22 (by decide) (fun c_10 => ?_) (fun c_10 => ?_)
    · simp only [lt_I, le_I, eq_I, i_0, i_1, i_2, i_3, i_4, i_5, i_6, i_7, i_8, i_10, i_12, i_16, i_20, i_23, i_24, i_31, i_32, i_63, i_64, i_m1] at c_10
      refine lv_iconst (v := 0) hx hb dX7_awaitsReply_29 (by decide) ?_
      exact W.zret (v := 0) (ty := .boolean) hx hb hr rfl (fun t ht hW9 => ⟨⟨0, (), rfl, ⟨(by decide), (Or.inr (Or.inl ⟨r_2, hCr_2, c_3, r_7, hCr_7, r_9, hCr_9, c_10, rfl⟩))⟩, trivial⟩, hS.F ht⟩) hS.2.2 dX7_awaitsReply_30
    · simp only [lt_I, le_I, eq_I, i_0, i_1, i_2, i_3, i_4, i_5, i_6, i_7, i_8, i_10, i_12, i_16, i_20, i_23, i_24, i_31, i_32, i_63, i_64, i_m1] at c_10
      refine lv_iconst (v := 1) hx hb dX7_awaitsReply_25 (by decide) ?_
      refine lv_goto (tgt := 30) hx hb dX7_awaitsReply_26 (by decide) ?_
      exact W.zret (v := 1) (ty := .boolean) hx hb hr rfl (fun t ht hW9 => ⟨⟨1, (), rfl, ⟨(by decide), (Or.inr (Or.inr ⟨r_2, hCr_2, c_3, r_7, hCr_7, r_9, hCr_9, c_10, rfl⟩))⟩, trivial⟩, hS.F ht⟩) hS.2.2 dX7_awaitsReply_30
theorem dX7_firstIsAnswered_0 : decode cX7_firstIsAnswered 0 = .ok (.aload_n 0, 1) := by decide +kernel
theorem dX7_firstIsAnswered_1 : decode cX7_firstIsAnswered 1 = .ok (.getfield 41, 3) := by decide +kernel
theorem dX7_firstIsAnswered_4 : decode cX7_firstIsAnswered 4 = .ok (.iconst 0, 1) := by decide +kernel
theorem dX7_firstIsAnswered_5 : decode cX7_firstIsAnswered 5 = .ok (.invokevirtual 108, 3) := by decide +kernel
theorem dX7_firstIsAnswered_8 : decode cX7_firstIsAnswered 8 = .ok (.astore_n 1, 1) := by decide +kernel
theorem dX7_firstIsAnswered_9 : decode cX7_firstIsAnswered 9 = .ok (.aload_n 0, 1) := by decide +kernel
theorem dX7_firstIsAnswered_10 : decode cX7_firstIsAnswered 10 = .ok (.getfield 41, 3) := by decide +kernel
theorem dX7_firstIsAnswered_13 : decode cX7_firstIsAnswered 13 = .ok (.getfield 105, 3) := by decide +kernel
theorem dX7_firstIsAnswered_16 : decode cX7_firstIsAnswered 16 = .ok (.ifCond .le 25, 3) := by decide +kernel
theorem dX7_firstIsAnswered_19 : decode cX7_firstIsAnswered 19 = .ok (.aload_n 1, 1) := by decide +kernel
theorem dX7_firstIsAnswered_20 : decode cX7_firstIsAnswered 20 = .ok (.getfield 78, 3) := by decide +kernel
theorem dX7_firstIsAnswered_23 : decode cX7_firstIsAnswered 23 = .ok (.aload_n 0, 1) := by decide +kernel
theorem dX7_firstIsAnswered_24 : decode cX7_firstIsAnswered 24 = .ok (.getfield 68, 3) := by decide +kernel
theorem dX7_firstIsAnswered_27 : decode cX7_firstIsAnswered 27 = .ok (.invokestatic 112, 3) := by decide +kernel
theorem dX7_firstIsAnswered_30 : decode cX7_firstIsAnswered 30 = .ok (.aload_n 1, 1) := by decide +kernel
theorem dX7_firstIsAnswered_31 : decode cX7_firstIsAnswered 31 = .ok (.getfield 86, 3) := by decide +kernel
theorem dX7_firstIsAnswered_34 : decode cX7_firstIsAnswered 34 = .ok (.if_icmp .lt 7, 3) := by decide +kernel
theorem dX7_firstIsAnswered_37 : decode cX7_firstIsAnswered 37 = .ok (.iconst 1, 1) := by decide +kernel
theorem dX7_firstIsAnswered_38 : decode cX7_firstIsAnswered 38 = .ok (.goto 4, 3) := by decide +kernel
theorem dX7_firstIsAnswered_41 : decode cX7_firstIsAnswered 41 = .ok (.iconst 0, 1) := by decide +kernel
theorem dX7_firstIsAnswered_42 : decode cX7_firstIsAnswered 42 = .ok (.ireturn, 1) := by decide +kernel
set_option maxHeartbeats 8000000 in
set_option maxRecDepth 100000 in
theorem x_X7_firstIsAnswered (l : Launch) (E : EE) (z0 : Nat) (G : Nat → Nat) (hGz : ∀ q, G q ≠ 0 → z0 ≤ q) (B : AA) (R : RR) (hW : TW G B R) (h0 : Nat) (hG : G h0 = 9) : Met l yX7_firstIsAnswered [Cond.code yX7_firstIsAnswered cX7_firstIsAnswered 2 (some .boolean)] ({ frames := 1, cells := 0, slots := 0, locals := 21 } : Room) (va_Pc [.ref h0] (fun U => TX E G B R U.heap ∧ KS E z0 U)) (va_Qi (fun (r : Int32) (u : Unit) => (r = 0 ∨ r = 1) ∧ (r.toInt = 0 ∨ 1 ≤ (B (R h0 6) 4).toInt) ∧ (C_X7_firstIsAnswered G B R h0 r)) (fun u t => True) (fun _ : Nat => False)) 0 0 (fun _ : Nat => False) := by
  refine Met.ofW (cc := cX7_firstIsAnswered) (maxL := 2) (ret := (some .boolean)) (by decide) rfl ?_
  intro p e s m args below meth c s₁ B9 hml hv
  obtain ⟨rfl, hT, hK⟩ := hv
  have hx := B9.exec
  have hb := B9.bytes
  have hr := B9.returns
  have hts : ∀ w ∈ TS, w.before ([.ref h0] : List Value).toArray s = true := fun w hw => hK.2.1 w hw _
  have hown : s.vm.findClass RX7 = some m.cls := findClass_of_methodNamed B9.named
  have hlocks := B9.notSynchronized
  have hS : va_S (fun _ : Nat => False) s.heap s.heap [] := va_S.rf
  have hAz : ∀ q, (fun _ : Nat => False) q → z0 ≤ q := fun _ h => h.elim
  have hW_0 := hW
  have hl := lv_entry ([.ref h0]) (n := 2) (Nat.le_of_ble_eq_true rfl)
  rw [lg_entry_eq]
  generalize (lg_sl ([.ref h0]) ++ List.replicate (2 - (lg_sl ([.ref h0])).length) Slot.unset).toArray = ls at hl ⊢
  have hl : lv_has ls 2 [(0, .ref h0)] := hl
  refine lv_aload_n hx hb dX7_firstIsAnswered_0 rfl (lv_at hl 0 rfl) ?_
  have ha_1 := tx_9 hT hG
  have hg_2 : G (R h0 6) = 11 := (tw_9 hW hG).2.2.2
  refine va_get (D := DG E) (ci := 7) (v := .ref (R h0 6)) (C := RX7) (T := TX7) (N := 14) hx hb hts iw_X7 hown hK.1 (va_one ha_1) 0 rfl rfl 6 (by decide) (hts _ fl_X7_41) (fun _ h9 => h9) rfl dX7_firstIsAnswered_1 ?_
  refine lv_iconst (v := 0) hx hb dX7_firstIsAnswered_4 (by decide) ?_
  have ha_3 := tx_11 hT hg_2
  refine va_callr (rnV (fun H => TX E G B R H) (As := [.int 0]) (rest := []) ⟨hx, hb, hml, hown, hts⟩ (x_X5_at l E z0 G hGz B R hW (R h0 6) (0 : Int32) hg_2 (show 0 ≤ (0 : Int32).toInt ∧ (0 : Int32).toInt ≤ 4 from by have := i_0; first | decide | omega)) (cwV 1 hts (gdV ml_X7_108 im_X5_at se_X5_X5_at in_X5 co_X5_at rfl) rfl rfl rfl (by decide +kernel) ⟨Nat.le_of_ble_eq_true rfl, Nat.le_of_ble_eq_true rfl⟩) hT (fun U hU hW => hK.go hW hS hAz hU) (va_recv hK.1 (va_one ha_3) (ci := 5) (q0 := 0) rfl rfl) rfl rfl hl.1 rfl (lv_room (Nat.le_of_ble_eq_true rfl)) dX7_firstIsAnswered_5 ⟨Nat.le_of_ble_eq_true rfl, Nat.le_of_ble_eq_true rfl⟩) hS (fun q _ h => h.elim) (fun q h => h.elim) (fun _ r_4 t H locs ht hvm hwr_4 hB hz hk hS => ?_)
  have hT : TX E G B R H := hT.kept (fun q hq => hk q hq (fun h => h))
  have hRr_4 := hB
  have hgr_4 : G r_4 = 13 := hRr_4.1
  have hCr_4 : C_X5_at G B R (R h0 6) (0 : Int32) r_4 := hRr_4.2
  refine lv_astore_n (lv' := [(1, .ref r_4), (0, .ref h0)]) hx hb dX7_firstIsAnswered_8 rfl hl (by decide) rfl (fun ls hl => ?_)
  refine lv_aload_n hx hb dX7_firstIsAnswered_9 rfl (lv_at hl 1 rfl) ?_
  have ha_5 := tx_9 hT hG
  refine va_get (D := DG E) (ci := 7) (v := .ref (R h0 6)) (C := RX7) (T := TX7) (N := 14) hx hb hts iw_X7 hown hK.1 (va_one ha_5) 0 rfl rfl 6 (by decide) (hts _ fl_X7_41) (fun _ h9 => h9) rfl dX7_firstIsAnswered_10 ?_
  have ha_6 := tx_11 hT hg_2
  have hb_7 := (tw_11 hW_0 hg_2).2.2.2
  refine va_get (D := DG E) (ci := 5) (v := .int (B (R h0 6) 4)) (C := RX5) (T := TX5) (N := 6) hx hb hts iw_X5 hown hK.1 (va_one ha_6) 0 rfl rfl 4 (by decide) (hts _ fl_X7_105) (fun _ h9 => h9) rfl dX7_firstIsAnswered_13 ?_
  refine lv_if_le (tgt := 41) hx hb dX7_firstIsAnswered_16 (by decide) (fun c_8 => ?_) (fun c_8 => ?_)
  · simp only [lt_I, le_I, eq_I, i_0, i_1, i_2, i_3, i_4, i_5, i_6, i_7, i_8, i_10, i_12, i_16, i_20, i_23, i_24, i_31, i_32, i_63, i_64, i_m1] at c_8
    refine lv_iconst (v := 0) hx hb dX7_firstIsAnswered_41 (by decide) ?_
    exact W.zret (v := 0) (ty := .boolean) hx hb hr rfl (fun t ht hW9 => ⟨⟨0, (), rfl, ⟨(by decide), (by show (0 : Int32).toInt = 0 ∨ 1 ≤ (B (R h0 6) 4).toInt; have := i_0; omega), (Or.inl ⟨r_4, hCr_4, c_8, rfl⟩)⟩, trivial⟩, hS.F ht⟩) hS.2.2 dX7_firstIsAnswered_42
  · simp only [lt_I, le_I, eq_I, i_0, i_1, i_2, i_3, i_4, i_5, i_6, i_7, i_8, i_10, i_12, i_16, i_20, i_23, i_24, i_31, i_32, i_63, i_64, i_m1] at c_8
    refine lv_aload_n hx hb dX7_firstIsAnswered_19 rfl (lv_at hl 0 rfl) ?_
    have ha_9 := tx_13 hT hgr_4
    refine va_get (D := DG E) (ci := 4) (v := .int (B r_4 4)) (C := RX4) (T := TX4) (N := 10) hx hb hts iw_X4 hown hK.1 (va_one ha_9) 0 rfl rfl 4 (by decide) (hts _ fl_X7_78) (fun _ h9 => h9) rfl dX7_firstIsAnswered_20 ?_
    refine lv_aload_n hx hb dX7_firstIsAnswered_23 rfl (lv_at hl 1 rfl) ?_
    refine va_get (D := DG E) (ci := 7) (v := .int (B h0 8)) (C := RX7) (T := TX7) (N := 14) hx hb hts iw_X7 hown hK.1 (va_one ha_5) 0 rfl rfl 8 (by decide) (hts _ fl_X7_68) (fun _ h9 => h9) rfl dX7_firstIsAnswered_24 ?_
    refine rnSN (As := [.int (B r_4 4), .int (B h0 8)]) (rest := []) ⟨hx, hb, hml, hown, hts⟩ (c_X9_distance l ((B r_4 4)) ((B h0 8))) ⟨va_cnB (host := RX9) 2 hts (gd1 co_X9_distance rfl) rfl rfl rfl (hK.2.1 _ mn_X7_112 #[]) (hts _ in_X9) (by decide +kernel) ⟨Nat.le_of_ble_eq_true rfl, Nat.le_of_ble_eq_true rfl⟩, hts _ st_X9_distance, trivial⟩ rfl rfl hl.1 rfl (lv_room (Nat.le_of_ble_eq_true rfl)) dX7_firstIsAnswered_27 ⟨Nat.le_of_ble_eq_true rfl, Nat.le_of_ble_eq_true rfl⟩ ?_
    refine W.eq (g2 := F0 m 30 ls [.int (((B h0 8) - (B r_4 4)) &&& 63)]) (by rfl) ?_
    refine lv_topi (fun x_10 ex_10 => ?_)
    have fx_10 := s_and63 ((B h0 8) - (B r_4 4)); rw [← ex_10] at fx_10
    refine lv_aload_n hx hb dX7_firstIsAnswered_30 rfl (lv_at hl 0 rfl) ?_
    refine va_get (D := DG E) (ci := 4) (v := .int (B r_4 5)) (C := RX4) (T := TX4) (N := 10) hx hb hts iw_X4 hown hK.1 (va_one ha_9) 0 rfl rfl 5 (by decide) (hts _ fl_X7_86) (fun _ h9 => h9) rfl dX7_firstIsAnswered_31 ?_
    refine lv_icmp_lt (tgt := 41) hx hb dX7_firstIsAnswered_34 (by decide) (fun c_11 => ?_) (fun c_11 => ?_)
    · simp only [lt_I, le_I, eq_I, i_0, i_1, i_2, i_3, i_4, i_5, i_6, i_7, i_8, i_10, i_12, i_16, i_20, i_23, i_24, i_31, i_32, i_63, i_64, i_m1] at c_11
      refine lv_iconst (v := 0) hx hb dX7_firstIsAnswered_41 (by decide) ?_
      exact W.zret (v := 0) (ty := .boolean) hx hb hr rfl (fun t ht hW9 => ⟨⟨0, (), rfl, ⟨(by decide), (by show (0 : Int32).toInt = 0 ∨ 1 ≤ (B (R h0 6) 4).toInt; have := i_0; omega), (Or.inr (Or.inl ⟨r_4, hCr_4, c_8, x_10, ex_10, c_11, rfl⟩))⟩, trivial⟩, hS.F ht⟩) hS.2.2 dX7_firstIsAnswered_42
    · simp only [lt_I, le_I, eq_I, i_0, i_1, i_2, i_3, i_4, i_5, i_6, i_7, i_8, i_10, i_12, i_16, i_20, i_23, i_24, i_31, i_32, i_63, i_64, i_m1] at c_11
      refine lv_iconst (v := 1) hx hb dX7_firstIsAnswered_37 (by decide) ?_
      refine lv_goto (tgt := 42) hx hb dX7_firstIsAnswered_38 (by decide) ?_
      exact W.zret (v := 1) (ty := .boolean) hx hb hr rfl (fun t ht hW9 => ⟨⟨1, (), rfl, ⟨(by decide), (by show (1 : Int32).toInt = 0 ∨ 1 ≤ (B (R h0 6) 4).toInt; have := i_1; omega), (Or.inr (Or.inr ⟨r_4, hCr_4, c_8, x_10, ex_10, c_11, rfl⟩))⟩, trivial⟩, hS.F ht⟩) hS.2.2 dX7_firstIsAnswered_42
theorem gdX7_answer_0 : (decode cX7_answer 0 = .ok (.iload_n 1, 1)) ∧ (decode cX7_answer 1 = .ok (.ifCond .ne 4, 3)) ∧ (decode cX7_answer 4 = .ok (.return_, 1)) ∧ (decode cX7_answer 5 = .ok (.aload_n 0, 1)) ∧ (decode cX7_answer 6 = .ok (.aload_n 0, 1)) ∧ (decode cX7_answer 7 = .ok (.getfield 68, 3)) ∧ (decode cX7_answer 10 = .ok (.iload_n 1, 1)) ∧ (decode cX7_answer 11 = .ok (.invokestatic 98, 3)) ∧ (decode cX7_answer 14 = .ok (.putfield 68, 3)) ∧ (decode cX7_answer 17 = .ok (.aload_n 0, 1)) ∧ (decode cX7_answer 18 = .ok (.iconst 0, 1)) ∧ (decode cX7_answer 19 = .ok (.putfield 52, 3)) ∧ (decode cX7_answer 22 = .ok (.aload_n 0, 1)) ∧ (decode cX7_answer 23 = .ok (.iconst 0, 1)) ∧ (decode cX7_answer 24 = .ok (.putfield 55, 3)) ∧ (decode cX7_answer 27 = .ok (.aload_n 0, 1)) := by decide +kernel
theorem dX7_answer_0 : decode cX7_answer 0 = .ok (.iload_n 1, 1) := gdX7_answer_0.1
theorem dX7_answer_1 : decode cX7_answer 1 = .ok (.ifCond .ne 4, 3) := gdX7_answer_0.2.1
theorem dX7_answer_4 : decode cX7_answer 4 = .ok (.return_, 1) := gdX7_answer_0.2.2.1
theorem dX7_answer_5 : decode cX7_answer 5 = .ok (.aload_n 0, 1) := gdX7_answer_0.2.2.2.1
theorem dX7_answer_6 : decode cX7_answer 6 = .ok (.aload_n 0, 1) := gdX7_answer_0.2.2.2.2.1
theorem dX7_answer_7 : decode cX7_answer 7 = .ok (.getfield 68, 3) := gdX7_answer_0.2.2.2.2.2.1
theorem dX7_answer_10 : decode cX7_answer 10 = .ok (.iload_n 1, 1) := gdX7_answer_0.2.2.2.2.2.2.1
theorem dX7_answer_11 : decode cX7_answer 11 = .ok (.invokestatic 98, 3) := gdX7_answer_0.2.2.2.2.2.2.2.1
theorem dX7_answer_14 : decode cX7_answer 14 = .ok (.putfield 68, 3) := gdX7_answer_0.2.2.2.2.2.2.2.2.1
theorem dX7_answer_17 : decode cX7_answer 17 = .ok (.aload_n 0, 1) := gdX7_answer_0.2.2.2.2.2.2.2.2.2.1
theorem dX7_answer_18 : decode cX7_answer 18 = .ok (.iconst 0, 1) := gdX7_answer_0.2.2.2.2.2.2.2.2.2.2.1
theorem dX7_answer_19 : decode cX7_answer 19 = .ok (.putfield 52, 3) := gdX7_answer_0.2.2.2.2.2.2.2.2.2.2.2.1
theorem dX7_answer_22 : decode cX7_answer 22 = .ok (.aload_n 0, 1) := gdX7_answer_0.2.2.2.2.2.2.2.2.2.2.2.2.1
theorem dX7_answer_23 : decode cX7_answer 23 = .ok (.iconst 0, 1) := gdX7_answer_0.2.2.2.2.2.2.2.2.2.2.2.2.2.1
theorem dX7_answer_24 : decode cX7_answer 24 = .ok (.putfield 55, 3) := gdX7_answer_0.2.2.2.2.2.2.2.2.2.2.2.2.2.2.1
theorem dX7_answer_27 : decode cX7_answer 27 = .ok (.aload_n 0, 1) := gdX7_answer_0.2.2.2.2.2.2.2.2.2.2.2.2.2.2.2
theorem gdX7_answer_28 : (decode cX7_answer 28 = .ok (.iconst 0, 1)) ∧ (decode cX7_answer 29 = .ok (.putfield 58, 3)) ∧ (decode cX7_answer 32 = .ok (.aload_n 0, 1)) ∧ (decode cX7_answer 33 = .ok (.iconst 0, 1)) ∧ (decode cX7_answer 34 = .ok (.putfield 61, 3)) ∧ (decode cX7_answer 37 = .ok (.iconst 0, 1)) ∧ (decode cX7_answer 38 = .ok (.istore_n 2, 1)) ∧ (decode cX7_answer 39 = .ok (.iload_n 2, 1)) ∧ (decode cX7_answer 40 = .ok (.iconst 4, 1)) ∧ (decode cX7_answer 41 = .ok (.if_icmp .ge 24, 3)) ∧ (decode cX7_answer 44 = .ok (.aload_n 0, 1)) ∧ (decode cX7_answer 45 = .ok (.invokevirtual 184, 3)) ∧ (decode cX7_answer 48 = .ok (.ifCond .eq 17, 3)) ∧ (decode cX7_answer 51 = .ok (.aload_n 0, 1)) ∧ (decode cX7_answer 52 = .ok (.getfield 41, 3)) ∧ (decode cX7_answer 55 = .ok (.iconst 0, 1)) := by decide +kernel
theorem dX7_answer_28 : decode cX7_answer 28 = .ok (.iconst 0, 1) := gdX7_answer_28.1
theorem dX7_answer_29 : decode cX7_answer 29 = .ok (.putfield 58, 3) := gdX7_answer_28.2.1
theorem dX7_answer_32 : decode cX7_answer 32 = .ok (.aload_n 0, 1) := gdX7_answer_28.2.2.1
theorem dX7_answer_33 : decode cX7_answer 33 = .ok (.iconst 0, 1) := gdX7_answer_28.2.2.2.1
theorem dX7_answer_34 : decode cX7_answer 34 = .ok (.putfield 61, 3) := gdX7_answer_28.2.2.2.2.1
theorem dX7_answer_37 : decode cX7_answer 37 = .ok (.iconst 0, 1) := gdX7_answer_28.2.2.2.2.2.1
theorem dX7_answer_38 : decode cX7_answer 38 = .ok (.istore_n 2, 1) := gdX7_answer_28.2.2.2.2.2.2.1
theorem dX7_answer_39 : decode cX7_answer 39 = .ok (.iload_n 2, 1) := gdX7_answer_28.2.2.2.2.2.2.2.1
theorem dX7_answer_40 : decode cX7_answer 40 = .ok (.iconst 4, 1) := gdX7_answer_28.2.2.2.2.2.2.2.2.1
theorem dX7_answer_41 : decode cX7_answer 41 = .ok (.if_icmp .ge 24, 3) := gdX7_answer_28.2.2.2.2.2.2.2.2.2.1
theorem dX7_answer_44 : decode cX7_answer 44 = .ok (.aload_n 0, 1) := gdX7_answer_28.2.2.2.2.2.2.2.2.2.2.1
theorem dX7_answer_45 : decode cX7_answer 45 = .ok (.invokevirtual 184, 3) := gdX7_answer_28.2.2.2.2.2.2.2.2.2.2.2.1
theorem dX7_answer_48 : decode cX7_answer 48 = .ok (.ifCond .eq 17, 3) := gdX7_answer_28.2.2.2.2.2.2.2.2.2.2.2.2.1
theorem dX7_answer_51 : decode cX7_answer 51 = .ok (.aload_n 0, 1) := gdX7_answer_28.2.2.2.2.2.2.2.2.2.2.2.2.2.1
theorem dX7_answer_52 : decode cX7_answer 52 = .ok (.getfield 41, 3) := gdX7_answer_28.2.2.2.2.2.2.2.2.2.2.2.2.2.2.1
theorem dX7_answer_55 : decode cX7_answer 55 = .ok (.iconst 0, 1) := gdX7_answer_28.2.2.2.2.2.2.2.2.2.2.2.2.2.2.2
theorem gdX7_answer_56 : (decode cX7_answer 56 = .ok (.invokevirtual 187, 3)) ∧ (decode cX7_answer 59 = .ok (.iinc 2 1, 3)) ∧ (decode cX7_answer 62 = .ok (.goto (-23), 3)) ∧ (decode cX7_answer 65 = .ok (.return_, 1)) := by decide +kernel
theorem dX7_answer_56 : decode cX7_answer 56 = .ok (.invokevirtual 187, 3) := gdX7_answer_56.1
theorem dX7_answer_59 : decode cX7_answer 59 = .ok (.iinc 2 1, 3) := gdX7_answer_56.2.1
theorem dX7_answer_62 : decode cX7_answer 62 = .ok (.goto (-23), 3) := gdX7_answer_56.2.2.1
theorem dX7_answer_65 : decode cX7_answer 65 = .ok (.return_, 1) := gdX7_answer_56.2.2.2
set_option maxHeartbeats 8000000 in
set_option maxRecDepth 100000 in
theorem x_X7_answer (l : Launch) (E : EE) (z0 : Nat) (G : Nat → Nat) (hGz : ∀ q, G q ≠ 0 → z0 ≤ q) (B : AA) (R : RR) (hW : TW G B R) (h0 : Nat) (p0 : Int32) (hG : G h0 = 9) : Met l yX7_answer [Cond.code yX7_answer cX7_answer 3 none] ({ frames := 2, cells := 0, slots := 0, locals := 45 } : Room) (va_Pc [.ref h0, .int p0] (fun U => TX E G B R U.heap ∧ KS E z0 U)) (va_Qv (fun (u : AA) => (TW G u R) ∧ (Fr G ([9, 11, 5, 15] : List Nat) B u) ∧ (C_X7_answer G B R h0 p0 u)) (fun u t => TX E G u R t.heap) (fun q : Nat => G q ∈ ([9, 11, 5, 15] : List Nat))) 0 0 (fun q : Nat => G q ∈ ([9, 11, 5, 15] : List Nat)) := by
  refine Met.ofW (cc := cX7_answer) (maxL := 3) (ret := none) (by decide) rfl ?_
  intro p e s m args below meth c s₁ B9 hml hv
  obtain ⟨rfl, hT, hK⟩ := hv
  have hx := B9.exec
  have hb := B9.bytes
  have hr := B9.returns
  have hts : ∀ w ∈ TS, w.before ([.ref h0, .int p0] : List Value).toArray s = true := fun w hw => hK.2.1 w hw _
  have hown : s.vm.findClass RX7 = some m.cls := findClass_of_methodNamed B9.named
  have hlocks := B9.notSynchronized
  have hS : va_S (fun q : Nat => G q ∈ ([9, 11, 5, 15] : List Nat)) s.heap s.heap [] := va_S.rf
  have hAz : ∀ q, (fun q : Nat => G q ∈ ([9, 11, 5, 15] : List Nat)) q → z0 ≤ q := zL hGz (by decide)
  have hW_0 := hW
  have hl := lv_entry ([.ref h0, .int p0]) (n := 3) (Nat.le_of_ble_eq_true rfl)
  rw [lg_entry_eq]
  generalize (lg_sl ([.ref h0, .int p0]) ++ List.replicate (3 - (lg_sl ([.ref h0, .int p0])).length) Slot.unset).toArray = ls at hl ⊢
  have hl : lv_has ls 3 [(0, .ref h0), (1, .int p0)] := hl
  refine lv_iload_n hx hb dX7_answer_0 rfl (lv_at hl 1 rfl) ?_
  refine lv_if_ne (tgt := 5) hx hb dX7_answer_1 (by decide) (fun c_1 => ?_) (fun c_1 => ?_)
  · simp only [lt_I, le_I, eq_I, i_0, i_1, i_2, i_3, i_4, i_5, i_6, i_7, i_8, i_10, i_12, i_16, i_20, i_23, i_24, i_31, i_32, i_63, i_64, i_m1] at c_1
    refine lv_aload_n hx hb dX7_answer_5 rfl (lv_at hl 0 rfl) ?_
    refine lv_aload_n hx hb dX7_answer_6 rfl (lv_at hl 0 rfl) ?_
    have ha_2 := tx_9 hT hG
    refine va_get (D := DG E) (ci := 7) (v := .int (B h0 8)) (C := RX7) (T := TX7) (N := 14) hx hb hts iw_X7 hown hK.1 (va_one ha_2) 0 rfl rfl 8 (by decide) (hts _ fl_X7_68) (fun _ h9 => h9) rfl dX7_answer_7 ?_
    refine lv_iload_n hx hb dX7_answer_10 rfl (lv_at hl 1 rfl) ?_
    refine rnSN (As := [.int (B h0 8), .int p0]) (rest := [.ref h0]) ⟨hx, hb, hml, hown, hts⟩ (c_X9_after l ((B h0 8)) p0) ⟨va_cnB (host := RX9) 2 hts (gd1 co_X9_after rfl) rfl rfl rfl (hK.2.1 _ mn_X7_98 #[]) (hts _ in_X9) (by decide +kernel) ⟨Nat.le_of_ble_eq_true rfl, Nat.le_of_ble_eq_true rfl⟩, hts _ st_X9_after, trivial⟩ rfl rfl hl.1 rfl (lv_room (Nat.le_of_ble_eq_true rfl)) dX7_answer_11 ⟨Nat.le_of_ble_eq_true rfl, Nat.le_of_ble_eq_true rfl⟩ ?_
    refine W.eq (g2 := F0 m 14 ls [.int (((B h0 8) + p0) &&& 63), .ref h0]) (by rfl) ?_
    refine lv_topi (fun x_3 ex_3 => ?_)
    have fx_3 := s_and63 ((B h0 8) + p0); rw [← ex_3] at fx_3
    refine rr_put (D := DG E) (ci := 7) (v := .int x_3) (ty := .int) (C := RX7) (T := TX7) (N := 14) hx hb hts iw_X7 tyX7 tyX7_ok nmX7 hown hK.1 ha_2 hS (by show G h0 ∈ ([9, 11, 5, 15] : List Nat); rw [hG]; decide) rfl 8 (by decide) (hts _ fl_X7_68) (fun _ h9 => h9) rfl (by decide +kernel) rfl rfl (Nat.le_of_ble_eq_true rfl) dX7_answer_14 (fun H locs hn ho hz hS => ?_)
    obtain ⟨B_4, eB_4⟩ : ∃ z : AA, z = uA B h0 (upd (B h0) 8 x_3) := ⟨_, rfl⟩
    have sB_4 : B_4 h0 8 = x_3 := by rw [eB_4, uA_s]; exact upd_s
    have nB_4 : ∀ k, k ≠ 8 → B_4 h0 k = B h0 k := fun k hk => by rw [eB_4, uA_s]; exact upd_n hk
    have fB_4 : ∀ c, G c ≠ 9 → B_4 c = B c := fun c hc => by rw [eB_4]; exact uA_n (fun e => hc (by rw [e]; exact hG))
    have hT : TX E G B_4 R H := by rw [eB_4]; exact hT.w (by rw [hG]; exact hn) ho
    have hWB_4 : TW G B_4 R := by rw [eB_4]; exact hW_0.w (by rw [hG]; exact tw_9 hW_0 hG)
    have hW := hWB_4
    refine lv_aload_n hx hb dX7_answer_17 rfl (lv_at hl 0 rfl) ?_
    refine lv_iconst (v := 0) hx hb dX7_answer_18 (by decide) ?_
    have ha_5 := tx_9 hT hG
    refine rr_put (D := DG E) (ci := 7) (v := .int 0) (ty := .int) (C := RX7) (T := TX7) (N := 14) hx hb hts iw_X7 tyX7 tyX7_ok nmX7 hown hK.1 ha_5 hS (by show G h0 ∈ ([9, 11, 5, 15] : List Nat); rw [hG]; decide) rfl 10 (by decide) (hts _ fl_X7_52) (fun _ h9 => h9) rfl (by decide +kernel) rfl rfl (Nat.le_of_ble_eq_true rfl) dX7_answer_19 (fun H locs hn ho hz hS => ?_)
    obtain ⟨B_6, eB_6⟩ : ∃ z : AA, z = uA B_4 h0 (upd (B_4 h0) 10 0) := ⟨_, rfl⟩
    have sB_6 : B_6 h0 10 = 0 := by rw [eB_6, uA_s]; exact upd_s
    have nB_6 : ∀ k, k ≠ 10 → B_6 h0 k = B_4 h0 k := fun k hk => by rw [eB_6, uA_s]; exact upd_n hk
    have fB_6 : ∀ c, G c ≠ 9 → B_6 c = B_4 c := fun c hc => by rw [eB_6]; exact uA_n (fun e => hc (by rw [e]; exact hG))
    have hT : TX E G B_6 R H := by rw [eB_6]; exact hT.w (by rw [hG]; exact hn) ho
    have hWB_6 : TW G B_6 R := by rw [eB_6]; exact hWB_4.w (by rw [hG]; exact tw_9 hWB_4 hG)
    have hW := hWB_6
    refine lv_aload_n hx hb dX7_answer_22 rfl (lv_at hl 0 rfl) ?_
    refine lv_iconst (v := 0) hx hb dX7_answer_23 (by decide) ?_
    have ha_7 := tx_9 hT hG
    refine rr_put (D := DG E) (ci := 7) (v := .int 0) (ty := .int) (C := RX7) (T := TX7) (N := 14) hx hb hts iw_X7 tyX7 tyX7_ok nmX7 hown hK.1 ha_7 hS (by show G h0 ∈ ([9, 11, 5, 15] : List Nat); rw [hG]; decide) rfl 11 (by decide) (hts _ fl_X7_55) (fun _ h9 => h9) rfl (by decide +kernel) rfl rfl (Nat.le_of_ble_eq_true rfl) dX7_answer_24 (fun H locs hn ho hz hS => ?_)
    obtain ⟨B_8, eB_8⟩ : ∃ z : AA, z = uA B_6 h0 (upd (B_6 h0) 11 0) := ⟨_, rfl⟩
    have sB_8 : B_8 h0 11 = 0 := by rw [eB_8, uA_s]; exact upd_s
    have nB_8 : ∀ k, k ≠ 11 → B_8 h0 k = B_6 h0 k := fun k hk => by rw [eB_8, uA_s]; exact upd_n hk
    have fB_8 : ∀ c, G c ≠ 9 → B_8 c = B_6 c := fun c hc => by rw [eB_8]; exact uA_n (fun e => hc (by rw [e]; exact hG))
    have hT : TX E G B_8 R H := by rw [eB_8]; exact hT.w (by rw [hG]; exact hn) ho
    have hWB_8 : TW G B_8 R := by rw [eB_8]; exact hWB_6.w (by rw [hG]; exact tw_9 hWB_6 hG)
    have hW := hWB_8
    refine lv_aload_n hx hb dX7_answer_27 rfl (lv_at hl 0 rfl) ?_
    refine lv_iconst (v := 0) hx hb dX7_answer_28 (by decide) ?_
    have ha_9 := tx_9 hT hG
    refine rr_put (D := DG E) (ci := 7) (v := .int 0) (ty := .int) (C := RX7) (T := TX7) (N := 14) hx hb hts iw_X7 tyX7 tyX7_ok nmX7 hown hK.1 ha_9 hS (by show G h0 ∈ ([9, 11, 5, 15] : List Nat); rw [hG]; decide) rfl 12 (by decide) (hts _ fl_X7_58) (fun _ h9 => h9) rfl (by decide +kernel) rfl rfl (Nat.le_of_ble_eq_true rfl) dX7_answer_29 (fun H locs hn ho hz hS => ?_)
    obtain ⟨B_10, eB_10⟩ : ∃ z : AA, z = uA B_8 h0 (upd (B_8 h0) 12 0) := ⟨_, rfl⟩
    have sB_10 : B_10 h0 12 = 0 := by rw [eB_10, uA_s]; exact upd_s
    have nB_10 : ∀ k, k ≠ 12 → B_10 h0 k = B_8 h0 k := fun k hk => by rw [eB_10, uA_s]; exact upd_n hk
    have fB_10 : ∀ c, G c ≠ 9 → B_10 c = B_8 c := fun c hc => by rw [eB_10]; exact uA_n (fun e => hc (by rw [e]; exact hG))
    have hT : TX E G B_10 R H := by rw [eB_10]; exact hT.w (by rw [hG]; exact hn) ho
    have hWB_10 : TW G B_10 R := by rw [eB_10]; exact hWB_8.w (by rw [hG]; exact tw_9 hWB_8 hG)
    have hW := hWB_10
    refine lv_aload_n hx hb dX7_answer_32 rfl (lv_at hl 0 rfl) ?_
    refine lv_iconst (v := 0) hx hb dX7_answer_33 (by decide) ?_
    have ha_11 := tx_9 hT hG
    refine rr_put (D := DG E) (ci := 7) (v := .int 0) (ty := .boolean) (C := RX7) (T := TX7) (N := 14) hx hb hts iw_X7 tyX7 tyX7_ok nmX7 hown hK.1 ha_11 hS (by show G h0 ∈ ([9, 11, 5, 15] : List Nat); rw [hG]; decide) rfl 13 (by decide) (hts _ fl_X7_61) (fun _ h9 => h9) rfl (by decide +kernel) rfl rfl (Nat.le_of_ble_eq_true rfl) dX7_answer_34 (fun H locs hn ho hz hS => ?_)
    obtain ⟨B_12, eB_12⟩ : ∃ z : AA, z = uA B_10 h0 (upd (B_10 h0) 13 0) := ⟨_, rfl⟩
    have sB_12 : B_12 h0 13 = 0 := by rw [eB_12, uA_s]; exact upd_s
    have nB_12 : ∀ k, k ≠ 13 → B_12 h0 k = B_10 h0 k := fun k hk => by rw [eB_12, uA_s]; exact upd_n hk
    have fB_12 : ∀ c, G c ≠ 9 → B_12 c = B_10 c := fun c hc => by rw [eB_12]; exact uA_n (fun e => hc (by rw [e]; exact hG))
    have hT : TX E G B_12 R H := by rw [eB_12]; exact hT.w (by rw [hG]; exact hn) ho
    have hWB_12 : TW G B_12 R := by rw [eB_12]; exact hWB_10.w (by rw [hG]; exact tw_9 hWB_10 hG)
    have hW := hWB_12
    refine lv_iconst (v := 0) hx hb dX7_answer_37 (by decide) ?_
    refine lv_istore_n (lv' := [(2, .int 0), (0, .ref h0), (1, .int p0)]) hx hb dX7_answer_38 rfl hl (by decide) rfl (fun ls hl => ?_)
    refine lv_iload_n hx hb dX7_answer_39 rfl (lv_at hl 0 rfl) ?_
    refine lv_iconst (v := 4) hx hb dX7_answer_40 (by decide) ?_
    refine lv_icmp_ge (tgt := 65) hx hb dX7_answer_41 (by decide) (fun c_13 => absurd c_13 (by decide)) (fun c_13 => ?_)
    refine lv_aload_n hx hb dX7_answer_44 rfl (lv_at hl 1 rfl) ?_
    have ha_14 := tx_9 hT hG
    refine va_calli (rnV (fun H => TX E G B_12 R H) (As := []) (rest := []) ⟨hx, hb, hml, hown, hts⟩ (x_X7_firstIsAnswered l E z0 G hGz B_12 R hW h0 hG) (cwV 0 hts (gdV ml_X7_184 im_X7_firstIsAnswered se_X7_X7_firstIsAnswered in_X7 co_X7_firstIsAnswered rfl) rfl rfl rfl (by decide +kernel) ⟨Nat.le_of_ble_eq_true rfl, Nat.le_of_ble_eq_true rfl⟩) hT (fun U hU hW => hK.go hW hS hAz hU) (va_recv hK.1 (va_one ha_14) (ci := 7) (q0 := 0) rfl rfl) rfl rfl hl.1 rfl (lv_room (Nat.le_of_ble_eq_true rfl)) dX7_answer_45 ⟨Nat.le_of_ble_eq_true rfl, Nat.le_of_ble_eq_true rfl⟩) hS (fun q _ h => h.elim) (fun q h => h.elim) (fun r_15 _ t H locs ht hvm hwr_15 hB hz hk hS => ?_)
    have hT : TX E G B_12 R H := hT.kept (fun q hq => hk q hq (fun h => h))
    have hbr_15 : r_15 = 0 ∨ r_15 = 1 := hwr_15.1
    have hp0r_15 : r_15.toInt = 0 ∨ 1 ≤ (B_12 (R h0 6) 4).toInt := hwr_15.2.1
    have hCr_15 : C_X7_firstIsAnswered G B_12 R h0 r_15 := hwr_15.2.2
    have hzr_15 := s_rng hbr_15
    refine lv_if_eq (tgt := 65) hx hb dX7_answer_48 (by decide) (fun c_16 => ?_) (fun c_16 => ?_)
    · simp only [lt_I, le_I, eq_I, i_0, i_1, i_2, i_3, i_4, i_5, i_6, i_7, i_8, i_10, i_12, i_16, i_20, i_23, i_24, i_31, i_32, i_63, i_64, i_m1] at c_16
      exact W.vret hx hb hr (fun t ht hW9 => ⟨⟨B_12, rfl, ⟨hW, (Fr.w (Fr.w (Fr.w (Fr.w (Fr.w Fr.rf hG (by decide) eB_4) hG (by decide) eB_6) hG (by decide) eB_8) hG (by decide) eB_10) hG (by decide) eB_12), (Or.inl ⟨c_1, x_3, ex_3, B_4, eB_4, B_6, eB_6, B_8, eB_8, B_10, eB_10, B_12, eB_12, r_15, hCr_15, c_16, rfl⟩)⟩, (by show TX E G B_12 R t.heap; rw [ht]; exact hT)⟩, hS.F ht⟩) hS.2.2 dX7_answer_65
    · simp only [lt_I, le_I, eq_I, i_0, i_1, i_2, i_3, i_4, i_5, i_6, i_7, i_8, i_10, i_12, i_16, i_20, i_23, i_24, i_31, i_32, i_63, i_64, i_m1] at c_16
      refine lv_aload_n hx hb dX7_answer_51 rfl (lv_at hl 1 rfl) ?_
      have ha_17 := tx_9 hT hG
      have hg_18 : G (R h0 6) = 11 := (tw_9 hW hG).2.2.2
      refine va_get (D := DG E) (ci := 7) (v := .ref (R h0 6)) (C := RX7) (T := TX7) (N := 14) hx hb hts iw_X7 hown hK.1 (va_one ha_17) 0 rfl rfl 6 (by decide) (hts _ fl_X7_41) (fun _ h9 => h9) rfl dX7_answer_52 ?_
      refine lv_iconst (v := 0) hx hb dX7_answer_55 (by decide) ?_
      have l_19 : B_12 (R h0 6) 4 = (B (R h0 6) 4) := ((congrFun (fB_12 (R h0 6) (by rw [hg_18]; decide)) 4)).trans (((congrFun (fB_10 (R h0 6) (by rw [hg_18]; decide)) 4)).trans (((congrFun (fB_8 (R h0 6) (by rw [hg_18]; decide)) 4)).trans (((congrFun (fB_6 (R h0 6) (by rw [hg_18]; decide)) 4)).trans ((congrFun (fB_4 (R h0 6) (by rw [hg_18]; decide)) 4)))))
      have hb_20 := (tw_11 hW_0 hg_18).2.2.2
      have ha_21 := tx_11 hT hg_18
      refine va_callv (rnV (fun H => TX E G B_12 R H) (As := [.int 0]) (rest := []) ⟨hx, hb, hml, hown, hts⟩ (x_X5_completeFirst l E z0 G hGz B_12 R hW (R h0 6) (0 : Int32) hg_18 (show 1 ≤ (B_12 (R h0 6) 4).toInt from by have := congrArg Int32.toInt l_19; have := i_0; first | decide | omega)) (cwV 1 hts (gdV ml_X7_187 im_X5_completeFirst se_X5_X5_completeFirst in_X5 co_X5_completeFirst rfl) rfl rfl rfl (by decide +kernel) ⟨Nat.le_of_ble_eq_true rfl, Nat.le_of_ble_eq_true rfl⟩) hT (fun U hU hW => hK.go hW hS hAz hU) (va_recv hK.1 (va_one ha_21) (ci := 5) (q0 := 0) rfl rfl) rfl rfl hl.1 rfl (lv_room (Nat.le_of_ble_eq_true rfl)) dX7_answer_56 ⟨Nat.le_of_ble_eq_true rfl, Nat.le_of_ble_eq_true rfl⟩) hS (fun q _ h => mL (L' := [5, 15, 11]) (L := [9, 11, 5, 15]) (by decide) h) (fun q h => mL (L' := [5, 15, 11]) (L := [9, 11, 5, 15]) (by decide) h) (fun U_23 t H locs ht hvm hwr_22 hB hz hk hS => ?_)
      have hT : TX E G U_23 R H := by rw [ht] at hB; exact hB
      have hWr_22 : TW G U_23 R := hwr_22.1
      have hW := hWr_22
      have hFr_22 : Fr G [5, 15, 11] B_12 U_23 := hwr_22.2.1
      have hCr_22 : C_X5_completeFirst G B_12 R (R h0 6) (0 : Int32) U_23 := hwr_22.2.2
      refine lv_iinc (v := 1) (lv' := [(2, .int 1), (0, .ref h0), (1, .int p0)]) hx hb dX7_answer_59 hl (k := 0) rfl (by decide) (by decide) rfl (fun ls hl => ?_)
      refine lv_goto (tgt := 39) hx hb dX7_answer_62 (by decide) ?_
      refine lv_iload_n hx hb dX7_answer_39 rfl (lv_at hl 0 rfl) ?_
      refine lv_iconst (v := 4) hx hb dX7_answer_40 (by decide) ?_
      refine lv_icmp_ge (tgt := 65) hx hb dX7_answer_41 (by decide) (fun c_24 => absurd c_24 (by decide)) (fun c_24 => ?_)
      refine lv_aload_n hx hb dX7_answer_44 rfl (lv_at hl 1 rfl) ?_
      have ha_25 := tx_9 hT hG
      refine va_calli (rnV (fun H => TX E G U_23 R H) (As := []) (rest := []) ⟨hx, hb, hml, hown, hts⟩ (x_X7_firstIsAnswered l E z0 G hGz U_23 R hW h0 hG) (cwV 0 hts (gdV ml_X7_184 im_X7_firstIsAnswered se_X7_X7_firstIsAnswered in_X7 co_X7_firstIsAnswered rfl) rfl rfl rfl (by decide +kernel) ⟨Nat.le_of_ble_eq_true rfl, Nat.le_of_ble_eq_true rfl⟩) hT (fun U hU hW => hK.go hW hS hAz hU) (va_recv hK.1 (va_one ha_25) (ci := 7) (q0 := 0) rfl rfl) rfl rfl hl.1 rfl (lv_room (Nat.le_of_ble_eq_true rfl)) dX7_answer_45 ⟨Nat.le_of_ble_eq_true rfl, Nat.le_of_ble_eq_true rfl⟩) hS (fun q _ h => h.elim) (fun q h => h.elim) (fun r_26 _ t H locs ht hvm hwr_26 hB hz hk hS => ?_)
      have hT : TX E G U_23 R H := hT.kept (fun q hq => hk q hq (fun h => h))
      have hbr_26 : r_26 = 0 ∨ r_26 = 1 := hwr_26.1
      have hp0r_26 : r_26.toInt = 0 ∨ 1 ≤ (U_23 (R h0 6) 4).toInt := hwr_26.2.1
      have hCr_26 : C_X7_firstIsAnswered G U_23 R h0 r_26 := hwr_26.2.2
      have hzr_26 := s_rng hbr_26
      refine lv_if_eq (tgt := 65) hx hb dX7_answer_48 (by decide) (fun c_27 => ?_) (fun c_27 => ?_)
      · simp only [lt_I, le_I, eq_I, i_0, i_1, i_2, i_3, i_4, i_5, i_6, i_7, i_8, i_10, i_12, i_16, i_20, i_23, i_24, i_31, i_32, i_63, i_64, i_m1] at c_27
        exact W.vret hx hb hr (fun t ht hW9 => ⟨⟨U_23, rfl, ⟨hW, (Fr.c (Fr.w (Fr.w (Fr.w (Fr.w (Fr.w Fr.rf hG (by decide) eB_4) hG (by decide) eB_6) hG (by decide) eB_8) hG (by decide) eB_10) hG (by decide) eB_12) hFr_22 (by decide)), (Or.inr (Or.inl ⟨c_1, x_3, ex_3, B_4, eB_4, B_6, eB_6, B_8, eB_8, B_10, eB_10, B_12, eB_12, r_15, hCr_15, c_16, U_23, hFr_22, hCr_22, r_26, hCr_26, c_27, rfl⟩))⟩, (by show TX E G U_23 R t.heap; rw [ht]; exact hT)⟩, hS.F ht⟩) hS.2.2 dX7_answer_65
      · simp only [lt_I, le_I, eq_I, i_0, i_1, i_2, i_3, i_4, i_5, i_6, i_7, i_8, i_10, i_12, i_16, i_20, i_23, i_24, i_31, i_32, i_63, i_64, i_m1] at c_27
        refine lv_aload_n hx hb dX7_answer_51 rfl (lv_at hl 1 rfl) ?_
        have ha_28 := tx_9 hT hG
        refine va_get (D := DG E) (ci := 7) (v := .ref (R h0 6)) (C := RX7) (T := TX7) (N := 14) hx hb hts iw_X7 hown hK.1 (va_one ha_28) 0 rfl rfl 6 (by decide) (hts _ fl_X7_41) (fun _ h9 => h9) rfl dX7_answer_52 ?_
        refine lv_iconst (v := 0) hx hb dX7_answer_55 (by decide) ?_
        have hb_29 := (tw_11 hWr_22 hg_18).2.2.2
        have ha_30 := tx_11 hT hg_18
        refine va_callv (rnV (fun H => TX E G U_23 R H) (As := [.int 0]) (rest := []) ⟨hx, hb, hml, hown, hts⟩ (x_X5_completeFirst l E z0 G hGz U_23 R hW (R h0 6) (0 : Int32) hg_18 (show 1 ≤ (U_23 (R h0 6) 4).toInt from by have := i_0; first | decide | omega)) (cwV 1 hts (gdV ml_X7_187 im_X5_completeFirst se_X5_X5_completeFirst in_X5 co_X5_completeFirst rfl) rfl rfl rfl (by decide +kernel) ⟨Nat.le_of_ble_eq_true rfl, Nat.le_of_ble_eq_true rfl⟩) hT (fun U hU hW => hK.go hW hS hAz hU) (va_recv hK.1 (va_one ha_30) (ci := 5) (q0 := 0) rfl rfl) rfl rfl hl.1 rfl (lv_room (Nat.le_of_ble_eq_true rfl)) dX7_answer_56 ⟨Nat.le_of_ble_eq_true rfl, Nat.le_of_ble_eq_true rfl⟩) hS (fun q _ h => mL (L' := [5, 15, 11]) (L := [9, 11, 5, 15]) (by decide) h) (fun q h => mL (L' := [5, 15, 11]) (L := [9, 11, 5, 15]) (by decide) h) (fun U_32 t H locs ht hvm hwr_31 hB hz hk hS => ?_)
        have hT : TX E G U_32 R H := by rw [ht] at hB; exact hB
        have hWr_31 : TW G U_32 R := hwr_31.1
        have hW := hWr_31
        have hFr_31 : Fr G [5, 15, 11] U_23 U_32 := hwr_31.2.1
        have hCr_31 : C_X5_completeFirst G U_23 R (R h0 6) (0 : Int32) U_32 := hwr_31.2.2
        refine lv_iinc (v := 2) (lv' := [(2, .int 2), (0, .ref h0), (1, .int p0)]) hx hb dX7_answer_59 hl (k := 0) rfl (by decide) (by decide) rfl (fun ls hl => ?_)
        refine lv_goto (tgt := 39) hx hb dX7_answer_62 (by decide) ?_
        refine lv_iload_n hx hb dX7_answer_39 rfl (lv_at hl 0 rfl) ?_
        refine lv_iconst (v := 4) hx hb dX7_answer_40 (by decide) ?_
        refine lv_icmp_ge (tgt := 65) hx hb dX7_answer_41 (by decide) (fun c_33 => absurd c_33 (by decide)) (fun c_33 => ?_)
        refine lv_aload_n hx hb dX7_answer_44 rfl (lv_at hl 1 rfl) ?_
        have ha_34 := tx_9 hT hG
        refine va_calli (rnV (fun H => TX E G U_32 R H) (As := []) (rest := []) ⟨hx, hb, hml, hown, hts⟩ (x_X7_firstIsAnswered l E z0 G hGz U_32 R hW h0 hG) (cwV 0 hts (gdV ml_X7_184 im_X7_firstIsAnswered se_X7_X7_firstIsAnswered in_X7 co_X7_firstIsAnswered rfl) rfl rfl rfl (by decide +kernel) ⟨Nat.le_of_ble_eq_true rfl, Nat.le_of_ble_eq_true rfl⟩) hT (fun U hU hW => hK.go hW hS hAz hU) (va_recv hK.1 (va_one ha_34) (ci := 7) (q0 := 0) rfl rfl) rfl rfl hl.1 rfl (lv_room (Nat.le_of_ble_eq_true rfl)) dX7_answer_45 ⟨Nat.le_of_ble_eq_true rfl, Nat.le_of_ble_eq_true rfl⟩) hS (fun q _ h => h.elim) (fun q h => h.elim) (fun r_35 _ t H locs ht hvm hwr_35 hB hz hk hS => ?_)
        have hT : TX E G U_32 R H := hT.kept (fun q hq => hk q hq (fun h => h))
        have hbr_35 : r_35 = 0 ∨ r_35 = 1 := hwr_35.1
        have hp0r_35 : r_35.toInt = 0 ∨ 1 ≤ (U_32 (R h0 6) 4).toInt := hwr_35.2.1
        have hCr_35 : C_X7_firstIsAnswered G U_32 R h0 r_35 := hwr_35.2.2
        have hzr_35 := s_rng hbr_35
        refine lv_if_eq (tgt := 65) hx hb dX7_answer_48 (by decide) (fun c_36 => ?_) (fun c_36 => ?_)
        · simp only [lt_I, le_I, eq_I, i_0, i_1, i_2, i_3, i_4, i_5, i_6, i_7, i_8, i_10, i_12, i_16, i_20, i_23, i_24, i_31, i_32, i_63, i_64, i_m1] at c_36
          exact W.vret hx hb hr (fun t ht hW9 => ⟨⟨U_32, rfl, ⟨hW, (Fr.c (Fr.c (Fr.w (Fr.w (Fr.w (Fr.w (Fr.w Fr.rf hG (by decide) eB_4) hG (by decide) eB_6) hG (by decide) eB_8) hG (by decide) eB_10) hG (by decide) eB_12) hFr_22 (by decide)) hFr_31 (by decide)), (Or.inr (Or.inr (Or.inl ⟨c_1, x_3, ex_3, B_4, eB_4, B_6, eB_6, B_8, eB_8, B_10, eB_10, B_12, eB_12, r_15, hCr_15, c_16, U_23, hFr_22, hCr_22, r_26, hCr_26, c_27, U_32, hFr_31, hCr_31, r_35, hCr_35, c_36, rfl⟩)))⟩, (by show TX E G U_32 R t.heap; rw [ht]; exact hT)⟩, hS.F ht⟩) hS.2.2 dX7_answer_65
        · simp only [lt_I, le_I, eq_I, i_0, i_1, i_2, i_3, i_4, i_5, i_6, i_7, i_8, i_10, i_12, i_16, i_20, i_23, i_24, i_31, i_32, i_63, i_64, i_m1] at c_36
          refine lv_aload_n hx hb dX7_answer_51 rfl (lv_at hl 1 rfl) ?_
          have ha_37 := tx_9 hT hG
          refine va_get (D := DG E) (ci := 7) (v := .ref (R h0 6)) (C := RX7) (T := TX7) (N := 14) hx hb hts iw_X7 hown hK.1 (va_one ha_37) 0 rfl rfl 6 (by decide) (hts _ fl_X7_41) (fun _ h9 => h9) rfl dX7_answer_52 ?_
          refine lv_iconst (v := 0) hx hb dX7_answer_55 (by decide) ?_
          have hb_38 := (tw_11 hWr_31 hg_18).2.2.2
          have ha_39 := tx_11 hT hg_18
          refine va_callv (rnV (fun H => TX E G U_32 R H) (As := [.int 0]) (rest := []) ⟨hx, hb, hml, hown, hts⟩ (x_X5_completeFirst l E z0 G hGz U_32 R hW (R h0 6) (0 : Int32) hg_18 (show 1 ≤ (U_32 (R h0 6) 4).toInt from by have := i_0; first | decide | omega)) (cwV 1 hts (gdV ml_X7_187 im_X5_completeFirst se_X5_X5_completeFirst in_X5 co_X5_completeFirst rfl) rfl rfl rfl (by decide +kernel) ⟨Nat.le_of_ble_eq_true rfl, Nat.le_of_ble_eq_true rfl⟩) hT (fun U hU hW => hK.go hW hS hAz hU) (va_recv hK.1 (va_one ha_39) (ci := 5) (q0 := 0) rfl rfl) rfl rfl hl.1 rfl (lv_room (Nat.le_of_ble_eq_true rfl)) dX7_answer_56 ⟨Nat.le_of_ble_eq_true rfl, Nat.le_of_ble_eq_true rfl⟩) hS (fun q _ h => mL (L' := [5, 15, 11]) (L := [9, 11, 5, 15]) (by decide) h) (fun q h => mL (L' := [5, 15, 11]) (L := [9, 11, 5, 15]) (by decide) h) (fun U_41 t H locs ht hvm hwr_40 hB hz hk hS => ?_)
          have hT : TX E G U_41 R H := by rw [ht] at hB; exact hB
          have hWr_40 : TW G U_41 R := hwr_40.1
          have hW := hWr_40
          have hFr_40 : Fr G [5, 15, 11] U_32 U_41 := hwr_40.2.1
          have hCr_40 : C_X5_completeFirst G U_32 R (R h0 6) (0 : Int32) U_41 := hwr_40.2.2
          refine lv_iinc (v := 3) (lv' := [(2, .int 3), (0, .ref h0), (1, .int p0)]) hx hb dX7_answer_59 hl (k := 0) rfl (by decide) (by decide) rfl (fun ls hl => ?_)
          refine lv_goto (tgt := 39) hx hb dX7_answer_62 (by decide) ?_
          refine lv_iload_n hx hb dX7_answer_39 rfl (lv_at hl 0 rfl) ?_
          refine lv_iconst (v := 4) hx hb dX7_answer_40 (by decide) ?_
          refine lv_icmp_ge (tgt := 65) hx hb dX7_answer_41 (by decide) (fun c_42 => absurd c_42 (by decide)) (fun c_42 => ?_)
          refine lv_aload_n hx hb dX7_answer_44 rfl (lv_at hl 1 rfl) ?_
          have ha_43 := tx_9 hT hG
          refine va_calli (rnV (fun H => TX E G U_41 R H) (As := []) (rest := []) ⟨hx, hb, hml, hown, hts⟩ (x_X7_firstIsAnswered l E z0 G hGz U_41 R hW h0 hG) (cwV 0 hts (gdV ml_X7_184 im_X7_firstIsAnswered se_X7_X7_firstIsAnswered in_X7 co_X7_firstIsAnswered rfl) rfl rfl rfl (by decide +kernel) ⟨Nat.le_of_ble_eq_true rfl, Nat.le_of_ble_eq_true rfl⟩) hT (fun U hU hW => hK.go hW hS hAz hU) (va_recv hK.1 (va_one ha_43) (ci := 7) (q0 := 0) rfl rfl) rfl rfl hl.1 rfl (lv_room (Nat.le_of_ble_eq_true rfl)) dX7_answer_45 ⟨Nat.le_of_ble_eq_true rfl, Nat.le_of_ble_eq_true rfl⟩) hS (fun q _ h => h.elim) (fun q h => h.elim) (fun r_44 _ t H locs ht hvm hwr_44 hB hz hk hS => ?_)
          have hT : TX E G U_41 R H := hT.kept (fun q hq => hk q hq (fun h => h))
          have hbr_44 : r_44 = 0 ∨ r_44 = 1 := hwr_44.1
          have hp0r_44 : r_44.toInt = 0 ∨ 1 ≤ (U_41 (R h0 6) 4).toInt := hwr_44.2.1
          have hCr_44 : C_X7_firstIsAnswered G U_41 R h0 r_44 := hwr_44.2.2
          have hzr_44 := s_rng hbr_44
          refine lv_if_eq (tgt := 65) hx hb dX7_answer_48 (by decide) (fun c_45 => ?_) (fun c_45 => ?_)
          · simp only [lt_I, le_I, eq_I, i_0, i_1, i_2, i_3, i_4, i_5, i_6, i_7, i_8, i_10, i_12, i_16, i_20, i_23, i_24, i_31, i_32, i_63, i_64, i_m1] at c_45
            exact W.vret hx hb hr (fun t ht hW9 => ⟨⟨U_41, rfl, ⟨hW, (Fr.c (Fr.c (Fr.c (Fr.w (Fr.w (Fr.w (Fr.w (Fr.w Fr.rf hG (by decide) eB_4) hG (by decide) eB_6) hG (by decide) eB_8) hG (by decide) eB_10) hG (by decide) eB_12) hFr_22 (by decide)) hFr_31 (by decide)) hFr_40 (by decide)), (Or.inr (Or.inr (Or.inr (Or.inl ⟨c_1, x_3, ex_3, B_4, eB_4, B_6, eB_6, B_8, eB_8, B_10, eB_10, B_12, eB_12, r_15, hCr_15, c_16, U_23, hFr_22, hCr_22, r_26, hCr_26, c_27, U_32, hFr_31, hCr_31, r_35, hCr_35, c_36, U_41, hFr_40, hCr_40, r_44, hCr_44, c_45, rfl⟩))))⟩, (by show TX E G U_41 R t.heap; rw [ht]; exact hT)⟩, hS.F ht⟩) hS.2.2 dX7_answer_65
          · simp only [lt_I, le_I, eq_I, i_0, i_1, i_2, i_3, i_4, i_5, i_6, i_7, i_8, i_10, i_12, i_16, i_20, i_23, i_24, i_31, i_32, i_63, i_64, i_m1] at c_45
            refine lv_aload_n hx hb dX7_answer_51 rfl (lv_at hl 1 rfl) ?_
            have ha_46 := tx_9 hT hG
            refine va_get (D := DG E) (ci := 7) (v := .ref (R h0 6)) (C := RX7) (T := TX7) (N := 14) hx hb hts iw_X7 hown hK.1 (va_one ha_46) 0 rfl rfl 6 (by decide) (hts _ fl_X7_41) (fun _ h9 => h9) rfl dX7_answer_52 ?_
            refine lv_iconst (v := 0) hx hb dX7_answer_55 (by decide) ?_
            have hb_47 := (tw_11 hWr_40 hg_18).2.2.2
            have ha_48 := tx_11 hT hg_18
            refine va_callv (rnV (fun H => TX E G U_41 R H) (As := [.int 0]) (rest := []) ⟨hx, hb, hml, hown, hts⟩ (x_X5_completeFirst l E z0 G hGz U_41 R hW (R h0 6) (0 : Int32) hg_18 (show 1 ≤ (U_41 (R h0 6) 4).toInt from by have := i_0; first | decide | omega)) (cwV 1 hts (gdV ml_X7_187 im_X5_completeFirst se_X5_X5_completeFirst in_X5 co_X5_completeFirst rfl) rfl rfl rfl (by decide +kernel) ⟨Nat.le_of_ble_eq_true rfl, Nat.le_of_ble_eq_true rfl⟩) hT (fun U hU hW => hK.go hW hS hAz hU) (va_recv hK.1 (va_one ha_48) (ci := 5) (q0 := 0) rfl rfl) rfl rfl hl.1 rfl (lv_room (Nat.le_of_ble_eq_true rfl)) dX7_answer_56 ⟨Nat.le_of_ble_eq_true rfl, Nat.le_of_ble_eq_true rfl⟩) hS (fun q _ h => mL (L' := [5, 15, 11]) (L := [9, 11, 5, 15]) (by decide) h) (fun q h => mL (L' := [5, 15, 11]) (L := [9, 11, 5, 15]) (by decide) h) (fun U_50 t H locs ht hvm hwr_49 hB hz hk hS => ?_)
            have hT : TX E G U_50 R H := by rw [ht] at hB; exact hB
            have hWr_49 : TW G U_50 R := hwr_49.1
            have hW := hWr_49
            have hFr_49 : Fr G [5, 15, 11] U_41 U_50 := hwr_49.2.1
            have hCr_49 : C_X5_completeFirst G U_41 R (R h0 6) (0 : Int32) U_50 := hwr_49.2.2
            refine lv_iinc (v := 4) (lv' := [(2, .int 4), (0, .ref h0), (1, .int p0)]) hx hb dX7_answer_59 hl (k := 0) rfl (by decide) (by decide) rfl (fun ls hl => ?_)
            refine lv_goto (tgt := 39) hx hb dX7_answer_62 (by decide) ?_
            refine lv_iload_n hx hb dX7_answer_39 rfl (lv_at hl 0 rfl) ?_
            refine lv_iconst (v := 4) hx hb dX7_answer_40 (by decide) ?_
            refine lv_icmp_ge (tgt := 65) hx hb dX7_answer_41 (by decide) (fun c_51 => ?_) (fun c_51 => absurd c_51 (by decide))
            exact W.vret hx hb hr (fun t ht hW9 => ⟨⟨U_50, rfl, ⟨hW, (Fr.c (Fr.c (Fr.c (Fr.c (Fr.w (Fr.w (Fr.w (Fr.w (Fr.w Fr.rf hG (by decide) eB_4) hG (by decide) eB_6) hG (by decide) eB_8) hG (by decide) eB_10) hG (by decide) eB_12) hFr_22 (by decide)) hFr_31 (by decide)) hFr_40 (by decide)) hFr_49 (by decide)), (Or.inr (Or.inr (Or.inr (Or.inr (Or.inl ⟨c_1, x_3, ex_3, B_4, eB_4, B_6, eB_6, B_8, eB_8, B_10, eB_10, B_12, eB_12, r_15, hCr_15, c_16, U_23, hFr_22, hCr_22, r_26, hCr_26, c_27, U_32, hFr_31, hCr_31, r_35, hCr_35, c_36, U_41, hFr_40, hCr_40, r_44, hCr_44, c_45, U_50, hFr_49, hCr_49, rfl⟩)))))⟩, (by show TX E G U_50 R t.heap; rw [ht]; exact hT)⟩, hS.F ht⟩) hS.2.2 dX7_answer_65
  · simp only [lt_I, le_I, eq_I, i_0, i_1, i_2, i_3, i_4, i_5, i_6, i_7, i_8, i_10, i_12, i_16, i_20, i_23, i_24, i_31, i_32, i_63, i_64, i_m1] at c_1
    exact W.vret hx hb hr (fun t ht hW9 => ⟨⟨B, rfl, ⟨hW, Fr.rf, (Or.inr (Or.inr (Or.inr (Or.inr (Or.inr ⟨c_1, rfl⟩)))))⟩, (by show TX E G B R t.heap; rw [ht]; exact hT)⟩, hS.F ht⟩) hS.2.2 dX7_answer_4
theorem dX7_takeAck_0 : decode cX7_takeAck 0 = .ok (.aload_n 0, 1) := by decide +kernel
theorem dX7_takeAck_1 : decode cX7_takeAck 1 = .ok (.iload_n 1, 1) := by decide +kernel
theorem dX7_takeAck_2 : decode cX7_takeAck 2 = .ok (.invokevirtual 156, 3) := by decide +kernel
theorem dX7_takeAck_5 : decode cX7_takeAck 5 = .ok (.ifCond .ne 4, 3) := by decide +kernel
theorem dX7_takeAck_8 : decode cX7_takeAck 8 = .ok (.return_, 1) := by decide +kernel
theorem dX7_takeAck_9 : decode cX7_takeAck 9 = .ok (.aload_n 0, 1) := by decide +kernel
theorem dX7_takeAck_10 : decode cX7_takeAck 10 = .ok (.getfield 68, 3) := by decide +kernel
theorem dX7_takeAck_13 : decode cX7_takeAck 13 = .ok (.iload_n 1, 1) := by decide +kernel
theorem dX7_takeAck_14 : decode cX7_takeAck 14 = .ok (.invokestatic 112, 3) := by decide +kernel
theorem dX7_takeAck_17 : decode cX7_takeAck 17 = .ok (.iconst 1, 1) := by decide +kernel
theorem dX7_takeAck_18 : decode cX7_takeAck 18 = .ok (.iadd, 1) := by decide +kernel
theorem dX7_takeAck_19 : decode cX7_takeAck 19 = .ok (.istore_n 2, 1) := by decide +kernel
theorem dX7_takeAck_20 : decode cX7_takeAck 20 = .ok (.iconst 0, 1) := by decide +kernel
theorem dX7_takeAck_21 : decode cX7_takeAck 21 = .ok (.istore_n 3, 1) := by decide +kernel
theorem dX7_takeAck_22 : decode cX7_takeAck 22 = .ok (.iload_n 3, 1) := by decide +kernel
theorem dX7_takeAck_23 : decode cX7_takeAck 23 = .ok (.iload_n 2, 1) := by decide +kernel
theorem dX7_takeAck_24 : decode cX7_takeAck 24 = .ok (.if_icmp .ge 24, 3) := by decide +kernel
theorem dX7_takeAck_27 : decode cX7_takeAck 27 = .ok (.aload_n 0, 1) := by decide +kernel
theorem dX7_takeAck_28 : decode cX7_takeAck 28 = .ok (.aload_n 0, 1) := by decide +kernel
theorem dX7_takeAck_29 : decode cX7_takeAck 29 = .ok (.getfield 68, 3) := by decide +kernel
theorem dX7_takeAck_32 : decode cX7_takeAck 32 = .ok (.iload_n 3, 1) := by decide +kernel
theorem dX7_takeAck_33 : decode cX7_takeAck 33 = .ok (.invokestatic 98, 3) := by decide +kernel
theorem dX7_takeAck_36 : decode cX7_takeAck 36 = .ok (.invokevirtual 159, 3) := by decide +kernel
theorem dX7_takeAck_39 : decode cX7_takeAck 39 = .ok (.ifCond .ne 9, 3) := by decide +kernel
theorem dX7_takeAck_42 : decode cX7_takeAck 42 = .ok (.iinc 3 1, 3) := by decide +kernel
theorem dX7_takeAck_45 : decode cX7_takeAck 45 = .ok (.goto (-23), 3) := by decide +kernel
theorem dX7_takeAck_48 : decode cX7_takeAck 48 = .ok (.aload_n 0, 1) := by decide +kernel
theorem dX7_takeAck_49 : decode cX7_takeAck 49 = .ok (.iload_n 3, 1) := by decide +kernel
theorem dX7_takeAck_50 : decode cX7_takeAck 50 = .ok (.invokevirtual 162, 3) := by decide +kernel
theorem dX7_takeAck_53 : decode cX7_takeAck 53 = .ok (.return_, 1) := by decide +kernel
set_option maxHeartbeats 8000000 in
set_option maxRecDepth 100000 in
theorem x_X7_takeAck (l : Launch) (E : EE) (z0 : Nat) (G : Nat → Nat) (hGz : ∀ q, G q ≠ 0 → z0 ≤ q) (B : AA) (R : RR) (hW : TW G B R) (h0 : Nat) (p0 : Int32) (hG : G h0 = 9) : Met l yX7_takeAck [Cond.code yX7_takeAck cX7_takeAck 4 none] ({ frames := 3, cells := 0, slots := 0, locals := 67 } : Room) (va_Pc [.ref h0, .int p0] (fun U => TX E G B R U.heap ∧ KS E z0 U)) (va_Qv (fun (u : AA) => (TW G u R) ∧ (Fr G ([9, 11, 5, 15] : List Nat) B u) ∧ (C_X7_takeAck G B R h0 p0 u)) (fun u t => TX E G u R t.heap) (fun q : Nat => G q ∈ ([9, 11, 5, 15] : List Nat))) 0 0 (fun q : Nat => G q ∈ ([9, 11, 5, 15] : List Nat)) := by
  refine Met.ofW (cc := cX7_takeAck) (maxL := 4) (ret := none) (by decide) rfl ?_
  intro p e s m args below meth c s₁ B9 hml hv
  obtain ⟨rfl, hT, hK⟩ := hv
  have hx := B9.exec
  have hb := B9.bytes
  have hr := B9.returns
  have hts : ∀ w ∈ TS, w.before ([.ref h0, .int p0] : List Value).toArray s = true := fun w hw => hK.2.1 w hw _
  have hown : s.vm.findClass RX7 = some m.cls := findClass_of_methodNamed B9.named
  have hlocks := B9.notSynchronized
  have hS : va_S (fun q : Nat => G q ∈ ([9, 11, 5, 15] : List Nat)) s.heap s.heap [] := va_S.rf
  have hAz : ∀ q, (fun q : Nat => G q ∈ ([9, 11, 5, 15] : List Nat)) q → z0 ≤ q := zL hGz (by decide)
  have hW_0 := hW
  have hl := lv_entry ([.ref h0, .int p0]) (n := 4) (Nat.le_of_ble_eq_true rfl)
  rw [lg_entry_eq]
  generalize (lg_sl ([.ref h0, .int p0]) ++ List.replicate (4 - (lg_sl ([.ref h0, .int p0])).length) Slot.unset).toArray = ls at hl ⊢
  have hl : lv_has ls 4 [(0, .ref h0), (1, .int p0)] := hl
  refine lv_aload_n hx hb dX7_takeAck_0 rfl (lv_at hl 0 rfl) ?_
  refine lv_iload_n hx hb dX7_takeAck_1 rfl (lv_at hl 1 rfl) ?_
  have ha_1 := tx_9 hT hG
  refine va_calli (rnV (fun H => TX E G B R H) (As := [.int p0]) (rest := []) ⟨hx, hb, hml, hown, hts⟩ (x_X7_isOpen l E z0 G hGz B R hW h0 p0 hG) (cwV 1 hts (gdV ml_X7_156 im_X7_isOpen se_X7_X7_isOpen in_X7 co_X7_isOpen rfl) rfl rfl rfl (by decide +kernel) ⟨Nat.le_of_ble_eq_true rfl, Nat.le_of_ble_eq_true rfl⟩) hT (fun U hU hW => hK.go hW hS hAz hU) (va_recv hK.1 (va_one ha_1) (ci := 7) (q0 := 0) rfl rfl) rfl rfl hl.1 rfl (lv_room (Nat.le_of_ble_eq_true rfl)) dX7_takeAck_2 ⟨Nat.le_of_ble_eq_true rfl, Nat.le_of_ble_eq_true rfl⟩) hS (fun q _ h => h.elim) (fun q h => h.elim) (fun r_2 _ t H locs ht hvm hwr_2 hB hz hk hS => ?_)
  have hT : TX E G B R H := hT.kept (fun q hq => hk q hq (fun h => h))
  have hbr_2 : r_2 = 0 ∨ r_2 = 1 := hwr_2.1
  have hCr_2 : C_X7_isOpen G B R h0 p0 r_2 := hwr_2.2
  have hzr_2 := s_rng hbr_2
  refine lv_if_ne (tgt := 9) hx hb dX7_takeAck_5 (by decide) (fun c_3 => ?_) (fun c_3 => ?_)
  · simp only [lt_I, le_I, eq_I, i_0, i_1, i_2, i_3, i_4, i_5, i_6, i_7, i_8, i_10, i_12, i_16, i_20, i_23, i_24, i_31, i_32, i_63, i_64, i_m1] at c_3
    refine lv_aload_n hx hb dX7_takeAck_9 rfl (lv_at hl 0 rfl) ?_
    have ha_4 := tx_9 hT hG
    refine va_get (D := DG E) (ci := 7) (v := .int (B h0 8)) (C := RX7) (T := TX7) (N := 14) hx hb hts iw_X7 hown hK.1 (va_one ha_4) 0 rfl rfl 8 (by decide) (hts _ fl_X7_68) (fun _ h9 => h9) rfl dX7_takeAck_10 ?_
    refine lv_iload_n hx hb dX7_takeAck_13 rfl (lv_at hl 1 rfl) ?_
    refine rnSN (As := [.int (B h0 8), .int p0]) (rest := []) ⟨hx, hb, hml, hown, hts⟩ (c_X9_distance l ((B h0 8)) p0) ⟨va_cnB (host := RX9) 2 hts (gd1 co_X9_distance rfl) rfl rfl rfl (hK.2.1 _ mn_X7_112 #[]) (hts _ in_X9) (by decide +kernel) ⟨Nat.le_of_ble_eq_true rfl, Nat.le_of_ble_eq_true rfl⟩, hts _ st_X9_distance, trivial⟩ rfl rfl hl.1 rfl (lv_room (Nat.le_of_ble_eq_true rfl)) dX7_takeAck_14 ⟨Nat.le_of_ble_eq_true rfl, Nat.le_of_ble_eq_true rfl⟩ ?_
    refine W.eq (g2 := F0 m 17 ls [.int ((p0 - (B h0 8)) &&& 63)]) (by rfl) ?_
    refine lv_topi (fun x_5 ex_5 => ?_)
    have fx_5 := s_and63 (p0 - (B h0 8)); rw [← ex_5] at fx_5
    refine lv_iconst (v := 1) hx hb dX7_takeAck_17 (by decide) ?_
    refine lv_iadd hx hb dX7_takeAck_18 ?_
    refine lv_topi (fun x_6 ex_6 => ?_)
    have fx_6 : x_6.toInt = x_5.toInt + 1 := by have h9 := s_add (x := x_5) (y := 1) (by rw [i_1]; omega) (by rw [i_1]; omega); rw [i_1] at h9; rw [ex_6]; exact h9
    refine lv_istore_n (lv' := [(2, .int x_6), (0, .ref h0), (1, .int p0)]) hx hb dX7_takeAck_19 rfl hl (by decide) rfl (fun ls hl => ?_)
    refine lv_iconst (v := 0) hx hb dX7_takeAck_20 (by decide) ?_
    refine lv_istore_n (lv' := [(3, .int 0), (2, .int x_6), (0, .ref h0), (1, .int p0)]) hx hb dX7_takeAck_21 rfl hl (by decide) rfl (fun ls hl => ?_)
    refine lp_nat (fun n H locs ls => ∃ i9 : Int32, (0 ≤ i9.toInt ∧ i9.toInt ≤ x_6.toInt) ∧ (x_6.toInt - i9.toInt).toNat = n ∧ (∀ j : Int32, 0 ≤ j.toInt → j.toInt < i9.toInt → C_X7_awaitsReply G B R h0 ((B h0 8 + j) &&& 63) 0) ∧ TX E G B R H ∧ va_S (fun q : Nat => G q ∈ ([9, 11, 5, 15] : List Nat)) s.heap H locs ∧ lv_has ls 4 [(3, .int i9), (2, .int x_6), (0, .ref h0), (1, .int p0)]) (fun n H locs ls ih hI => ?_) ⟨0, by have := i_0; omega, rfl, fun j h1 h2 => by exfalso; have := i_0; omega, hT, hS, hl⟩
    obtain ⟨i9, hi9, hn9, hj9, hT, hS, hl⟩ := hI
    refine lv_iload_n hx hb dX7_takeAck_22 rfl (lv_at hl 0 rfl) ?_
    refine lv_iload_n hx hb dX7_takeAck_23 rfl (lv_at hl 1 rfl) ?_
    refine lv_icmp_ge (tgt := 48) hx hb dX7_takeAck_24 (by decide) (fun c_7 => ?_) (fun c_7 => ?_)
    · simp only [lt_I, le_I, eq_I, i_0, i_1, i_2, i_3, i_4, i_5, i_6, i_7, i_8, i_10, i_12, i_16, i_20, i_23, i_24, i_31, i_32, i_63, i_64, i_m1] at c_7
      refine lv_aload_n hx hb dX7_takeAck_48 rfl (lv_at hl 2 rfl) ?_
      refine lv_iload_n hx hb dX7_takeAck_49 rfl (lv_at hl 0 rfl) ?_
      have ha_8 := tx_9 hT hG
      refine va_callv (rnV (fun H => TX E G B R H) (As := [.int i9]) (rest := []) ⟨hx, hb, hml, hown, hts⟩ (x_X7_answer l E z0 G hGz B R hW h0 i9 hG) (cwV 1 hts (gdV ml_X7_162 im_X7_answer se_X7_X7_answer in_X7 co_X7_answer rfl) rfl rfl rfl (by decide +kernel) ⟨Nat.le_of_ble_eq_true rfl, Nat.le_of_ble_eq_true rfl⟩) hT (fun U hU hW => hK.go hW hS hAz hU) (va_recv hK.1 (va_one ha_8) (ci := 7) (q0 := 0) rfl rfl) rfl rfl hl.1 rfl (lv_room (Nat.le_of_ble_eq_true rfl)) dX7_takeAck_50 ⟨Nat.le_of_ble_eq_true rfl, Nat.le_of_ble_eq_true rfl⟩) hS (fun q _ h => mL (L' := [9, 11, 5, 15]) (L := [9, 11, 5, 15]) (by decide) h) (fun q h => mL (L' := [9, 11, 5, 15]) (L := [9, 11, 5, 15]) (by decide) h) (fun U_10 t H locs ht hvm hwr_9 hB hz hk hS => ?_)
      have hT : TX E G U_10 R H := by rw [ht] at hB; exact hB
      have hWr_9 : TW G U_10 R := hwr_9.1
      have hW := hWr_9
      have hFr_9 : Fr G [9, 11, 5, 15] B U_10 := hwr_9.2.1
      have hCr_9 : C_X7_answer G B R h0 i9 U_10 := hwr_9.2.2
      exact W.vret hx hb hr (fun t ht hW9 => ⟨⟨U_10, rfl, ⟨hW, (Fr.c Fr.rf hFr_9 (by decide)), (Or.inl ⟨r_2, hCr_2, c_3, x_5, ex_5, x_6, ex_6, fx_6, i9, hi9, hj9, c_7, U_10, hFr_9, hCr_9, rfl⟩)⟩, (by show TX E G U_10 R t.heap; rw [ht]; exact hT)⟩, hS.F ht⟩) hS.2.2 dX7_takeAck_53
    · simp only [lt_I, le_I, eq_I, i_0, i_1, i_2, i_3, i_4, i_5, i_6, i_7, i_8, i_10, i_12, i_16, i_20, i_23, i_24, i_31, i_32, i_63, i_64, i_m1] at c_7
      refine lv_aload_n hx hb dX7_takeAck_27 rfl (lv_at hl 2 rfl) ?_
      refine lv_aload_n hx hb dX7_takeAck_28 rfl (lv_at hl 2 rfl) ?_
      have ha_11 := tx_9 hT hG
      refine va_get (D := DG E) (ci := 7) (v := .int (B h0 8)) (C := RX7) (T := TX7) (N := 14) hx hb hts iw_X7 hown hK.1 (va_one ha_11) 0 rfl rfl 8 (by decide) (hts _ fl_X7_68) (fun _ h9 => h9) rfl dX7_takeAck_29 ?_
      refine lv_iload_n hx hb dX7_takeAck_32 rfl (lv_at hl 0 rfl) ?_
      refine rnSN (As := [.int (B h0 8), .int i9]) (rest := [.ref h0]) ⟨hx, hb, hml, hown, hts⟩ (c_X9_after l ((B h0 8)) i9) ⟨va_cnB (host := RX9) 2 hts (gd1 co_X9_after rfl) rfl rfl rfl (hK.2.1 _ mn_X7_98 #[]) (hts _ in_X9) (by decide +kernel) ⟨Nat.le_of_ble_eq_true rfl, Nat.le_of_ble_eq_true rfl⟩, hts _ st_X9_after, trivial⟩ rfl rfl hl.1 rfl (lv_room (Nat.le_of_ble_eq_true rfl)) dX7_takeAck_33 ⟨Nat.le_of_ble_eq_true rfl, Nat.le_of_ble_eq_true rfl⟩ ?_
      refine W.eq (g2 := F0 m 36 ls [.int (((B h0 8) + i9) &&& 63), .ref h0]) (by rfl) ?_
      refine lv_topi (fun x_12 ex_12 => ?_)
      have fx_12 := s_and63 ((B h0 8) + i9); rw [← ex_12] at fx_12
      refine va_calli (rnV (fun H => TX E G B R H) (As := [.int x_12]) (rest := []) ⟨hx, hb, hml, hown, hts⟩ (x_X7_awaitsReply l E z0 G hGz B R hW h0 x_12 hG) (cwV 1 hts (gdV ml_X7_159 im_X7_awaitsReply se_X7_X7_awaitsReply in_X7 co_X7_awaitsReply rfl) rfl rfl rfl (by decide +kernel) ⟨Nat.le_of_ble_eq_true rfl, Nat.le_of_ble_eq_true rfl⟩) hT (fun U hU hW => hK.go hW hS hAz hU) (va_recv hK.1 (va_one ha_11) (ci := 7) (q0 := 0) rfl rfl) rfl rfl hl.1 rfl (lv_room (Nat.le_of_ble_eq_true rfl)) dX7_takeAck_36 ⟨Nat.le_of_ble_eq_true rfl, Nat.le_of_ble_eq_true rfl⟩) hS (fun q _ h => h.elim) (fun q h => h.elim) (fun r_13 _ t H locs ht hvm hwr_13 hB hz hk hS => ?_)
      have hT : TX E G B R H := hT.kept (fun q hq => hk q hq (fun h => h))
      have hbr_13 : r_13 = 0 ∨ r_13 = 1 := hwr_13.1
      have hCr_13 : C_X7_awaitsReply G B R h0 x_12 r_13 := hwr_13.2
      have hzr_13 := s_rng hbr_13
      refine lv_if_ne (tgt := 48) hx hb dX7_takeAck_39 (by decide) (fun c_14 => ?_) (fun c_14 => ?_)
      · simp only [lt_I, le_I, eq_I, i_0, i_1, i_2, i_3, i_4, i_5, i_6, i_7, i_8, i_10, i_12, i_16, i_20, i_23, i_24, i_31, i_32, i_63, i_64, i_m1] at c_14
        refine lv_aload_n hx hb dX7_takeAck_48 rfl (lv_at hl 2 rfl) ?_
        refine lv_iload_n hx hb dX7_takeAck_49 rfl (lv_at hl 0 rfl) ?_
        have ha_15 := tx_9 hT hG
        refine va_callv (rnV (fun H => TX E G B R H) (As := [.int i9]) (rest := []) ⟨hx, hb, hml, hown, hts⟩ (x_X7_answer l E z0 G hGz B R hW h0 i9 hG) (cwV 1 hts (gdV ml_X7_162 im_X7_answer se_X7_X7_answer in_X7 co_X7_answer rfl) rfl rfl rfl (by decide +kernel) ⟨Nat.le_of_ble_eq_true rfl, Nat.le_of_ble_eq_true rfl⟩) hT (fun U hU hW => hK.go hW hS hAz hU) (va_recv hK.1 (va_one ha_15) (ci := 7) (q0 := 0) rfl rfl) rfl rfl hl.1 rfl (lv_room (Nat.le_of_ble_eq_true rfl)) dX7_takeAck_50 ⟨Nat.le_of_ble_eq_true rfl, Nat.le_of_ble_eq_true rfl⟩) hS (fun q _ h => mL (L' := [9, 11, 5, 15]) (L := [9, 11, 5, 15]) (by decide) h) (fun q h => mL (L' := [9, 11, 5, 15]) (L := [9, 11, 5, 15]) (by decide) h) (fun U_17 t H locs ht hvm hwr_16 hB hz hk hS => ?_)
        have hT : TX E G U_17 R H := by rw [ht] at hB; exact hB
        have hWr_16 : TW G U_17 R := hwr_16.1
        have hW := hWr_16
        have hFr_16 : Fr G [9, 11, 5, 15] B U_17 := hwr_16.2.1
        have hCr_16 : C_X7_answer G B R h0 i9 U_17 := hwr_16.2.2
        exact W.vret hx hb hr (fun t ht hW9 => ⟨⟨U_17, rfl, ⟨hW, (Fr.c Fr.rf hFr_16 (by decide)), (Or.inr (Or.inl ⟨r_2, hCr_2, c_3, x_5, ex_5, x_6, ex_6, fx_6, i9, hi9, hj9, c_7, x_12, ex_12, r_13, hCr_13, c_14, U_17, hFr_16, hCr_16, rfl⟩))⟩, (by show TX E G U_17 R t.heap; rw [ht]; exact hT)⟩, hS.F ht⟩) hS.2.2 dX7_takeAck_53
      · simp only [lt_I, le_I, eq_I, i_0, i_1, i_2, i_3, i_4, i_5, i_6, i_7, i_8, i_10, i_12, i_16, i_20, i_23, i_24, i_31, i_32, i_63, i_64, i_m1] at c_14
        obtain ⟨x_18, ex_18⟩ : ∃ z : Int32, i9 + Int32.ofInt 1 = z := ⟨_, rfl⟩
        have fx_18 : x_18.toInt = i9.toInt + 1 := by have h9 := s_add (x := i9) (y := 1) (by rw [i_1]; omega) (by rw [i_1]; omega); rw [i_1] at h9; rw [← ex_18]; exact h9
        refine lv_iinc (v := x_18) (lv' := [(3, .int x_18), (2, .int x_6), (0, .ref h0), (1, .int p0)]) hx hb dX7_takeAck_42 hl (k := 0) rfl ex_18 (by decide) rfl (fun ls hl => ?_)
        refine lv_goto (tgt := 22) hx hb dX7_takeAck_45 (by decide) ?_
        have r9 : r_13 = 0 := by rw [eq_I, i_0]; omega
        rw [r9, ex_12] at hCr_13
        exact ih _ (by omega) _ _ _ ⟨x_18, by omega, rfl, fun j h1 h2 => by by_cases e9 : j.toInt < i9.toInt; exact hj9 j h1 e9; (obtain rfl : j = i9 := by rw [eq_I]; omega); exact hCr_13, hT, hS, hl⟩
  · simp only [lt_I, le_I, eq_I, i_0, i_1, i_2, i_3, i_4, i_5, i_6, i_7, i_8, i_10, i_12, i_16, i_20, i_23, i_24, i_31, i_32, i_63, i_64, i_m1] at c_3
    exact W.vret hx hb hr (fun t ht hW9 => ⟨⟨B, rfl, ⟨hW, Fr.rf, (Or.inr (Or.inr ⟨r_2, hCr_2, c_3, rfl⟩))⟩, (by show TX E G B R t.heap; rw [ht]; exact hT)⟩, hS.F ht⟩) hS.2.2 dX7_takeAck_8
theorem dX7_rest_0 : decode cX7_rest 0 = .ok (.aload_n 0, 1) := by decide +kernel
theorem dX7_rest_1 : decode cX7_rest 1 = .ok (.iconst 1, 1) := by decide +kernel
theorem dX7_rest_2 : decode cX7_rest 2 = .ok (.putfield 61, 3) := by decide +kernel
theorem dX7_rest_5 : decode cX7_rest 5 = .ok (.aload_n 0, 1) := by decide +kernel
theorem dX7_rest_6 : decode cX7_rest 6 = .ok (.iconst 0, 1) := by decide +kernel
theorem dX7_rest_7 : decode cX7_rest 7 = .ok (.putfield 52, 3) := by decide +kernel
theorem dX7_rest_10 : decode cX7_rest 10 = .ok (.aload_n 0, 1) := by decide +kernel
theorem dX7_rest_11 : decode cX7_rest 11 = .ok (.dup, 1) := by decide +kernel
theorem dX7_rest_12 : decode cX7_rest 12 = .ok (.getfield 58, 3) := by decide +kernel
theorem dX7_rest_15 : decode cX7_rest 15 = .ok (.iconst 1, 1) := by decide +kernel
theorem dX7_rest_16 : decode cX7_rest 16 = .ok (.iadd, 1) := by decide +kernel
theorem dX7_rest_17 : decode cX7_rest 17 = .ok (.putfield 58, 3) := by decide +kernel
theorem dX7_rest_20 : decode cX7_rest 20 = .ok (.aload_n 0, 1) := by decide +kernel
theorem dX7_rest_21 : decode cX7_rest 21 = .ok (.getfield 58, 3) := by decide +kernel
theorem dX7_rest_24 : decode cX7_rest 24 = .ok (.aload_n 0, 1) := by decide +kernel
theorem dX7_rest_25 : decode cX7_rest 25 = .ok (.getfield 33, 3) := by decide +kernel
theorem dX7_rest_28 : decode cX7_rest 28 = .ok (.if_icmp .le 7, 3) := by decide +kernel
theorem dX7_rest_31 : decode cX7_rest 31 = .ok (.iconst 2, 1) := by decide +kernel
theorem dX7_rest_32 : decode cX7_rest 32 = .ok (.goto 4, 3) := by decide +kernel
theorem dX7_rest_35 : decode cX7_rest 35 = .ok (.iconst 0, 1) := by decide +kernel
theorem dX7_rest_36 : decode cX7_rest 36 = .ok (.ireturn, 1) := by decide +kernel
set_option maxHeartbeats 8000000 in
set_option maxRecDepth 100000 in
theorem x_X7_rest (l : Launch) (E : EE) (z0 : Nat) (G : Nat → Nat) (hGz : ∀ q, G q ≠ 0 → z0 ≤ q) (B : AA) (R : RR) (hW : TW G B R) (h0 : Nat) (hG : G h0 = 9) : Met l yX7_rest [Cond.code yX7_rest cX7_rest 1 (some .int)] ({ frames := 0, cells := 0, slots := 0, locals := 0 } : Room) (va_Pc [.ref h0] (fun U => TX E G B R U.heap ∧ KS E z0 U)) (va_Qi (fun (r : Int32) (u : AA) => (TW G u R) ∧ (Fr G ([9] : List Nat) B u) ∧ (C_X7_rest G B R h0 u r)) (fun u t => TX E G u R t.heap) (fun q : Nat => G q ∈ ([9] : List Nat))) 0 0 (fun q : Nat => G q ∈ ([9] : List Nat)) := by
  refine Met.ofW (cc := cX7_rest) (maxL := 1) (ret := (some .int)) (by decide) rfl ?_
  intro p e s m args below meth c s₁ B9 hml hv
  obtain ⟨rfl, hT, hK⟩ := hv
  have hx := B9.exec
  have hb := B9.bytes
  have hr := B9.returns
  have hts : ∀ w ∈ TS, w.before ([.ref h0] : List Value).toArray s = true := fun w hw => hK.2.1 w hw _
  have hown : s.vm.findClass RX7 = some m.cls := findClass_of_methodNamed B9.named
  have hlocks := B9.notSynchronized
  have hS : va_S (fun q : Nat => G q ∈ ([9] : List Nat)) s.heap s.heap [] := va_S.rf
  have hAz : ∀ q, (fun q : Nat => G q ∈ ([9] : List Nat)) q → z0 ≤ q := zL hGz (by decide)
  have hW_0 := hW
  have hl := lv_entry ([.ref h0]) (n := 1) (Nat.le_of_ble_eq_true rfl)
  rw [lg_entry_eq]
  generalize (lg_sl ([.ref h0]) ++ List.replicate (1 - (lg_sl ([.ref h0])).length) Slot.unset).toArray = ls at hl ⊢
  have hl : lv_has ls 1 [(0, .ref h0)] := hl
  refine lv_aload_n hx hb dX7_rest_0 rfl (lv_at hl 0 rfl) ?_
  refine lv_iconst (v := 1) hx hb dX7_rest_1 (by decide) ?_
  have ha_1 := tx_9 hT hG
  refine rr_put (D := DG E) (ci := 7) (v := .int 1) (ty := .boolean) (C := RX7) (T := TX7) (N := 14) hx hb hts iw_X7 tyX7 tyX7_ok nmX7 hown hK.1 ha_1 hS (by show G h0 ∈ ([9] : List Nat); rw [hG]; decide) rfl 13 (by decide) (hts _ fl_X7_61) (fun _ h9 => h9) rfl (by decide +kernel) rfl rfl (Nat.le_of_ble_eq_true rfl) dX7_rest_2 (fun H locs hn ho hz hS => ?_)
  obtain ⟨B_2, eB_2⟩ : ∃ z : AA, z = uA B h0 (upd (B h0) 13 1) := ⟨_, rfl⟩
  have sB_2 : B_2 h0 13 = 1 := by rw [eB_2, uA_s]; exact upd_s
  have nB_2 : ∀ k, k ≠ 13 → B_2 h0 k = B h0 k := fun k hk => by rw [eB_2, uA_s]; exact upd_n hk
  have fB_2 : ∀ c, G c ≠ 9 → B_2 c = B c := fun c hc => by rw [eB_2]; exact uA_n (fun e => hc (by rw [e]; exact hG))
  have hT : TX E G B_2 R H := by rw [eB_2]; exact hT.w (by rw [hG]; exact hn) ho
  have hWB_2 : TW G B_2 R := by rw [eB_2]; exact hW_0.w (by rw [hG]; exact tw_9 hW_0 hG)
  have hW := hWB_2
  refine lv_aload_n hx hb dX7_rest_5 rfl (lv_at hl 0 rfl) ?_
  refine lv_iconst (v := 0) hx hb dX7_rest_6 (by decide) ?_
  have ha_3 := tx_9 hT hG
  refine rr_put (D := DG E) (ci := 7) (v := .int 0) (ty := .int) (C := RX7) (T := TX7) (N := 14) hx hb hts iw_X7 tyX7 tyX7_ok nmX7 hown hK.1 ha_3 hS (by show G h0 ∈ ([9] : List Nat); rw [hG]; decide) rfl 10 (by decide) (hts _ fl_X7_52) (fun _ h9 => h9) rfl (by decide +kernel) rfl rfl (Nat.le_of_ble_eq_true rfl) dX7_rest_7 (fun H locs hn ho hz hS => ?_)
  obtain ⟨B_4, eB_4⟩ : ∃ z : AA, z = uA B_2 h0 (upd (B_2 h0) 10 0) := ⟨_, rfl⟩
  have sB_4 : B_4 h0 10 = 0 := by rw [eB_4, uA_s]; exact upd_s
  have nB_4 : ∀ k, k ≠ 10 → B_4 h0 k = B_2 h0 k := fun k hk => by rw [eB_4, uA_s]; exact upd_n hk
  have fB_4 : ∀ c, G c ≠ 9 → B_4 c = B_2 c := fun c hc => by rw [eB_4]; exact uA_n (fun e => hc (by rw [e]; exact hG))
  have hT : TX E G B_4 R H := by rw [eB_4]; exact hT.w (by rw [hG]; exact hn) ho
  have hWB_4 : TW G B_4 R := by rw [eB_4]; exact hWB_2.w (by rw [hG]; exact tw_9 hWB_2 hG)
  have hW := hWB_4
  refine lv_aload_n hx hb dX7_rest_10 rfl (lv_at hl 0 rfl) ?_
  refine lv_dup hx hb dX7_rest_11 rfl ?_
  have ha_5 := tx_9 hT hG
  have l_6 : B_4 h0 12 = (B h0 12) := ((nB_4 12 (by decide))).trans ((nB_2 12 (by decide)))
  refine va_get (D := DG E) (ci := 7) (v := .int (B_4 h0 12)) (C := RX7) (T := TX7) (N := 14) hx hb hts iw_X7 hown hK.1 (va_one ha_5) 0 rfl rfl 12 (by decide) (hts _ fl_X7_58) (fun _ h9 => h9) rfl dX7_rest_12 ?_
  refine W.eq (g2 := F0 m 15 ls [.int (B h0 12), .ref h0]) (by rw [l_6]) ?_
  refine lv_iconst (v := 1) hx hb dX7_rest_15 (by decide) ?_
  refine lv_iadd hx hb dX7_rest_16 ?_
  refine lv_topi (fun x_7 ex_7 => ?_)
  refine rr_put (D := DG E) (ci := 7) (v := .int x_7) (ty := .int) (C := RX7) (T := TX7) (N := 14) hx hb hts iw_X7 tyX7 tyX7_ok nmX7 hown hK.1 ha_5 hS (by show G h0 ∈ ([9] : List Nat); rw [hG]; decide) rfl 12 (by decide) (hts _ fl_X7_58) (fun _ h9 => h9) rfl (by decide +kernel) rfl rfl (Nat.le_of_ble_eq_true rfl) dX7_rest_17 (fun H locs hn ho hz hS => ?_)
  obtain ⟨B_8, eB_8⟩ : ∃ z : AA, z = uA B_4 h0 (upd (B_4 h0) 12 x_7) := ⟨_, rfl⟩
  have sB_8 : B_8 h0 12 = x_7 := by rw [eB_8, uA_s]; exact upd_s
  have nB_8 : ∀ k, k ≠ 12 → B_8 h0 k = B_4 h0 k := fun k hk => by rw [eB_8, uA_s]; exact upd_n hk
  have fB_8 : ∀ c, G c ≠ 9 → B_8 c = B_4 c := fun c hc => by rw [eB_8]; exact uA_n (fun e => hc (by rw [e]; exact hG))
  have hT : TX E G B_8 R H := by rw [eB_8]; exact hT.w (by rw [hG]; exact hn) ho
  have hWB_8 : TW G B_8 R := by rw [eB_8]; exact hWB_4.w (by rw [hG]; exact tw_9 hWB_4 hG)
  have hW := hWB_8
  refine lv_aload_n hx hb dX7_rest_20 rfl (lv_at hl 0 rfl) ?_
  have ha_9 := tx_9 hT hG
  have l_10 : B_8 h0 12 = x_7 := sB_8
  refine va_get (D := DG E) (ci := 7) (v := .int (B_8 h0 12)) (C := RX7) (T := TX7) (N := 14) hx hb hts iw_X7 hown hK.1 (va_one ha_9) 0 rfl rfl 12 (by decide) (hts _ fl_X7_58) (fun _ h9 => h9) rfl dX7_rest_21 ?_
  refine W.eq (g2 := F0 m 24 ls [.int x_7]) (by rw [l_10]) ?_
  refine lv_aload_n hx hb dX7_rest_24 rfl (lv_at hl 0 rfl) ?_
  have l_11 : B_8 h0 5 = (B h0 5) := ((nB_8 5 (by decide))).trans (((nB_4 5 (by decide))).trans ((nB_2 5 (by decide))))
  refine va_get (D := DG E) (ci := 7) (v := .int (B_8 h0 5)) (C := RX7) (T := TX7) (N := 14) hx hb hts iw_X7 hown hK.1 (va_one ha_9) 0 rfl rfl 5 (by decide) (hts _ fl_X7_33) (fun _ h9 => h9) rfl dX7_rest_25 ?_
  refine W.eq (g2 := F0 m 28 ls [.int (B h0 5), .int x_7]) (by rw [l_11]) ?_
  refine lv_icmp_le (tgt := 35) hx hb dX7_rest_28 (by decide) (fun c_12 => ?_) (fun c_12 => ?_)
  · simp only [lt_I, le_I, eq_I, i_0, i_1, i_2, i_3, i_4, i_5, i_6, i_7, i_8, i_10, i_12, i_16, i_20, i_23, i_24, i_31, i_32, i_63, i_64, i_m1] at c_12
    refine lv_iconst (v := 0) hx hb dX7_rest_35 (by decide) ?_
    exact W.iret (v := 0) hx hb hr (fun t ht hW9 => ⟨⟨0, B_8, rfl, ⟨hW, (Fr.w (Fr.w (Fr.w Fr.rf hG (by decide) eB_2) hG (by decide) eB_4) hG (by decide) eB_8), (Or.inl ⟨B_2, eB_2, B_4, eB_4, x_7, ex_7, B_8, eB_8, c_12, rfl, rfl⟩)⟩, (by show TX E G B_8 R t.heap; rw [ht]; exact hT)⟩, hS.F ht⟩) hS.2.2 dX7_rest_36
  · simp only [lt_I, le_I, eq_I, i_0, i_1, i_2, i_3, i_4, i_5, i_6, i_7, i_8, i_10, i_12, i_16, i_20, i_23, i_24, i_31, i_32, i_63, i_64, i_m1] at c_12
    refine lv_iconst (v := 2) hx hb dX7_rest_31 (by decide) ?_
    refine lv_goto (tgt := 36) hx hb dX7_rest_32 (by decide) ?_
    exact W.iret (v := 2) hx hb hr (fun t ht hW9 => ⟨⟨2, B_8, rfl, ⟨hW, (Fr.w (Fr.w (Fr.w Fr.rf hG (by decide) eB_2) hG (by decide) eB_4) hG (by decide) eB_8), (Or.inr ⟨B_2, eB_2, B_4, eB_4, x_7, ex_7, B_8, eB_8, c_12, rfl, rfl⟩)⟩, (by show TX E G B_8 R t.heap; rw [ht]; exact hT)⟩, hS.F ht⟩) hS.2.2 dX7_rest_36
theorem gdX7_takeNak_0 : (decode cX7_takeNak 0 = .ok (.aload_n 0, 1)) ∧ (decode cX7_takeNak 1 = .ok (.iload_n 1, 1)) ∧ (decode cX7_takeNak 2 = .ok (.invokevirtual 156, 3)) ∧ (decode cX7_takeNak 5 = .ok (.ifCond .ne 5, 3)) ∧ (decode cX7_takeNak 8 = .ok (.iconst 0, 1)) ∧ (decode cX7_takeNak 9 = .ok (.ireturn, 1)) ∧ (decode cX7_takeNak 10 = .ok (.aload_n 0, 1)) ∧ (decode cX7_takeNak 11 = .ok (.iload_n 1, 1)) ∧ (decode cX7_takeNak 12 = .ok (.invokestatic 174, 3)) ∧ (decode cX7_takeNak 15 = .ok (.invokevirtual 177, 3)) ∧ (decode cX7_takeNak 18 = .ok (.iload_n 1, 1)) ∧ (decode cX7_takeNak 19 = .ok (.aload_n 0, 1)) ∧ (decode cX7_takeNak 20 = .ok (.getfield 68, 3)) ∧ (decode cX7_takeNak 23 = .ok (.if_icmp .eq 5, 3)) ∧ (decode cX7_takeNak 26 = .ok (.iconst 0, 1)) ∧ (decode cX7_takeNak 27 = .ok (.ireturn, 1)) := by decide +kernel
theorem dX7_takeNak_0 : decode cX7_takeNak 0 = .ok (.aload_n 0, 1) := gdX7_takeNak_0.1
theorem dX7_takeNak_1 : decode cX7_takeNak 1 = .ok (.iload_n 1, 1) := gdX7_takeNak_0.2.1
theorem dX7_takeNak_2 : decode cX7_takeNak 2 = .ok (.invokevirtual 156, 3) := gdX7_takeNak_0.2.2.1
theorem dX7_takeNak_5 : decode cX7_takeNak 5 = .ok (.ifCond .ne 5, 3) := gdX7_takeNak_0.2.2.2.1
theorem dX7_takeNak_8 : decode cX7_takeNak 8 = .ok (.iconst 0, 1) := gdX7_takeNak_0.2.2.2.2.1
theorem dX7_takeNak_9 : decode cX7_takeNak 9 = .ok (.ireturn, 1) := gdX7_takeNak_0.2.2.2.2.2.1
theorem dX7_takeNak_10 : decode cX7_takeNak 10 = .ok (.aload_n 0, 1) := gdX7_takeNak_0.2.2.2.2.2.2.1
theorem dX7_takeNak_11 : decode cX7_takeNak 11 = .ok (.iload_n 1, 1) := gdX7_takeNak_0.2.2.2.2.2.2.2.1
theorem dX7_takeNak_12 : decode cX7_takeNak 12 = .ok (.invokestatic 174, 3) := gdX7_takeNak_0.2.2.2.2.2.2.2.2.1
theorem dX7_takeNak_15 : decode cX7_takeNak 15 = .ok (.invokevirtual 177, 3) := gdX7_takeNak_0.2.2.2.2.2.2.2.2.2.1
theorem dX7_takeNak_18 : decode cX7_takeNak 18 = .ok (.iload_n 1, 1) := gdX7_takeNak_0.2.2.2.2.2.2.2.2.2.2.1
theorem dX7_takeNak_19 : decode cX7_takeNak 19 = .ok (.aload_n 0, 1) := gdX7_takeNak_0.2.2.2.2.2.2.2.2.2.2.2.1
theorem dX7_takeNak_20 : decode cX7_takeNak 20 = .ok (.getfield 68, 3) := gdX7_takeNak_0.2.2.2.2.2.2.2.2.2.2.2.2.1
theorem dX7_takeNak_23 : decode cX7_takeNak 23 = .ok (.if_icmp .eq 5, 3) := gdX7_takeNak_0.2.2.2.2.2.2.2.2.2.2.2.2.2.1
theorem dX7_takeNak_26 : decode cX7_takeNak 26 = .ok (.iconst 0, 1) := gdX7_takeNak_0.2.2.2.2.2.2.2.2.2.2.2.2.2.2.1
theorem dX7_takeNak_27 : decode cX7_takeNak 27 = .ok (.ireturn, 1) := gdX7_takeNak_0.2.2.2.2.2.2.2.2.2.2.2.2.2.2.2
theorem gdX7_takeNak_28 : (decode cX7_takeNak 28 = .ok (.iload_n 2, 1)) ∧ (decode cX7_takeNak 29 = .ok (.iconst 3, 1)) ∧ (decode cX7_takeNak 30 = .ok (.if_icmp .eq 8, 3)) ∧ (decode cX7_takeNak 33 = .ok (.iload_n 2, 1)) ∧ (decode cX7_takeNak 34 = .ok (.iconst 4, 1)) ∧ (decode cX7_takeNak 35 = .ok (.if_icmp .ne 5, 3)) ∧ (decode cX7_takeNak 38 = .ok (.iload_n 2, 1)) ∧ (decode cX7_takeNak 39 = .ok (.ireturn, 1)) ∧ (decode cX7_takeNak 40 = .ok (.aload_n 0, 1)) ∧ (decode cX7_takeNak 41 = .ok (.aload_n 0, 1)) ∧ (decode cX7_takeNak 42 = .ok (.getfield 68, 3)) ∧ (decode cX7_takeNak 45 = .ok (.putfield 71, 3)) ∧ (decode cX7_takeNak 48 = .ok (.iload_n 2, 1)) ∧ (decode cX7_takeNak 49 = .ok (.iconst 2, 1)) ∧ (decode cX7_takeNak 50 = .ok (.if_icmp .ne 10, 3)) ∧ (decode cX7_takeNak 53 = .ok (.aload_n 0, 1)) := by decide +kernel
theorem dX7_takeNak_28 : decode cX7_takeNak 28 = .ok (.iload_n 2, 1) := gdX7_takeNak_28.1
theorem dX7_takeNak_29 : decode cX7_takeNak 29 = .ok (.iconst 3, 1) := gdX7_takeNak_28.2.1
theorem dX7_takeNak_30 : decode cX7_takeNak 30 = .ok (.if_icmp .eq 8, 3) := gdX7_takeNak_28.2.2.1
theorem dX7_takeNak_33 : decode cX7_takeNak 33 = .ok (.iload_n 2, 1) := gdX7_takeNak_28.2.2.2.1
theorem dX7_takeNak_34 : decode cX7_takeNak 34 = .ok (.iconst 4, 1) := gdX7_takeNak_28.2.2.2.2.1
theorem dX7_takeNak_35 : decode cX7_takeNak 35 = .ok (.if_icmp .ne 5, 3) := gdX7_takeNak_28.2.2.2.2.2.1
theorem dX7_takeNak_38 : decode cX7_takeNak 38 = .ok (.iload_n 2, 1) := gdX7_takeNak_28.2.2.2.2.2.2.1
theorem dX7_takeNak_39 : decode cX7_takeNak 39 = .ok (.ireturn, 1) := gdX7_takeNak_28.2.2.2.2.2.2.2.1
theorem dX7_takeNak_40 : decode cX7_takeNak 40 = .ok (.aload_n 0, 1) := gdX7_takeNak_28.2.2.2.2.2.2.2.2.1
theorem dX7_takeNak_41 : decode cX7_takeNak 41 = .ok (.aload_n 0, 1) := gdX7_takeNak_28.2.2.2.2.2.2.2.2.2.1
theorem dX7_takeNak_42 : decode cX7_takeNak 42 = .ok (.getfield 68, 3) := gdX7_takeNak_28.2.2.2.2.2.2.2.2.2.2.1
theorem dX7_takeNak_45 : decode cX7_takeNak 45 = .ok (.putfield 71, 3) := gdX7_takeNak_28.2.2.2.2.2.2.2.2.2.2.2.1
theorem dX7_takeNak_48 : decode cX7_takeNak 48 = .ok (.iload_n 2, 1) := gdX7_takeNak_28.2.2.2.2.2.2.2.2.2.2.2.2.1
theorem dX7_takeNak_49 : decode cX7_takeNak 49 = .ok (.iconst 2, 1) := gdX7_takeNak_28.2.2.2.2.2.2.2.2.2.2.2.2.2.1
theorem dX7_takeNak_50 : decode cX7_takeNak 50 = .ok (.if_icmp .ne 10, 3) := gdX7_takeNak_28.2.2.2.2.2.2.2.2.2.2.2.2.2.2.1
theorem dX7_takeNak_53 : decode cX7_takeNak 53 = .ok (.aload_n 0, 1) := gdX7_takeNak_28.2.2.2.2.2.2.2.2.2.2.2.2.2.2.2
theorem gdX7_takeNak_54 : (decode cX7_takeNak 54 = .ok (.invokevirtual 180, 3)) ∧ (decode cX7_takeNak 57 = .ok (.goto 4, 3)) ∧ (decode cX7_takeNak 60 = .ok (.iconst 0, 1)) ∧ (decode cX7_takeNak 61 = .ok (.ireturn, 1)) := by decide +kernel
theorem dX7_takeNak_54 : decode cX7_takeNak 54 = .ok (.invokevirtual 180, 3) := gdX7_takeNak_54.1
theorem dX7_takeNak_57 : decode cX7_takeNak 57 = .ok (.goto 4, 3) := gdX7_takeNak_54.2.1
theorem dX7_takeNak_60 : decode cX7_takeNak 60 = .ok (.iconst 0, 1) := gdX7_takeNak_54.2.2.1
theorem dX7_takeNak_61 : decode cX7_takeNak 61 = .ok (.ireturn, 1) := gdX7_takeNak_54.2.2.2
set_option maxHeartbeats 8000000 in
set_option maxRecDepth 100000 in
theorem x_X7_takeNak (l : Launch) (E : EE) (z0 : Nat) (G : Nat → Nat) (hGz : ∀ q, G q ≠ 0 → z0 ≤ q) (B : AA) (R : RR) (hW : TW G B R) (h0 : Nat) (p0 : Int32) (p1 : Int32) (hG : G h0 = 9) : Met l yX7_takeNak [Cond.code yX7_takeNak cX7_takeNak 3 (some .int)] ({ frames := 4, cells := 0, slots := 0, locals := 90 } : Room) (va_Pc [.ref h0, .int p0, .int p1] (fun U => TX E G B R U.heap ∧ KS E z0 U)) (va_Qi (fun (r : Int32) (u : AA) => (TW G u R) ∧ (Fr G ([9, 11, 5, 15] : List Nat) B u) ∧ (C_X7_takeNak G B R h0 p0 p1 u r)) (fun u t => TX E G u R t.heap) (fun q : Nat => G q ∈ ([9, 11, 5, 15] : List Nat))) 0 0 (fun q : Nat => G q ∈ ([9, 11, 5, 15] : List Nat)) := by
  refine Met.ofW (cc := cX7_takeNak) (maxL := 3) (ret := (some .int)) (by decide) rfl ?_
  intro p e s m args below meth c s₁ B9 hml hv
  obtain ⟨rfl, hT, hK⟩ := hv
  have hx := B9.exec
  have hb := B9.bytes
  have hr := B9.returns
  have hts : ∀ w ∈ TS, w.before ([.ref h0, .int p0, .int p1] : List Value).toArray s = true := fun w hw => hK.2.1 w hw _
  have hown : s.vm.findClass RX7 = some m.cls := findClass_of_methodNamed B9.named
  have hlocks := B9.notSynchronized
  have hS : va_S (fun q : Nat => G q ∈ ([9, 11, 5, 15] : List Nat)) s.heap s.heap [] := va_S.rf
  have hAz : ∀ q, (fun q : Nat => G q ∈ ([9, 11, 5, 15] : List Nat)) q → z0 ≤ q := zL hGz (by decide)
  have hW_0 := hW
  have hl := lv_entry ([.ref h0, .int p0, .int p1]) (n := 3) (Nat.le_of_ble_eq_true rfl)
  rw [lg_entry_eq]
  generalize (lg_sl ([.ref h0, .int p0, .int p1]) ++ List.replicate (3 - (lg_sl ([.ref h0, .int p0, .int p1])).length) Slot.unset).toArray = ls at hl ⊢
  have hl : lv_has ls 3 [(0, .ref h0), (1, .int p0), (2, .int p1)] := hl
  refine lv_aload_n hx hb dX7_takeNak_0 rfl (lv_at hl 0 rfl) ?_
  refine lv_iload_n hx hb dX7_takeNak_1 rfl (lv_at hl 1 rfl) ?_
  have ha_1 := tx_9 hT hG
  refine va_calli (rnV (fun H => TX E G B R H) (As := [.int p0]) (rest := []) ⟨hx, hb, hml, hown, hts⟩ (x_X7_isOpen l E z0 G hGz B R hW h0 p0 hG) (cwV 1 hts (gdV ml_X7_156 im_X7_isOpen se_X7_X7_isOpen in_X7 co_X7_isOpen rfl) rfl rfl rfl (by decide +kernel) ⟨Nat.le_of_ble_eq_true rfl, Nat.le_of_ble_eq_true rfl⟩) hT (fun U hU hW => hK.go hW hS hAz hU) (va_recv hK.1 (va_one ha_1) (ci := 7) (q0 := 0) rfl rfl) rfl rfl hl.1 rfl (lv_room (Nat.le_of_ble_eq_true rfl)) dX7_takeNak_2 ⟨Nat.le_of_ble_eq_true rfl, Nat.le_of_ble_eq_true rfl⟩) hS (fun q _ h => h.elim) (fun q h => h.elim) (fun r_2 _ t H locs ht hvm hwr_2 hB hz hk hS => ?_)
  have hT : TX E G B R H := hT.kept (fun q hq => hk q hq (fun h => h))
  have hbr_2 : r_2 = 0 ∨ r_2 = 1 := hwr_2.1
  have hCr_2 : C_X7_isOpen G B R h0 p0 r_2 := hwr_2.2
  have hzr_2 := s_rng hbr_2
  refine lv_if_ne (tgt := 10) hx hb dX7_takeNak_5 (by decide) (fun c_3 => ?_) (fun c_3 => ?_)
  · simp only [lt_I, le_I, eq_I, i_0, i_1, i_2, i_3, i_4, i_5, i_6, i_7, i_8, i_10, i_12, i_16, i_20, i_23, i_24, i_31, i_32, i_63, i_64, i_m1] at c_3
    refine lv_aload_n hx hb dX7_takeNak_10 rfl (lv_at hl 0 rfl) ?_
    refine lv_iload_n hx hb dX7_takeNak_11 rfl (lv_at hl 1 rfl) ?_
    refine va_calli (rnSK (fun _ => True) (As := [.int p0]) (rest := [.ref h0]) ⟨hx, hb, hml, hown, hts⟩ (x_X9_before l E z0 p0) ⟨va_cnB (host := RX9) 1 hts (gd1 co_X9_before rfl) rfl rfl rfl (hK.2.1 _ mn_X7_174 #[]) (hts _ in_X9) (by decide +kernel) ⟨Nat.le_of_ble_eq_true rfl, Nat.le_of_ble_eq_true rfl⟩, hts _ st_X9_before, trivial⟩ trivial (fun U hU hW => hK.go hW hS hAz hU) rfl rfl hl.1 rfl (lv_room (Nat.le_of_ble_eq_true rfl)) dX7_takeNak_12 ⟨Nat.le_of_ble_eq_true rfl, Nat.le_of_ble_eq_true rfl⟩) hS (fun q _ h => h.elim) (fun q h => h.elim) (fun r_4 _ t H locs ht hvm hwr_4 hB hz hk hS => ?_)
    have hT : TX E G B R H := hT.kept (fun q hq => hk q hq (fun h => h))
    have hzr_4 := s_and63 (p0 + (-1)); rw [← hwr_4] at hzr_4
    have ha_5 := tx_9 hT hG
    refine va_callv (rnV (fun H => TX E G B R H) (As := [.int r_4]) (rest := []) ⟨hx, hb, hml, hown, hts⟩ (x_X7_takeAck l E z0 G hGz B R hW h0 r_4 hG) (cwV 1 hts (gdV ml_X7_177 im_X7_takeAck se_X7_X7_takeAck in_X7 co_X7_takeAck rfl) rfl rfl rfl (by decide +kernel) ⟨Nat.le_of_ble_eq_true rfl, Nat.le_of_ble_eq_true rfl⟩) hT (fun U hU hW => hK.go hW hS hAz hU) (va_recv hK.1 (va_one ha_5) (ci := 7) (q0 := 0) rfl rfl) rfl rfl hl.1 rfl (lv_room (Nat.le_of_ble_eq_true rfl)) dX7_takeNak_15 ⟨Nat.le_of_ble_eq_true rfl, Nat.le_of_ble_eq_true rfl⟩) hS (fun q _ h => mL (L' := [9, 11, 5, 15]) (L := [9, 11, 5, 15]) (by decide) h) (fun q h => mL (L' := [9, 11, 5, 15]) (L := [9, 11, 5, 15]) (by decide) h) (fun U_7 t H locs ht hvm hwr_6 hB hz hk hS => ?_)
    have hT : TX E G U_7 R H := by rw [ht] at hB; exact hB
    have hWr_6 : TW G U_7 R := hwr_6.1
    have hW := hWr_6
    have hFr_6 : Fr G [9, 11, 5, 15] B U_7 := hwr_6.2.1
    have hCr_6 : C_X7_takeAck G B R h0 r_4 U_7 := hwr_6.2.2
    refine lv_iload_n hx hb dX7_takeNak_18 rfl (lv_at hl 1 rfl) ?_
    refine lv_aload_n hx hb dX7_takeNak_19 rfl (lv_at hl 0 rfl) ?_
    have ha_8 := tx_9 hT hG
    refine va_get (D := DG E) (ci := 7) (v := .int (U_7 h0 8)) (C := RX7) (T := TX7) (N := 14) hx hb hts iw_X7 hown hK.1 (va_one ha_8) 0 rfl rfl 8 (by decide) (hts _ fl_X7_68) (fun _ h9 => h9) rfl dX7_takeNak_20 ?_
    refine lv_icmp_eq (tgt := 28) hx hb dX7_takeNak_23 (by decide) (fun c_9 => ?_) (fun c_9 => ?_)
    · simp only [lt_I, le_I, eq_I, i_0, i_1, i_2, i_3, i_4, i_5, i_6, i_7, i_8, i_10, i_12, i_16, i_20, i_23, i_24, i_31, i_32, i_63, i_64, i_m1] at c_9
      refine lv_iload_n hx hb dX7_takeNak_28 rfl (lv_at hl 2 rfl) ?_
      refine lv_iconst (v := 3) hx hb dX7_takeNak_29 (by decide) ?_
      refine lv_icmp_eq (tgt := 38) hx hb dX7_takeNak_30 (by decide) (fun c_10 => ?_) (fun c_10 => ?_)
      · simp only [lt_I, le_I, eq_I, i_0, i_1, i_2, i_3, i_4, i_5, i_6, i_7, i_8, i_10, i_12, i_16, i_20, i_23, i_24, i_31, i_32, i_63, i_64, i_m1] at c_10
        refine lv_iload_n hx hb dX7_takeNak_38 rfl (lv_at hl 2 rfl) ?_
        exact W.iret (v := p1) hx hb hr (fun t ht hW9 => ⟨⟨p1, U_7, rfl, ⟨hW, (Fr.c Fr.rf hFr_6 (by decide)), (Or.inl ⟨r_2, hCr_2, c_3, r_4, hwr_4, U_7, hFr_6, hCr_6, c_9, c_10, rfl, rfl⟩)⟩, (by show TX E G U_7 R t.heap; rw [ht]; exact hT)⟩, hS.F ht⟩) hS.2.2 dX7_takeNak_39
      · simp only [lt_I, le_I, eq_I, i_0, i_1, i_2, i_3, i_4, i_5, i_6, i_7, i_8, i_10, i_12, i_16, i_20, i_23, i_24, i_31, i_32, i_63, i_64, i_m1] at c_10
        refine lv_iload_n hx hb dX7_takeNak_33 rfl (lv_at hl 2 rfl) ?_
        refine lv_iconst (v := 4) hx hb dX7_takeNak_34 (by decide) ?_
        refine lv_icmp_ne (tgt := 40) hx hb dX7_takeNak_35 (by decide) (fun c_11 => ?_) (fun c_11 => ?_)
        · simp only [lt_I, le_I, eq_I, i_0, i_1, i_2, i_3, i_4, i_5, i_6, i_7, i_8, i_10, i_12, i_16, i_20, i_23, i_24, i_31, i_32, i_63, i_64, i_m1] at c_11
          refine lv_aload_n hx hb dX7_takeNak_40 rfl (lv_at hl 0 rfl) ?_
          refine lv_aload_n hx hb dX7_takeNak_41 rfl (lv_at hl 0 rfl) ?_
          refine va_get (D := DG E) (ci := 7) (v := .int (U_7 h0 8)) (C := RX7) (T := TX7) (N := 14) hx hb hts iw_X7 hown hK.1 (va_one ha_8) 0 rfl rfl 8 (by decide) (hts _ fl_X7_68) (fun _ h9 => h9) rfl dX7_takeNak_42 ?_
          refine rr_put (D := DG E) (ci := 7) (v := .int (U_7 h0 8)) (ty := .int) (C := RX7) (T := TX7) (N := 14) hx hb hts iw_X7 tyX7 tyX7_ok nmX7 hown hK.1 ha_8 hS (by show G h0 ∈ ([9, 11, 5, 15] : List Nat); rw [hG]; decide) rfl 9 (by decide) (hts _ fl_X7_71) (fun _ h9 => h9) rfl (by decide +kernel) rfl rfl (Nat.le_of_ble_eq_true rfl) dX7_takeNak_45 (fun H locs hn ho hz hS => ?_)
          obtain ⟨B_12, eB_12⟩ : ∃ z : AA, z = uA U_7 h0 (upd (U_7 h0) 9 (U_7 h0 8)) := ⟨_, rfl⟩
          have sB_12 : B_12 h0 9 = (U_7 h0 8) := by rw [eB_12, uA_s]; exact upd_s
          have nB_12 : ∀ k, k ≠ 9 → B_12 h0 k = U_7 h0 k := fun k hk => by rw [eB_12, uA_s]; exact upd_n hk
          have fB_12 : ∀ c, G c ≠ 9 → B_12 c = U_7 c := fun c hc => by rw [eB_12]; exact uA_n (fun e => hc (by rw [e]; exact hG))
          have hT : TX E G B_12 R H := by rw [eB_12]; exact hT.w (by rw [hG]; exact hn) ho
          have hWB_12 : TW G B_12 R := by rw [eB_12]; exact hWr_6.w (by rw [hG]; exact tw_9 hWr_6 hG)
          have hW := hWB_12
          refine lv_iload_n hx hb dX7_takeNak_48 rfl (lv_at hl 2 rfl) ?_
          refine lv_iconst (v := 2) hx hb dX7_takeNak_49 (by decide) ?_
          refine lv_icmp_ne (tgt := 60) hx hb dX7_takeNak_50 (by decide) (fun c_13 => ?_) (fun c_13 => ?_)
          · simp only [lt_I, le_I, eq_I, i_0, i_1, i_2, i_3, i_4, i_5, i_6, i_7, i_8, i_10, i_12, i_16, i_20, i_23, i_24, i_31, i_32, i_63, i_64, i_m1] at c_13
            refine lv_iconst (v := 0) hx hb dX7_takeNak_60 (by decide) ?_
            exact W.iret (v := 0) hx hb hr (fun t ht hW9 => ⟨⟨0, B_12, rfl, ⟨hW, (Fr.w (Fr.c Fr.rf hFr_6 (by decide)) hG (by decide) eB_12), (Or.inr (Or.inl ⟨r_2, hCr_2, c_3, r_4, hwr_4, U_7, hFr_6, hCr_6, c_9, c_10, c_11, B_12, eB_12, c_13, rfl, rfl⟩))⟩, (by show TX E G B_12 R t.heap; rw [ht]; exact hT)⟩, hS.F ht⟩) hS.2.2 dX7_takeNak_61
          · simp only [lt_I, le_I, eq_I, i_0, i_1, i_2, i_3, i_4, i_5, i_6, i_7, i_8, i_10, i_12, i_16, i_20, i_23, i_24, i_31, i_32, i_63, i_64, i_m1] at c_13
            refine lv_aload_n hx hb dX7_takeNak_53 rfl (lv_at hl 0 rfl) ?_
            have ha_14 := tx_9 hT hG
            refine va_calli (rnV (fun H => TX E G B_12 R H) (As := []) (rest := []) ⟨hx, hb, hml, hown, hts⟩ (x_X7_rest l E z0 G hGz B_12 R hW h0 hG) (cwV 0 hts (gdV ml_X7_180 im_X7_rest se_X7_X7_rest in_X7 co_X7_rest rfl) rfl rfl rfl (by decide +kernel) ⟨Nat.le_of_ble_eq_true rfl, Nat.le_of_ble_eq_true rfl⟩) hT (fun U hU hW => hK.go hW hS hAz hU) (va_recv hK.1 (va_one ha_14) (ci := 7) (q0 := 0) rfl rfl) rfl rfl hl.1 rfl (lv_room (Nat.le_of_ble_eq_true rfl)) dX7_takeNak_54 ⟨Nat.le_of_ble_eq_true rfl, Nat.le_of_ble_eq_true rfl⟩) hS (fun q _ h => mL (L' := [9]) (L := [9, 11, 5, 15]) (by decide) h) (fun q h => mL (L' := [9]) (L := [9, 11, 5, 15]) (by decide) h) (fun r_15 U_16 t H locs ht hvm hwr_15 hB hz hk hS => ?_)
            have hT : TX E G U_16 R H := by rw [ht] at hB; exact hB
            have hWr_15 : TW G U_16 R := hwr_15.1
            have hW := hWr_15
            have hFr_15 : Fr G [9] B_12 U_16 := hwr_15.2.1
            have hCr_15 : C_X7_rest G B_12 R h0 U_16 r_15 := hwr_15.2.2
            refine lv_goto (tgt := 61) hx hb dX7_takeNak_57 (by decide) ?_
            exact W.iret (v := r_15) hx hb hr (fun t ht hW9 => ⟨⟨r_15, U_16, rfl, ⟨hW, (Fr.c (Fr.w (Fr.c Fr.rf hFr_6 (by decide)) hG (by decide) eB_12) hFr_15 (by decide)), (Or.inr (Or.inr (Or.inl ⟨r_2, hCr_2, c_3, r_4, hwr_4, U_7, hFr_6, hCr_6, c_9, c_10, c_11, B_12, eB_12, c_13, r_15, U_16, hFr_15, hCr_15, rfl, rfl⟩)))⟩, (by show TX E G U_16 R t.heap; rw [ht]; exact hT)⟩, hS.F ht⟩) hS.2.2 dX7_takeNak_61
        · simp only [lt_I, le_I, eq_I, i_0, i_1, i_2, i_3, i_4, i_5, i_6, i_7, i_8, i_10, i_12, i_16, i_20, i_23, i_24, i_31, i_32, i_63, i_64, i_m1] at c_11
          refine lv_iload_n hx hb dX7_takeNak_38 rfl (lv_at hl 2 rfl) ?_
          exact W.iret (v := p1) hx hb hr (fun t ht hW9 => ⟨⟨p1, U_7, rfl, ⟨hW, (Fr.c Fr.rf hFr_6 (by decide)), (Or.inr (Or.inr (Or.inr (Or.inl ⟨r_2, hCr_2, c_3, r_4, hwr_4, U_7, hFr_6, hCr_6, c_9, c_10, c_11, rfl, rfl⟩))))⟩, (by show TX E G U_7 R t.heap; rw [ht]; exact hT)⟩, hS.F ht⟩) hS.2.2 dX7_takeNak_39
    · simp only [lt_I, le_I, eq_I, i_0, i_1, i_2, i_3, i_4, i_5, i_6, i_7, i_8, i_10, i_12, i_16, i_20, i_23, i_24, i_31, i_32, i_63, i_64, i_m1] at c_9
      refine lv_iconst (v := 0) hx hb dX7_takeNak_26 (by decide) ?_
      exact W.iret (v := 0) hx hb hr (fun t ht hW9 => ⟨⟨0, U_7, rfl, ⟨hW, (Fr.c Fr.rf hFr_6 (by decide)), (Or.inr (Or.inr (Or.inr (Or.inr (Or.inl ⟨r_2, hCr_2, c_3, r_4, hwr_4, U_7, hFr_6, hCr_6, c_9, rfl, rfl⟩)))))⟩, (by show TX E G U_7 R t.heap; rw [ht]; exact hT)⟩, hS.F ht⟩) hS.2.2 dX7_takeNak_27
  · simp only [lt_I, le_I, eq_I, i_0, i_1, i_2, i_3, i_4, i_5, i_6, i_7, i_8, i_10, i_12, i_16, i_20, i_23, i_24, i_31, i_32, i_63, i_64, i_m1] at c_3
    refine lv_iconst (v := 0) hx hb dX7_takeNak_8 (by decide) ?_
    exact W.iret (v := 0) hx hb hr (fun t ht hW9 => ⟨⟨0, B, rfl, ⟨hW, Fr.rf, (Or.inr (Or.inr (Or.inr (Or.inr (Or.inr ⟨r_2, hCr_2, c_3, rfl, rfl⟩)))))⟩, (by show TX E G B R t.heap; rw [ht]; exact hT)⟩, hS.F ht⟩) hS.2.2 dX7_takeNak_9
theorem gdX7_sendPart_0 : (decode cX7_sendPart 0 = .ok (.aload_n 0, 1)) ∧ (decode cX7_sendPart 1 = .ok (.getfield 23, 3)) ∧ (decode cX7_sendPart 4 = .ok (.aload_n 0, 1)) ∧ (decode cX7_sendPart 5 = .ok (.getfield 13, 3)) ∧ (decode cX7_sendPart 8 = .ok (.aload_n 1, 1)) ∧ (decode cX7_sendPart 9 = .ok (.getfield 118, 3)) ∧ (decode cX7_sendPart 12 = .ok (.aload_n 1, 1)) ∧ (decode cX7_sendPart 13 = .ok (.getfield 78, 3)) ∧ (decode cX7_sendPart 16 = .ok (.iload_n 2, 1)) ∧ (decode cX7_sendPart 17 = .ok (.invokestatic 98, 3)) ∧ (decode cX7_sendPart 20 = .ok (.invokevirtual 125, 3)) ∧ (decode cX7_sendPart 23 = .ok (.astore_n 3, 1)) ∧ (decode cX7_sendPart 24 = .ok (.iconst 4, 1)) ∧ (decode cX7_sendPart 25 = .ok (.iload_n 2, 1)) ∧ (decode cX7_sendPart 26 = .ok (.imul, 1)) ∧ (decode cX7_sendPart 27 = .ok (.istore 4, 2)) := by decide +kernel
theorem dX7_sendPart_0 : decode cX7_sendPart 0 = .ok (.aload_n 0, 1) := gdX7_sendPart_0.1
theorem dX7_sendPart_1 : decode cX7_sendPart 1 = .ok (.getfield 23, 3) := gdX7_sendPart_0.2.1
theorem dX7_sendPart_4 : decode cX7_sendPart 4 = .ok (.aload_n 0, 1) := gdX7_sendPart_0.2.2.1
theorem dX7_sendPart_5 : decode cX7_sendPart 5 = .ok (.getfield 13, 3) := gdX7_sendPart_0.2.2.2.1
theorem dX7_sendPart_8 : decode cX7_sendPart 8 = .ok (.aload_n 1, 1) := gdX7_sendPart_0.2.2.2.2.1
theorem dX7_sendPart_9 : decode cX7_sendPart 9 = .ok (.getfield 118, 3) := gdX7_sendPart_0.2.2.2.2.2.1
theorem dX7_sendPart_12 : decode cX7_sendPart 12 = .ok (.aload_n 1, 1) := gdX7_sendPart_0.2.2.2.2.2.2.1
theorem dX7_sendPart_13 : decode cX7_sendPart 13 = .ok (.getfield 78, 3) := gdX7_sendPart_0.2.2.2.2.2.2.2.1
theorem dX7_sendPart_16 : decode cX7_sendPart 16 = .ok (.iload_n 2, 1) := gdX7_sendPart_0.2.2.2.2.2.2.2.2.1
theorem dX7_sendPart_17 : decode cX7_sendPart 17 = .ok (.invokestatic 98, 3) := gdX7_sendPart_0.2.2.2.2.2.2.2.2.2.1
theorem dX7_sendPart_20 : decode cX7_sendPart 20 = .ok (.invokevirtual 125, 3) := gdX7_sendPart_0.2.2.2.2.2.2.2.2.2.2.1
theorem dX7_sendPart_23 : decode cX7_sendPart 23 = .ok (.astore_n 3, 1) := gdX7_sendPart_0.2.2.2.2.2.2.2.2.2.2.2.1
theorem dX7_sendPart_24 : decode cX7_sendPart 24 = .ok (.iconst 4, 1) := gdX7_sendPart_0.2.2.2.2.2.2.2.2.2.2.2.2.1
theorem dX7_sendPart_25 : decode cX7_sendPart 25 = .ok (.iload_n 2, 1) := gdX7_sendPart_0.2.2.2.2.2.2.2.2.2.2.2.2.2.1
theorem dX7_sendPart_26 : decode cX7_sendPart 26 = .ok (.imul, 1) := gdX7_sendPart_0.2.2.2.2.2.2.2.2.2.2.2.2.2.2.1
theorem dX7_sendPart_27 : decode cX7_sendPart 27 = .ok (.istore 4, 2) := gdX7_sendPart_0.2.2.2.2.2.2.2.2.2.2.2.2.2.2.2
theorem gdX7_sendPart_29 : (decode cX7_sendPart 29 = .ok (.aload_n 1, 1)) ∧ (decode cX7_sendPart 30 = .ok (.getfield 118, 3)) ∧ (decode cX7_sendPart 33 = .ok (.ifCond .ne 33, 3)) ∧ (decode cX7_sendPart 36 = .ok (.aload_n 3, 1)) ∧ (decode cX7_sendPart 37 = .ok (.iload_n 2, 1)) ∧ (decode cX7_sendPart 38 = .ok (.ifCond .ne 7, 3)) ∧ (decode cX7_sendPart 41 = .ok (.iconst 1, 1)) ∧ (decode cX7_sendPart 42 = .ok (.goto 4, 3)) ∧ (decode cX7_sendPart 45 = .ok (.iconst 0, 1)) ∧ (decode cX7_sendPart 46 = .ok (.aload_n 1, 1)) ∧ (decode cX7_sendPart 47 = .ok (.iload_n 2, 1)) ∧ (decode cX7_sendPart 48 = .ok (.invokevirtual 131, 3)) ∧ (decode cX7_sendPart 51 = .ok (.ifCond .eq 7, 3)) ∧ (decode cX7_sendPart 54 = .ok (.iconst 2, 1)) ∧ (decode cX7_sendPart 55 = .ok (.goto 4, 3)) ∧ (decode cX7_sendPart 58 = .ok (.iconst 0, 1)) := by decide +kernel
theorem dX7_sendPart_29 : decode cX7_sendPart 29 = .ok (.aload_n 1, 1) := gdX7_sendPart_29.1
theorem dX7_sendPart_30 : decode cX7_sendPart 30 = .ok (.getfield 118, 3) := gdX7_sendPart_29.2.1
theorem dX7_sendPart_33 : decode cX7_sendPart 33 = .ok (.ifCond .ne 33, 3) := gdX7_sendPart_29.2.2.1
theorem dX7_sendPart_36 : decode cX7_sendPart 36 = .ok (.aload_n 3, 1) := gdX7_sendPart_29.2.2.2.1
theorem dX7_sendPart_37 : decode cX7_sendPart 37 = .ok (.iload_n 2, 1) := gdX7_sendPart_29.2.2.2.2.1
theorem dX7_sendPart_38 : decode cX7_sendPart 38 = .ok (.ifCond .ne 7, 3) := gdX7_sendPart_29.2.2.2.2.2.1
theorem dX7_sendPart_41 : decode cX7_sendPart 41 = .ok (.iconst 1, 1) := gdX7_sendPart_29.2.2.2.2.2.2.1
theorem dX7_sendPart_42 : decode cX7_sendPart 42 = .ok (.goto 4, 3) := gdX7_sendPart_29.2.2.2.2.2.2.2.1
theorem dX7_sendPart_45 : decode cX7_sendPart 45 = .ok (.iconst 0, 1) := gdX7_sendPart_29.2.2.2.2.2.2.2.2.1
theorem dX7_sendPart_46 : decode cX7_sendPart 46 = .ok (.aload_n 1, 1) := gdX7_sendPart_29.2.2.2.2.2.2.2.2.2.1
theorem dX7_sendPart_47 : decode cX7_sendPart 47 = .ok (.iload_n 2, 1) := gdX7_sendPart_29.2.2.2.2.2.2.2.2.2.2.1
theorem dX7_sendPart_48 : decode cX7_sendPart 48 = .ok (.invokevirtual 131, 3) := gdX7_sendPart_29.2.2.2.2.2.2.2.2.2.2.2.1
theorem dX7_sendPart_51 : decode cX7_sendPart 51 = .ok (.ifCond .eq 7, 3) := gdX7_sendPart_29.2.2.2.2.2.2.2.2.2.2.2.2.1
theorem dX7_sendPart_54 : decode cX7_sendPart 54 = .ok (.iconst 2, 1) := gdX7_sendPart_29.2.2.2.2.2.2.2.2.2.2.2.2.2.1
theorem dX7_sendPart_55 : decode cX7_sendPart 55 = .ok (.goto 4, 3) := gdX7_sendPart_29.2.2.2.2.2.2.2.2.2.2.2.2.2.2.1
theorem dX7_sendPart_58 : decode cX7_sendPart 58 = .ok (.iconst 0, 1) := gdX7_sendPart_29.2.2.2.2.2.2.2.2.2.2.2.2.2.2.2
theorem gdX7_sendPart_59 : (decode cX7_sendPart 59 = .ok (.iadd, 1)) ∧ (decode cX7_sendPart 60 = .ok (.putfield 135, 3)) ∧ (decode cX7_sendPart 63 = .ok (.goto 22, 3)) ∧ (decode cX7_sendPart 66 = .ok (.aload_n 3, 1)) ∧ (decode cX7_sendPart 67 = .ok (.aload_n 1, 1)) ∧ (decode cX7_sendPart 68 = .ok (.getfield 89, 3)) ∧ (decode cX7_sendPart 71 = .ok (.putfield 135, 3)) ∧ (decode cX7_sendPart 74 = .ok (.aload_n 3, 1)) ∧ (decode cX7_sendPart 75 = .ok (.aload_n 1, 1)) ∧ (decode cX7_sendPart 76 = .ok (.getfield 92, 3)) ∧ (decode cX7_sendPart 79 = .ok (.iload 4, 2)) ∧ (decode cX7_sendPart 81 = .ok (.iadd, 1)) ∧ (decode cX7_sendPart 82 = .ok (.putfield 140, 3)) ∧ (decode cX7_sendPart 85 = .ok (.aload_n 1, 1)) ∧ (decode cX7_sendPart 86 = .ok (.getfield 118, 3)) ∧ (decode cX7_sendPart 89 = .ok (.iconst 2, 1)) := by decide +kernel
theorem dX7_sendPart_59 : decode cX7_sendPart 59 = .ok (.iadd, 1) := gdX7_sendPart_59.1
theorem dX7_sendPart_60 : decode cX7_sendPart 60 = .ok (.putfield 135, 3) := gdX7_sendPart_59.2.1
theorem dX7_sendPart_63 : decode cX7_sendPart 63 = .ok (.goto 22, 3) := gdX7_sendPart_59.2.2.1
theorem dX7_sendPart_66 : decode cX7_sendPart 66 = .ok (.aload_n 3, 1) := gdX7_sendPart_59.2.2.2.1
theorem dX7_sendPart_67 : decode cX7_sendPart 67 = .ok (.aload_n 1, 1) := gdX7_sendPart_59.2.2.2.2.1
theorem dX7_sendPart_68 : decode cX7_sendPart 68 = .ok (.getfield 89, 3) := gdX7_sendPart_59.2.2.2.2.2.1
theorem dX7_sendPart_71 : decode cX7_sendPart 71 = .ok (.putfield 135, 3) := gdX7_sendPart_59.2.2.2.2.2.2.1
theorem dX7_sendPart_74 : decode cX7_sendPart 74 = .ok (.aload_n 3, 1) := gdX7_sendPart_59.2.2.2.2.2.2.2.1
theorem dX7_sendPart_75 : decode cX7_sendPart 75 = .ok (.aload_n 1, 1) := gdX7_sendPart_59.2.2.2.2.2.2.2.2.1
theorem dX7_sendPart_76 : decode cX7_sendPart 76 = .ok (.getfield 92, 3) := gdX7_sendPart_59.2.2.2.2.2.2.2.2.2.1
theorem dX7_sendPart_79 : decode cX7_sendPart 79 = .ok (.iload 4, 2) := gdX7_sendPart_59.2.2.2.2.2.2.2.2.2.2.1
theorem dX7_sendPart_81 : decode cX7_sendPart 81 = .ok (.iadd, 1) := gdX7_sendPart_59.2.2.2.2.2.2.2.2.2.2.2.1
theorem dX7_sendPart_82 : decode cX7_sendPart 82 = .ok (.putfield 140, 3) := gdX7_sendPart_59.2.2.2.2.2.2.2.2.2.2.2.2.1
theorem dX7_sendPart_85 : decode cX7_sendPart 85 = .ok (.aload_n 1, 1) := gdX7_sendPart_59.2.2.2.2.2.2.2.2.2.2.2.2.2.1
theorem dX7_sendPart_86 : decode cX7_sendPart 86 = .ok (.getfield 118, 3) := gdX7_sendPart_59.2.2.2.2.2.2.2.2.2.2.2.2.2.2.1
theorem dX7_sendPart_89 : decode cX7_sendPart 89 = .ok (.iconst 2, 1) := gdX7_sendPart_59.2.2.2.2.2.2.2.2.2.2.2.2.2.2.2
theorem gdX7_sendPart_90 : (decode cX7_sendPart 90 = .ok (.if_icmp .ne 17, 3)) ∧ (decode cX7_sendPart 93 = .ok (.aload_n 3, 1)) ∧ (decode cX7_sendPart 94 = .ok (.aload_n 1, 1)) ∧ (decode cX7_sendPart 95 = .ok (.getfield 141, 3)) ∧ (decode cX7_sendPart 98 = .ok (.iload 4, 2)) ∧ (decode cX7_sendPart 100 = .ok (.isub, 1)) ∧ (decode cX7_sendPart 101 = .ok (.putfield 144, 3)) ∧ (decode cX7_sendPart 104 = .ok (.goto 42, 3)) ∧ (decode cX7_sendPart 107 = .ok (.aload_n 1, 1)) ∧ (decode cX7_sendPart 108 = .ok (.getfield 118, 3)) ∧ (decode cX7_sendPart 111 = .ok (.iconst 3, 1)) ∧ (decode cX7_sendPart 112 = .ok (.if_icmp .ne 14, 3)) ∧ (decode cX7_sendPart 115 = .ok (.aload_n 3, 1)) ∧ (decode cX7_sendPart 116 = .ok (.aload_n 1, 1)) ∧ (decode cX7_sendPart 117 = .ok (.getfield 95, 3)) ∧ (decode cX7_sendPart 120 = .ok (.putfield 145, 3)) := by decide +kernel
theorem dX7_sendPart_90 : decode cX7_sendPart 90 = .ok (.if_icmp .ne 17, 3) := gdX7_sendPart_90.1
theorem dX7_sendPart_93 : decode cX7_sendPart 93 = .ok (.aload_n 3, 1) := gdX7_sendPart_90.2.1
theorem dX7_sendPart_94 : decode cX7_sendPart 94 = .ok (.aload_n 1, 1) := gdX7_sendPart_90.2.2.1
theorem dX7_sendPart_95 : decode cX7_sendPart 95 = .ok (.getfield 141, 3) := gdX7_sendPart_90.2.2.2.1
theorem dX7_sendPart_98 : decode cX7_sendPart 98 = .ok (.iload 4, 2) := gdX7_sendPart_90.2.2.2.2.1
theorem dX7_sendPart_100 : decode cX7_sendPart 100 = .ok (.isub, 1) := gdX7_sendPart_90.2.2.2.2.2.1
theorem dX7_sendPart_101 : decode cX7_sendPart 101 = .ok (.putfield 144, 3) := gdX7_sendPart_90.2.2.2.2.2.2.1
theorem dX7_sendPart_104 : decode cX7_sendPart 104 = .ok (.goto 42, 3) := gdX7_sendPart_90.2.2.2.2.2.2.2.1
theorem dX7_sendPart_107 : decode cX7_sendPart 107 = .ok (.aload_n 1, 1) := gdX7_sendPart_90.2.2.2.2.2.2.2.2.1
theorem dX7_sendPart_108 : decode cX7_sendPart 108 = .ok (.getfield 118, 3) := gdX7_sendPart_90.2.2.2.2.2.2.2.2.2.1
theorem dX7_sendPart_111 : decode cX7_sendPart 111 = .ok (.iconst 3, 1) := gdX7_sendPart_90.2.2.2.2.2.2.2.2.2.2.1
theorem dX7_sendPart_112 : decode cX7_sendPart 112 = .ok (.if_icmp .ne 14, 3) := gdX7_sendPart_90.2.2.2.2.2.2.2.2.2.2.2.1
theorem dX7_sendPart_115 : decode cX7_sendPart 115 = .ok (.aload_n 3, 1) := gdX7_sendPart_90.2.2.2.2.2.2.2.2.2.2.2.2.1
theorem dX7_sendPart_116 : decode cX7_sendPart 116 = .ok (.aload_n 1, 1) := gdX7_sendPart_90.2.2.2.2.2.2.2.2.2.2.2.2.2.1
theorem dX7_sendPart_117 : decode cX7_sendPart 117 = .ok (.getfield 95, 3) := gdX7_sendPart_90.2.2.2.2.2.2.2.2.2.2.2.2.2.2.1
theorem dX7_sendPart_120 : decode cX7_sendPart 120 = .ok (.putfield 145, 3) := gdX7_sendPart_90.2.2.2.2.2.2.2.2.2.2.2.2.2.2.2
theorem gdX7_sendPart_123 : (decode cX7_sendPart 123 = .ok (.goto 23, 3)) ∧ (decode cX7_sendPart 126 = .ok (.aload_n 3, 1)) ∧ (decode cX7_sendPart 127 = .ok (.aload_n 0, 1)) ∧ (decode cX7_sendPart 128 = .ok (.getfield 19, 3)) ∧ (decode cX7_sendPart 131 = .ok (.aload_n 1, 1)) ∧ (decode cX7_sendPart 132 = .ok (.getfield 146, 3)) ∧ (decode cX7_sendPart 135 = .ok (.iload 4, 2)) ∧ (decode cX7_sendPart 137 = .ok (.iadd, 1)) ∧ (decode cX7_sendPart 138 = .ok (.aload_n 1, 1)) ∧ (decode cX7_sendPart 139 = .ok (.iload_n 2, 1)) ∧ (decode cX7_sendPart 140 = .ok (.invokevirtual 149, 3)) ∧ (decode cX7_sendPart 143 = .ok (.invokevirtual 152, 3)) ∧ (decode cX7_sendPart 146 = .ok (.return_, 1)) := by decide +kernel
theorem dX7_sendPart_123 : decode cX7_sendPart 123 = .ok (.goto 23, 3) := gdX7_sendPart_123.1
theorem dX7_sendPart_126 : decode cX7_sendPart 126 = .ok (.aload_n 3, 1) := gdX7_sendPart_123.2.1
theorem dX7_sendPart_127 : decode cX7_sendPart 127 = .ok (.aload_n 0, 1) := gdX7_sendPart_123.2.2.1
theorem dX7_sendPart_128 : decode cX7_sendPart 128 = .ok (.getfield 19, 3) := gdX7_sendPart_123.2.2.2.1
theorem dX7_sendPart_131 : decode cX7_sendPart 131 = .ok (.aload_n 1, 1) := gdX7_sendPart_123.2.2.2.2.1
theorem dX7_sendPart_132 : decode cX7_sendPart 132 = .ok (.getfield 146, 3) := gdX7_sendPart_123.2.2.2.2.2.1
theorem dX7_sendPart_135 : decode cX7_sendPart 135 = .ok (.iload 4, 2) := gdX7_sendPart_123.2.2.2.2.2.2.1
theorem dX7_sendPart_137 : decode cX7_sendPart 137 = .ok (.iadd, 1) := gdX7_sendPart_123.2.2.2.2.2.2.2.1
theorem dX7_sendPart_138 : decode cX7_sendPart 138 = .ok (.aload_n 1, 1) := gdX7_sendPart_123.2.2.2.2.2.2.2.2.1
theorem dX7_sendPart_139 : decode cX7_sendPart 139 = .ok (.iload_n 2, 1) := gdX7_sendPart_123.2.2.2.2.2.2.2.2.2.1
theorem dX7_sendPart_140 : decode cX7_sendPart 140 = .ok (.invokevirtual 149, 3) := gdX7_sendPart_123.2.2.2.2.2.2.2.2.2.2.1
theorem dX7_sendPart_143 : decode cX7_sendPart 143 = .ok (.invokevirtual 152, 3) := gdX7_sendPart_123.2.2.2.2.2.2.2.2.2.2.2.1
theorem dX7_sendPart_146 : decode cX7_sendPart 146 = .ok (.return_, 1) := gdX7_sendPart_123.2.2.2.2.2.2.2.2.2.2.2.2
set_option maxHeartbeats 8000000 in
set_option maxRecDepth 100000 in
theorem x_X7_sendPart (l : Launch) (E : EE) (z0 : Nat) (G : Nat → Nat) (hGz : ∀ q, G q ≠ 0 → z0 ≤ q) (B : AA) (R : RR) (hW : TW G B R) (h0 : Nat) (p0 : Nat) (p1 : Int32) (hG : G h0 = 9) (hG0 : G p0 = 13) (hy0 : 0 ≤ p1.toInt ∧ p1.toInt ≤ 63) : Met l yX7_sendPart [Cond.code yX7_sendPart cX7_sendPart 5 none] ({ frames := 3, cells := 0, slots := 0, locals := 65 } : Room) (va_Pc [.ref h0, .ref p0, .int p1] (fun U => TX E G B R U.heap ∧ KS E z0 U)) (va_Qv (fun (u : AA) => (TW G u R) ∧ (Fr G ([4, 31, 32] : List Nat) B u) ∧ (C_X7_sendPart G B R h0 p0 p1 u)) (fun u t => TX E G u R t.heap) (fun q : Nat => G q ∈ ([4, 31, 32] : List Nat))) 0 0 (fun q : Nat => G q ∈ ([4, 31, 32] : List Nat)) := by
  refine Met.ofW (cc := cX7_sendPart) (maxL := 5) (ret := none) (by decide) rfl ?_
  intro p e s m args below meth c s₁ B9 hml hv
  obtain ⟨rfl, hT, hK⟩ := hv
  have hx := B9.exec
  have hb := B9.bytes
  have hr := B9.returns
  have hts : ∀ w ∈ TS, w.before ([.ref h0, .ref p0, .int p1] : List Value).toArray s = true := fun w hw => hK.2.1 w hw _
  have hown : s.vm.findClass RX7 = some m.cls := findClass_of_methodNamed B9.named
  have hlocks := B9.notSynchronized
  have hS : va_S (fun q : Nat => G q ∈ ([4, 31, 32] : List Nat)) s.heap s.heap [] := va_S.rf
  have hAz : ∀ q, (fun q : Nat => G q ∈ ([4, 31, 32] : List Nat)) q → z0 ≤ q := zL hGz (by decide)
  have hW_0 := hW
  have hl := lv_entry ([.ref h0, .ref p0, .int p1]) (n := 5) (Nat.le_of_ble_eq_true rfl)
  rw [lg_entry_eq]
  generalize (lg_sl ([.ref h0, .ref p0, .int p1]) ++ List.replicate (5 - (lg_sl ([.ref h0, .ref p0, .int p1])).length) Slot.unset).toArray = ls at hl ⊢
  have hl : lv_has ls 5 [(0, .ref h0), (1, .ref p0), (2, .int p1)] := hl
  refine lv_aload_n hx hb dX7_sendPart_0 rfl (lv_at hl 0 rfl) ?_
  have ha_1 := tx_9 hT hG
  have hg_2 : G (R h0 2) = 4 := (tw_9 hW hG).2.2.1
  refine va_get (D := DG E) (ci := 7) (v := .ref (R h0 2)) (C := RX7) (T := TX7) (N := 14) hx hb hts iw_X7 hown hK.1 (va_one ha_1) 0 rfl rfl 2 (by decide) (hts _ fl_X7_23) (fun _ h9 => h9) rfl dX7_sendPart_1 ?_
  refine lv_aload_n hx hb dX7_sendPart_4 rfl (lv_at hl 0 rfl) ?_
  have hb_3 := (tw_9 hW_0 hG).1
  refine va_get (D := DG E) (ci := 7) (v := .int (B h0 0)) (C := RX7) (T := TX7) (N := 14) hx hb hts iw_X7 hown hK.1 (va_one ha_1) 0 rfl rfl 0 (by decide) (hts _ fl_X7_13) (fun _ h9 => h9) rfl dX7_sendPart_5 ?_
  refine lv_aload_n hx hb dX7_sendPart_8 rfl (lv_at hl 1 rfl) ?_
  have ha_4 := tx_13 hT hG0
  refine va_get (D := DG E) (ci := 4) (v := .int (B p0 0)) (C := RX4) (T := TX4) (N := 10) hx hb hts iw_X4 hown hK.1 (va_one ha_4) 0 rfl rfl 0 (by decide) (hts _ fl_X7_118) (fun _ h9 => h9) rfl dX7_sendPart_9 ?_
  refine lv_aload_n hx hb dX7_sendPart_12 rfl (lv_at hl 1 rfl) ?_
  refine va_get (D := DG E) (ci := 4) (v := .int (B p0 4)) (C := RX4) (T := TX4) (N := 10) hx hb hts iw_X4 hown hK.1 (va_one ha_4) 0 rfl rfl 4 (by decide) (hts _ fl_X7_78) (fun _ h9 => h9) rfl dX7_sendPart_13 ?_
  refine lv_iload_n hx hb dX7_sendPart_16 rfl (lv_at hl 2 rfl) ?_
  refine rnSN (As := [.int (B p0 4), .int p1]) (rest := [.int (B p0 0), .int (B h0 0), .ref (R h0 2)]) ⟨hx, hb, hml, hown, hts⟩ (c_X9_after l ((B p0 4)) p1) ⟨va_cnB (host := RX9) 2 hts (gd1 co_X9_after rfl) rfl rfl rfl (hK.2.1 _ mn_X7_98 #[]) (hts _ in_X9) (by decide +kernel) ⟨Nat.le_of_ble_eq_true rfl, Nat.le_of_ble_eq_true rfl⟩, hts _ st_X9_after, trivial⟩ rfl rfl hl.1 rfl (lv_room (Nat.le_of_ble_eq_true rfl)) dX7_sendPart_17 ⟨Nat.le_of_ble_eq_true rfl, Nat.le_of_ble_eq_true rfl⟩ ?_
  refine W.eq (g2 := F0 m 20 ls [.int (((B p0 4) + p1) &&& 63), .int (B p0 0), .int (B h0 0), .ref (R h0 2)]) (by rfl) ?_
  refine lv_topi (fun x_5 ex_5 => ?_)
  have fx_5 := s_and63 ((B p0 4) + p1); rw [← ex_5] at fx_5
  have ha_6 := tx_4 hT hg_2
  refine va_callr (rnV (fun H => TX E G B R H) (As := [.int (B h0 0), .int (B p0 0), .int x_5]) (rest := []) ⟨hx, hb, hml, hown, hts⟩ (x_X0_carry l E z0 G hGz B R hW (R h0 2) (B h0 0) (B p0 0) x_5 hg_2 (show 0 ≤ (B h0 0).toInt ∧ (B h0 0).toInt ≤ 3 from by first | decide | omega)) (cwV 3 hts (gdV ml_X7_125 im_X0_carry se_X0_X0_carry in_X0 co_X0_carry rfl) rfl rfl rfl (by decide +kernel) ⟨Nat.le_of_ble_eq_true rfl, Nat.le_of_ble_eq_true rfl⟩) hT (fun U hU hW => hK.go hW hS hAz hU) (va_recv hK.1 (va_one ha_6) (ci := 0) (q0 := 0) rfl rfl) rfl rfl hl.1 rfl (lv_room (Nat.le_of_ble_eq_true rfl)) dX7_sendPart_20 ⟨Nat.le_of_ble_eq_true rfl, Nat.le_of_ble_eq_true rfl⟩) hS (fun q _ h => mL (L' := [4, 31]) (L := [4, 31, 32]) (by decide) h) (fun q h => mL (L' := [4, 31]) (L := [4, 31, 32]) (by decide) h) (fun U_8 r_7 t H locs ht hvm hwr_7 hB hz hk hS => ?_)
  have hRr_7 := hB.1
  have hB := hB.2
  have hT : TX E G U_8 R H := by rw [ht] at hB; exact hB
  have hgr_7 : G r_7 = 31 := hRr_7.1
  have hWr_7 : TW G U_8 R := hRr_7.2.1
  have hW := hWr_7
  have hFr_7 : Fr G [4, 31] B U_8 := hRr_7.2.2.1
  have hCr_7 : C_X0_carry G B R (R h0 2) (B h0 0) (B p0 0) x_5 U_8 r_7 := hRr_7.2.2.2
  refine lv_astore_n (lv' := [(3, .ref r_7), (0, .ref h0), (1, .ref p0), (2, .int p1)]) hx hb dX7_sendPart_23 rfl hl (by decide) rfl (fun ls hl => ?_)
  refine lv_iconst (v := 4) hx hb dX7_sendPart_24 (by decide) ?_
  refine lv_iload_n hx hb dX7_sendPart_25 rfl (lv_at hl 3 rfl) ?_
  refine lv_imul hx hb dX7_sendPart_26 ?_
  refine lv_topi (fun x_9 ex_9 => ?_)
  have fx_9 : x_9.toInt = 4 * p1.toInt := by rw [ex_9]; exact s_mulK i_4 (by omega) (by omega)
  refine lv_istore (lv' := [(4, .int x_9), (3, .ref r_7), (0, .ref h0), (1, .ref p0), (2, .int p1)]) hx hb dX7_sendPart_27 hl (by decide) rfl (fun ls hl => ?_)
  refine lv_aload_n hx hb dX7_sendPart_29 rfl (lv_at hl 3 rfl) ?_
  have ha_10 := tx_13 hT hG0
  have l_11 : U_8 p0 0 = (B p0 0) := (congrFun (hFr_7 p0 (by rw [hG0]; decide)) 0)
  refine va_get (D := DG E) (ci := 4) (v := .int (U_8 p0 0)) (C := RX4) (T := TX4) (N := 10) hx hb hts iw_X4 hown hK.1 (va_one ha_10) 0 rfl rfl 0 (by decide) (hts _ fl_X7_118) (fun _ h9 => h9) rfl dX7_sendPart_30 ?_
  refine W.eq (g2 := F0 m 33 ls [.int (B p0 0)]) (by rw [l_11]) ?_
  refine lv_if_ne (tgt := 66) hx hb dX7_sendPart_33 (by decide) (fun c_12 => ?_) (fun c_12 => ?_)
  · simp only [lt_I, le_I, eq_I, i_0, i_1, i_2, i_3, i_4, i_5, i_6, i_7, i_8, i_10, i_12, i_16, i_20, i_23, i_24, i_31, i_32, i_63, i_64, i_m1] at c_12
    refine lv_aload_n hx hb dX7_sendPart_66 rfl (lv_at hl 1 rfl) ?_
    refine lv_aload_n hx hb dX7_sendPart_67 rfl (lv_at hl 3 rfl) ?_
    have l_13 : U_8 p0 6 = (B p0 6) := (congrFun (hFr_7 p0 (by rw [hG0]; decide)) 6)
    refine va_get (D := DG E) (ci := 4) (v := .int (U_8 p0 6)) (C := RX4) (T := TX4) (N := 10) hx hb hts iw_X4 hown hK.1 (va_one ha_10) 0 rfl rfl 6 (by decide) (hts _ fl_X7_89) (fun _ h9 => h9) rfl dX7_sendPart_68 ?_
    refine W.eq (g2 := F0 m 71 ls [.int (B p0 6), .ref r_7]) (by rw [l_13]) ?_
    have ha_14 := tx_31 hT hgr_7
    refine rr_put (D := DG E) (ci := 2) (v := .int (B p0 6)) (ty := .int) (C := RX2) (T := TX2) (N := 8) hx hb hts iw_X2 tyX2 tyX2_ok nmX2 hown hK.1 ha_14 hS (by show G r_7 ∈ ([4, 31, 32] : List Nat); rw [hgr_7]; decide) rfl 4 (by decide) (hts _ fl_X7_135) (fun _ h9 => h9) rfl (by decide +kernel) rfl rfl (Nat.le_of_ble_eq_true rfl) dX7_sendPart_71 (fun H locs hn ho hz hS => ?_)
    obtain ⟨B_15, eB_15⟩ : ∃ z : AA, z = uA U_8 r_7 (upd (U_8 r_7) 4 (B p0 6)) := ⟨_, rfl⟩
    have sB_15 : B_15 r_7 4 = (B p0 6) := by rw [eB_15, uA_s]; exact upd_s
    have nB_15 : ∀ k, k ≠ 4 → B_15 r_7 k = U_8 r_7 k := fun k hk => by rw [eB_15, uA_s]; exact upd_n hk
    have fB_15 : ∀ c, G c ≠ 31 → B_15 c = U_8 c := fun c hc => by rw [eB_15]; exact uA_n (fun e => hc (by rw [e]; exact hgr_7))
    have hT : TX E G B_15 R H := by rw [eB_15]; exact hT.w (by rw [hgr_7]; exact hn) ho
    have hWB_15 : TW G B_15 R := by rw [eB_15]; exact hWr_7.w (by rw [hgr_7]; exact tw_31 hWr_7 hgr_7)
    have hW := hWB_15
    refine lv_aload_n hx hb dX7_sendPart_74 rfl (lv_at hl 1 rfl) ?_
    refine lv_aload_n hx hb dX7_sendPart_75 rfl (lv_at hl 3 rfl) ?_
    have ha_16 := tx_13 hT hG0
    have l_17 : B_15 p0 7 = (B p0 7) := ((congrFun (fB_15 p0 (by rw [hG0]; decide)) 7)).trans ((congrFun (hFr_7 p0 (by rw [hG0]; decide)) 7))
    refine va_get (D := DG E) (ci := 4) (v := .int (B_15 p0 7)) (C := RX4) (T := TX4) (N := 10) hx hb hts iw_X4 hown hK.1 (va_one ha_16) 0 rfl rfl 7 (by decide) (hts _ fl_X7_92) (fun _ h9 => h9) rfl dX7_sendPart_76 ?_
    refine W.eq (g2 := F0 m 79 ls [.int (B p0 7), .ref r_7]) (by rw [l_17]) ?_
    refine lv_iload hx hb dX7_sendPart_79 (lv_at hl 0 rfl) ?_
    refine lv_iadd hx hb dX7_sendPart_81 ?_
    refine lv_topi (fun x_18 ex_18 => ?_)
    have ha_19 := tx_31 hT hgr_7
    refine rr_put (D := DG E) (ci := 2) (v := .int x_18) (ty := .int) (C := RX2) (T := TX2) (N := 8) hx hb hts iw_X2 tyX2 tyX2_ok nmX2 hown hK.1 ha_19 hS (by show G r_7 ∈ ([4, 31, 32] : List Nat); rw [hgr_7]; decide) rfl 5 (by decide) (hts _ fl_X7_140) (fun _ h9 => h9) rfl (by decide +kernel) rfl rfl (Nat.le_of_ble_eq_true rfl) dX7_sendPart_82 (fun H locs hn ho hz hS => ?_)
    obtain ⟨B_20, eB_20⟩ : ∃ z : AA, z = uA B_15 r_7 (upd (B_15 r_7) 5 x_18) := ⟨_, rfl⟩
    have sB_20 : B_20 r_7 5 = x_18 := by rw [eB_20, uA_s]; exact upd_s
    have nB_20 : ∀ k, k ≠ 5 → B_20 r_7 k = B_15 r_7 k := fun k hk => by rw [eB_20, uA_s]; exact upd_n hk
    have fB_20 : ∀ c, G c ≠ 31 → B_20 c = B_15 c := fun c hc => by rw [eB_20]; exact uA_n (fun e => hc (by rw [e]; exact hgr_7))
    have hT : TX E G B_20 R H := by rw [eB_20]; exact hT.w (by rw [hgr_7]; exact hn) ho
    have hWB_20 : TW G B_20 R := by rw [eB_20]; exact hWB_15.w (by rw [hgr_7]; exact tw_31 hWB_15 hgr_7)
    have hW := hWB_20
    refine lv_aload_n hx hb dX7_sendPart_85 rfl (lv_at hl 3 rfl) ?_
    have ha_21 := tx_13 hT hG0
    have l_22 : B_20 p0 0 = (B p0 0) := ((congrFun (fB_20 p0 (by rw [hG0]; decide)) 0)).trans (((congrFun (fB_15 p0 (by rw [hG0]; decide)) 0)).trans ((congrFun (hFr_7 p0 (by rw [hG0]; decide)) 0)))
    refine va_get (D := DG E) (ci := 4) (v := .int (B_20 p0 0)) (C := RX4) (T := TX4) (N := 10) hx hb hts iw_X4 hown hK.1 (va_one ha_21) 0 rfl rfl 0 (by decide) (hts _ fl_X7_118) (fun _ h9 => h9) rfl dX7_sendPart_86 ?_
    refine W.eq (g2 := F0 m 89 ls [.int (B p0 0)]) (by rw [l_22]) ?_
    refine lv_iconst (v := 2) hx hb dX7_sendPart_89 (by decide) ?_
    refine lv_icmp_ne (tgt := 107) hx hb dX7_sendPart_90 (by decide) (fun c_23 => ?_) (fun c_23 => ?_)
    · simp only [lt_I, le_I, eq_I, i_0, i_1, i_2, i_3, i_4, i_5, i_6, i_7, i_8, i_10, i_12, i_16, i_20, i_23, i_24, i_31, i_32, i_63, i_64, i_m1] at c_23
      refine lv_aload_n hx hb dX7_sendPart_107 rfl (lv_at hl 3 rfl) ?_
      refine va_get (D := DG E) (ci := 4) (v := .int (B_20 p0 0)) (C := RX4) (T := TX4) (N := 10) hx hb hts iw_X4 hown hK.1 (va_one ha_21) 0 rfl rfl 0 (by decide) (hts _ fl_X7_118) (fun _ h9 => h9) rfl dX7_sendPart_108 ?_
      refine W.eq (g2 := F0 m 111 ls [.int (B p0 0)]) (by rw [l_22]) ?_
      refine lv_iconst (v := 3) hx hb dX7_sendPart_111 (by decide) ?_
      refine lv_icmp_ne (tgt := 126) hx hb dX7_sendPart_112 (by decide) (fun c_24 => ?_) (fun c_24 => ?_)
      · simp only [lt_I, le_I, eq_I, i_0, i_1, i_2, i_3, i_4, i_5, i_6, i_7, i_8, i_10, i_12, i_16, i_20, i_23, i_24, i_31, i_32, i_63, i_64, i_m1] at c_24
        refine lv_aload_n hx hb dX7_sendPart_126 rfl (lv_at hl 1 rfl) ?_
        refine lv_aload_n hx hb dX7_sendPart_127 rfl (lv_at hl 2 rfl) ?_
        have ha_25 := tx_9 hT hG
        have hg_26 : G (R h0 1) = 5 := (tw_9 hW hG).2.1
        refine va_get (D := DG E) (ci := 7) (v := .ref (R h0 1)) (C := RX7) (T := TX7) (N := 14) hx hb hts iw_X7 hown hK.1 (va_one ha_25) 0 rfl rfl 1 (by decide) (hts _ fl_X7_19) (fun _ h9 => h9) rfl dX7_sendPart_128 ?_
        refine lv_aload_n hx hb dX7_sendPart_131 rfl (lv_at hl 3 rfl) ?_
        have l_27 : B_20 p0 2 = (B p0 2) := ((congrFun (fB_20 p0 (by rw [hG0]; decide)) 2)).trans (((congrFun (fB_15 p0 (by rw [hG0]; decide)) 2)).trans ((congrFun (hFr_7 p0 (by rw [hG0]; decide)) 2)))
        refine va_get (D := DG E) (ci := 4) (v := .int (B_20 p0 2)) (C := RX4) (T := TX4) (N := 10) hx hb hts iw_X4 hown hK.1 (va_one ha_21) 0 rfl rfl 2 (by decide) (hts _ fl_X7_146) (fun _ h9 => h9) rfl dX7_sendPart_132 ?_
        refine W.eq (g2 := F0 m 135 ls [.int (B p0 2), .ref (R h0 1), .ref r_7]) (by rw [l_27]) ?_
        refine lv_iload hx hb dX7_sendPart_135 (lv_at hl 0 rfl) ?_
        refine lv_iadd hx hb dX7_sendPart_137 ?_
        refine lv_topi (fun x_28 ex_28 => ?_)
        refine lv_aload_n hx hb dX7_sendPart_138 rfl (lv_at hl 3 rfl) ?_
        refine lv_iload_n hx hb dX7_sendPart_139 rfl (lv_at hl 4 rfl) ?_
        refine va_calli (rnV (fun H => TX E G B_20 R H) (As := [.int p1]) (rest := [.int x_28, .ref (R h0 1), .ref r_7]) ⟨hx, hb, hml, hown, hts⟩ (x_X4_cellsOf l E z0 G hGz B_20 R hW p0 p1 hG0) (cwV 1 hts (gdV ml_X7_149 im_X4_cellsOf se_X4_X4_cellsOf in_X4 co_X4_cellsOf rfl) rfl rfl rfl (by decide +kernel) ⟨Nat.le_of_ble_eq_true rfl, Nat.le_of_ble_eq_true rfl⟩) hT (fun U hU hW => hK.go hW hS hAz hU) (va_recv hK.1 (va_one ha_21) (ci := 4) (q0 := 0) rfl rfl) rfl rfl hl.1 rfl (lv_room (Nat.le_of_ble_eq_true rfl)) dX7_sendPart_140 ⟨Nat.le_of_ble_eq_true rfl, Nat.le_of_ble_eq_true rfl⟩) hS (fun q _ h => h.elim) (fun q h => h.elim) (fun r_29 _ t H locs ht hvm hwr_29 hB hz hk hS => ?_)
        have hT : TX E G B_20 R H := hT.kept (fun q hq => hk q hq (fun h => h))
        have hCr_29 : C_X4_cellsOf G B_20 R p0 p1 r_29 := hwr_29
        have ha_30 := tx_31 hT hgr_7
        refine va_callv (rnV (fun H => TX E G B_20 R H) (As := [.ref (R h0 1), .int x_28, .int r_29]) (rest := []) ⟨hx, hb, hml, hown, hts⟩ (x_X2_load l E z0 G hGz B_20 R hW r_7 (R h0 1) x_28 r_29 hgr_7 hg_26) (cwV 3 hts (gdV ml_X7_152 im_X2_load se_X2_X2_load in_X2 co_X2_load rfl) rfl rfl rfl (by decide +kernel) ⟨Nat.le_of_ble_eq_true rfl, Nat.le_of_ble_eq_true rfl⟩) hT (fun U hU hW => hK.go hW hS hAz hU) (va_recv hK.1 (va_one ha_30) (ci := 2) (q0 := 0) rfl rfl) rfl rfl hl.1 rfl (lv_room (Nat.le_of_ble_eq_true rfl)) dX7_sendPart_143 ⟨Nat.le_of_ble_eq_true rfl, Nat.le_of_ble_eq_true rfl⟩) hS (fun q _ h => mL (L' := [31, 32]) (L := [4, 31, 32]) (by decide) h) (fun q h => mL (L' := [31, 32]) (L := [4, 31, 32]) (by decide) h) (fun U_32 t H locs ht hvm hwr_31 hB hz hk hS => ?_)
        have hT : TX E G U_32 R H := by rw [ht] at hB; exact hB
        have hWr_31 : TW G U_32 R := hwr_31.1
        have hW := hWr_31
        have hFr_31 : Fr G [31, 32] B_20 U_32 := hwr_31.2.1
        have hCr_31 : C_X2_load G B_20 R r_7 (R h0 1) x_28 r_29 U_32 := hwr_31.2.2
        exact W.vret hx hb hr (fun t ht hW9 => ⟨⟨U_32, rfl, ⟨hW, (Fr.c (Fr.w (Fr.w (Fr.c Fr.rf hFr_7 (by decide)) hgr_7 (by decide) eB_15) hgr_7 (by decide) eB_20) hFr_31 (by decide)), (Or.inl ⟨x_5, ex_5, r_7, U_8, hFr_7, hCr_7, x_9, ex_9, fx_9, c_12, B_15, eB_15, x_18, ex_18, B_20, eB_20, c_23, c_24, x_28, ex_28, r_29, hCr_29, U_32, hFr_31, hCr_31, rfl⟩)⟩, (by show TX E G U_32 R t.heap; rw [ht]; exact hT)⟩, hS.F ht⟩) hS.2.2 dX7_sendPart_146
      · simp only [lt_I, le_I, eq_I, i_0, i_1, i_2, i_3, i_4, i_5, i_6, i_7, i_8, i_10, i_12, i_16, i_20, i_23, i_24, i_31, i_32, i_63, i_64, i_m1] at c_24
        refine lv_aload_n hx hb dX7_sendPart_115 rfl (lv_at hl 1 rfl) ?_
        refine lv_aload_n hx hb dX7_sendPart_116 rfl (lv_at hl 3 rfl) ?_
        have l_33 : B_20 p0 8 = (B p0 8) := ((congrFun (fB_20 p0 (by rw [hG0]; decide)) 8)).trans (((congrFun (fB_15 p0 (by rw [hG0]; decide)) 8)).trans ((congrFun (hFr_7 p0 (by rw [hG0]; decide)) 8)))
        refine va_get (D := DG E) (ci := 4) (v := .int (B_20 p0 8)) (C := RX4) (T := TX4) (N := 10) hx hb hts iw_X4 hown hK.1 (va_one ha_21) 0 rfl rfl 8 (by decide) (hts _ fl_X7_95) (fun _ h9 => h9) rfl dX7_sendPart_117 ?_
        refine W.eq (g2 := F0 m 120 ls [.int (B p0 8), .ref r_7]) (by rw [l_33]) ?_
        have ha_34 := tx_31 hT hgr_7
        refine rr_put (D := DG E) (ci := 2) (v := .int (B p0 8)) (ty := .int) (C := RX2) (T := TX2) (N := 8) hx hb hts iw_X2 tyX2 tyX2_ok nmX2 hown hK.1 ha_34 hS (by show G r_7 ∈ ([4, 31, 32] : List Nat); rw [hgr_7]; decide) rfl 6 (by decide) (hts _ fl_X7_145) (fun _ h9 => h9) rfl (by decide +kernel) rfl rfl (Nat.le_of_ble_eq_true rfl) dX7_sendPart_120 (fun H locs hn ho hz hS => ?_)
        obtain ⟨B_35, eB_35⟩ : ∃ z : AA, z = uA B_20 r_7 (upd (B_20 r_7) 6 (B p0 8)) := ⟨_, rfl⟩
        have sB_35 : B_35 r_7 6 = (B p0 8) := by rw [eB_35, uA_s]; exact upd_s
        have nB_35 : ∀ k, k ≠ 6 → B_35 r_7 k = B_20 r_7 k := fun k hk => by rw [eB_35, uA_s]; exact upd_n hk
        have fB_35 : ∀ c, G c ≠ 31 → B_35 c = B_20 c := fun c hc => by rw [eB_35]; exact uA_n (fun e => hc (by rw [e]; exact hgr_7))
        have hT : TX E G B_35 R H := by rw [eB_35]; exact hT.w (by rw [hgr_7]; exact hn) ho
        have hWB_35 : TW G B_35 R := by rw [eB_35]; exact hWB_20.w (by rw [hgr_7]; exact tw_31 hWB_20 hgr_7)
        have hW := hWB_35
        refine lv_goto (tgt := 146) hx hb dX7_sendPart_123 (by decide) ?_
        exact W.vret hx hb hr (fun t ht hW9 => ⟨⟨B_35, rfl, ⟨hW, (Fr.w (Fr.w (Fr.w (Fr.c Fr.rf hFr_7 (by decide)) hgr_7 (by decide) eB_15) hgr_7 (by decide) eB_20) hgr_7 (by decide) eB_35), (Or.inr (Or.inl ⟨x_5, ex_5, r_7, U_8, hFr_7, hCr_7, x_9, ex_9, fx_9, c_12, B_15, eB_15, x_18, ex_18, B_20, eB_20, c_23, c_24, B_35, eB_35, rfl⟩))⟩, (by show TX E G B_35 R t.heap; rw [ht]; exact hT)⟩, hS.F ht⟩) hS.2.2 dX7_sendPart_146
    · simp only [lt_I, le_I, eq_I, i_0, i_1, i_2, i_3, i_4, i_5, i_6, i_7, i_8, i_10, i_12, i_16, i_20, i_23, i_24, i_31, i_32, i_63, i_64, i_m1] at c_23
      refine lv_aload_n hx hb dX7_sendPart_93 rfl (lv_at hl 1 rfl) ?_
      refine lv_aload_n hx hb dX7_sendPart_94 rfl (lv_at hl 3 rfl) ?_
      have l_36 : B_20 p0 3 = (B p0 3) := ((congrFun (fB_20 p0 (by rw [hG0]; decide)) 3)).trans (((congrFun (fB_15 p0 (by rw [hG0]; decide)) 3)).trans ((congrFun (hFr_7 p0 (by rw [hG0]; decide)) 3)))
      have hb_37 := (tw_13 hW_0 hG0)
      refine va_get (D := DG E) (ci := 4) (v := .int (B_20 p0 3)) (C := RX4) (T := TX4) (N := 10) hx hb hts iw_X4 hown hK.1 (va_one ha_21) 0 rfl rfl 3 (by decide) (hts _ fl_X7_141) (fun _ h9 => h9) rfl dX7_sendPart_95 ?_
      refine W.eq (g2 := F0 m 98 ls [.int (B p0 3), .ref r_7]) (by rw [l_36]) ?_
      refine lv_iload hx hb dX7_sendPart_98 (lv_at hl 0 rfl) ?_
      refine lv_isub hx hb dX7_sendPart_100 ?_
      refine lv_topi (fun x_38 ex_38 => ?_)
      have fx_38 : x_38.toInt = (B p0 3).toInt - x_9.toInt := by have h9 := s_sub (x := (B p0 3)) (y := x_9) (by omega) (by omega); rw [ex_38]; exact h9
      have ha_39 := tx_31 hT hgr_7
      have h9_40 := tw_31 hWB_20 hgr_7
      refine rr_put (D := DG E) (ci := 2) (v := .int x_38) (ty := .int) (C := RX2) (T := TX2) (N := 8) hx hb hts iw_X2 tyX2 tyX2_ok nmX2 hown hK.1 ha_39 hS (by show G r_7 ∈ ([4, 31, 32] : List Nat); rw [hgr_7]; decide) rfl 3 (by decide) (hts _ fl_X7_144) (fun _ h9 => h9) rfl (by decide +kernel) rfl rfl (Nat.le_of_ble_eq_true rfl) dX7_sendPart_101 (fun H locs hn ho hz hS => ?_)
      obtain ⟨B_41, eB_41⟩ : ∃ z : AA, z = uA B_20 r_7 (upd (B_20 r_7) 3 x_38) := ⟨_, rfl⟩
      have sB_41 : B_41 r_7 3 = x_38 := by rw [eB_41, uA_s]; exact upd_s
      have nB_41 : ∀ k, k ≠ 3 → B_41 r_7 k = B_20 r_7 k := fun k hk => by rw [eB_41, uA_s]; exact upd_n hk
      have fB_41 : ∀ c, G c ≠ 31 → B_41 c = B_20 c := fun c hc => by rw [eB_41]; exact uA_n (fun e => hc (by rw [e]; exact hgr_7))
      have hT : TX E G B_41 R H := by rw [eB_41]; exact hT.w (by rw [hgr_7]; exact hn) ho
      have hWB_41 : TW G B_41 R := by rw [eB_41]; exact hWB_20.w (by rw [hgr_7]; exact ⟨h9_40.1, (show (x_38 : Int32).toInt ≤ 12 from by omega), h9_40.2.2⟩)
      have hW := hWB_41
      refine lv_goto (tgt := 146) hx hb dX7_sendPart_104 (by decide) ?_
      exact W.vret hx hb hr (fun t ht hW9 => ⟨⟨B_41, rfl, ⟨hW, (Fr.w (Fr.w (Fr.w (Fr.c Fr.rf hFr_7 (by decide)) hgr_7 (by decide) eB_15) hgr_7 (by decide) eB_20) hgr_7 (by decide) eB_41), (Or.inr (Or.inr (Or.inl ⟨x_5, ex_5, r_7, U_8, hFr_7, hCr_7, x_9, ex_9, fx_9, c_12, B_15, eB_15, x_18, ex_18, B_20, eB_20, c_23, x_38, ex_38, fx_38, B_41, eB_41, rfl⟩)))⟩, (by show TX E G B_41 R t.heap; rw [ht]; exact hT)⟩, hS.F ht⟩) hS.2.2 dX7_sendPart_146
  · simp only [lt_I, le_I, eq_I, i_0, i_1, i_2, i_3, i_4, i_5, i_6, i_7, i_8, i_10, i_12, i_16, i_20, i_23, i_24, i_31, i_32, i_63, i_64, i_m1] at c_12
    refine lv_aload_n hx hb dX7_sendPart_36 rfl (lv_at hl 1 rfl) ?_
    refine lv_iload_n hx hb dX7_sendPart_37 rfl (lv_at hl 4 rfl) ?_
    refine lv_if_ne (tgt := 45) hx hb dX7_sendPart_38 (by decide) (fun c_42 => ?_) (fun c_42 => ?_)
    · simp only [lt_I, le_I, eq_I, i_0, i_1, i_2, i_3, i_4, i_5, i_6, i_7, i_8, i_10, i_12, i_16, i_20, i_23, i_24, i_31, i_32, i_63, i_64, i_m1] at c_42
      refine lv_iconst (v := 0) hx hb dX7_sendPart_45 (by decide) ?_
      refine lv_aload_n hx hb dX7_sendPart_46 rfl (lv_at hl 3 rfl) ?_
      refine lv_iload_n hx hb dX7_sendPart_47 rfl (lv_at hl 4 rfl) ?_
      refine va_calli (rnV (fun H => TX E G U_8 R H) (As := [.int p1]) (rest := [.int 0, .ref r_7]) ⟨hx, hb, hml, hown, hts⟩ (x_X4_isLastNumber l E z0 G hGz U_8 R hW p0 p1 hG0) (cwV 1 hts (gdV ml_X7_131 im_X4_isLastNumber se_X4_X4_isLastNumber in_X4 co_X4_isLastNumber rfl) rfl rfl rfl (by decide +kernel) ⟨Nat.le_of_ble_eq_true rfl, Nat.le_of_ble_eq_true rfl⟩) hT (fun U hU hW => hK.go hW hS hAz hU) (va_recv hK.1 (va_one ha_10) (ci := 4) (q0 := 0) rfl rfl) rfl rfl hl.1 rfl (lv_room (Nat.le_of_ble_eq_true rfl)) dX7_sendPart_48 ⟨Nat.le_of_ble_eq_true rfl, Nat.le_of_ble_eq_true rfl⟩) hS (fun q _ h => h.elim) (fun q h => h.elim) (fun r_43 _ t H locs ht hvm hwr_43 hB hz hk hS => ?_)
      have hT : TX E G U_8 R H := hT.kept (fun q hq => hk q hq (fun h => h))
      have hbr_43 : r_43 = 0 ∨ r_43 = 1 := hwr_43.1
      have hCr_43 : C_X4_isLastNumber G U_8 R p0 p1 r_43 := hwr_43.2
      have hzr_43 := s_rng hbr_43
      refine lv_if_eq (tgt := 58) hx hb dX7_sendPart_51 (by decide) (fun c_44 => ?_) (fun c_44 => ?_)
      · simp only [lt_I, le_I, eq_I, i_0, i_1, i_2, i_3, i_4, i_5, i_6, i_7, i_8, i_10, i_12, i_16, i_20, i_23, i_24, i_31, i_32, i_63, i_64, i_m1] at c_44
        refine lv_iconst (v := 0) hx hb dX7_sendPart_58 (by decide) ?_
        refine lv_iadd hx hb dX7_sendPart_59 ?_
        refine W.eq (g2 := F0 m 60 ls [.int 0, .ref r_7]) (by rfl) ?_
        have ha_45 := tx_31 hT hgr_7
        refine rr_put (D := DG E) (ci := 2) (v := .int 0) (ty := .int) (C := RX2) (T := TX2) (N := 8) hx hb hts iw_X2 tyX2 tyX2_ok nmX2 hown hK.1 ha_45 hS (by show G r_7 ∈ ([4, 31, 32] : List Nat); rw [hgr_7]; decide) rfl 4 (by decide) (hts _ fl_X7_135) (fun _ h9 => h9) rfl (by decide +kernel) rfl rfl (Nat.le_of_ble_eq_true rfl) dX7_sendPart_60 (fun H locs hn ho hz hS => ?_)
        obtain ⟨B_46, eB_46⟩ : ∃ z : AA, z = uA U_8 r_7 (upd (U_8 r_7) 4 0) := ⟨_, rfl⟩
        have sB_46 : B_46 r_7 4 = 0 := by rw [eB_46, uA_s]; exact upd_s
        have nB_46 : ∀ k, k ≠ 4 → B_46 r_7 k = U_8 r_7 k := fun k hk => by rw [eB_46, uA_s]; exact upd_n hk
        have fB_46 : ∀ c, G c ≠ 31 → B_46 c = U_8 c := fun c hc => by rw [eB_46]; exact uA_n (fun e => hc (by rw [e]; exact hgr_7))
        have hT : TX E G B_46 R H := by rw [eB_46]; exact hT.w (by rw [hgr_7]; exact hn) ho
        have hWB_46 : TW G B_46 R := by rw [eB_46]; exact hWr_7.w (by rw [hgr_7]; exact tw_31 hWr_7 hgr_7)
        have hW := hWB_46
        refine lv_goto (tgt := 85) hx hb dX7_sendPart_63 (by decide) ?_
        refine lv_aload_n hx hb dX7_sendPart_85 rfl (lv_at hl 3 rfl) ?_
        have ha_47 := tx_13 hT hG0
        have l_48 : B_46 p0 0 = (B p0 0) := ((congrFun (fB_46 p0 (by rw [hG0]; decide)) 0)).trans ((congrFun (hFr_7 p0 (by rw [hG0]; decide)) 0))
        refine va_get (D := DG E) (ci := 4) (v := .int (B_46 p0 0)) (C := RX4) (T := TX4) (N := 10) hx hb hts iw_X4 hown hK.1 (va_one ha_47) 0 rfl rfl 0 (by decide) (hts _ fl_X7_118) (fun _ h9 => h9) rfl dX7_sendPart_86 ?_
        refine W.eq (g2 := F0 m 89 ls [.int (B p0 0)]) (by rw [l_48]) ?_
        refine lv_iconst (v := 2) hx hb dX7_sendPart_89 (by decide) ?_
        refine lv_icmp_ne (tgt := 107) hx hb dX7_sendPart_90 (by decide) (fun c_49 => ?_) (fun c_49 => by exfalso; simp only [lt_I, le_I, eq_I, i_0, i_1, i_2, i_3, i_4, i_5, i_6, i_7, i_8, i_10, i_12, i_16, i_20, i_23, i_24, i_31, i_32, i_63, i_64, i_m1] at c_49; omega)
        refine lv_aload_n hx hb dX7_sendPart_107 rfl (lv_at hl 3 rfl) ?_
        refine va_get (D := DG E) (ci := 4) (v := .int (B_46 p0 0)) (C := RX4) (T := TX4) (N := 10) hx hb hts iw_X4 hown hK.1 (va_one ha_47) 0 rfl rfl 0 (by decide) (hts _ fl_X7_118) (fun _ h9 => h9) rfl dX7_sendPart_108 ?_
        refine W.eq (g2 := F0 m 111 ls [.int (B p0 0)]) (by rw [l_48]) ?_
        refine lv_iconst (v := 3) hx hb dX7_sendPart_111 (by decide) ?_
        refine lv_icmp_ne (tgt := 126) hx hb dX7_sendPart_112 (by decide) (fun c_50 => ?_) (fun c_50 => by exfalso; simp only [lt_I, le_I, eq_I, i_0, i_1, i_2, i_3, i_4, i_5, i_6, i_7, i_8, i_10, i_12, i_16, i_20, i_23, i_24, i_31, i_32, i_63, i_64, i_m1] at c_50; omega)
        refine lv_aload_n hx hb dX7_sendPart_126 rfl (lv_at hl 1 rfl) ?_
        refine lv_aload_n hx hb dX7_sendPart_127 rfl (lv_at hl 2 rfl) ?_
        have ha_51 := tx_9 hT hG
        have hg_52 : G (R h0 1) = 5 := (tw_9 hW hG).2.1
        refine va_get (D := DG E) (ci := 7) (v := .ref (R h0 1)) (C := RX7) (T := TX7) (N := 14) hx hb hts iw_X7 hown hK.1 (va_one ha_51) 0 rfl rfl 1 (by decide) (hts _ fl_X7_19) (fun _ h9 => h9) rfl dX7_sendPart_128 ?_
        refine lv_aload_n hx hb dX7_sendPart_131 rfl (lv_at hl 3 rfl) ?_
        have l_53 : B_46 p0 2 = (B p0 2) := ((congrFun (fB_46 p0 (by rw [hG0]; decide)) 2)).trans ((congrFun (hFr_7 p0 (by rw [hG0]; decide)) 2))
        refine va_get (D := DG E) (ci := 4) (v := .int (B_46 p0 2)) (C := RX4) (T := TX4) (N := 10) hx hb hts iw_X4 hown hK.1 (va_one ha_47) 0 rfl rfl 2 (by decide) (hts _ fl_X7_146) (fun _ h9 => h9) rfl dX7_sendPart_132 ?_
        refine W.eq (g2 := F0 m 135 ls [.int (B p0 2), .ref (R h0 1), .ref r_7]) (by rw [l_53]) ?_
        refine lv_iload hx hb dX7_sendPart_135 (lv_at hl 0 rfl) ?_
        refine lv_iadd hx hb dX7_sendPart_137 ?_
        refine lv_topi (fun x_54 ex_54 => ?_)
        refine lv_aload_n hx hb dX7_sendPart_138 rfl (lv_at hl 3 rfl) ?_
        refine lv_iload_n hx hb dX7_sendPart_139 rfl (lv_at hl 4 rfl) ?_
        refine va_calli (rnV (fun H => TX E G B_46 R H) (As := [.int p1]) (rest := [.int x_54, .ref (R h0 1), .ref r_7]) ⟨hx, hb, hml, hown, hts⟩ (x_X4_cellsOf l E z0 G hGz B_46 R hW p0 p1 hG0) (cwV 1 hts (gdV ml_X7_149 im_X4_cellsOf se_X4_X4_cellsOf in_X4 co_X4_cellsOf rfl) rfl rfl rfl (by decide +kernel) ⟨Nat.le_of_ble_eq_true rfl, Nat.le_of_ble_eq_true rfl⟩) hT (fun U hU hW => hK.go hW hS hAz hU) (va_recv hK.1 (va_one ha_47) (ci := 4) (q0 := 0) rfl rfl) rfl rfl hl.1 rfl (lv_room (Nat.le_of_ble_eq_true rfl)) dX7_sendPart_140 ⟨Nat.le_of_ble_eq_true rfl, Nat.le_of_ble_eq_true rfl⟩) hS (fun q _ h => h.elim) (fun q h => h.elim) (fun r_55 _ t H locs ht hvm hwr_55 hB hz hk hS => ?_)
        have hT : TX E G B_46 R H := hT.kept (fun q hq => hk q hq (fun h => h))
        have hCr_55 : C_X4_cellsOf G B_46 R p0 p1 r_55 := hwr_55
        have ha_56 := tx_31 hT hgr_7
        refine va_callv (rnV (fun H => TX E G B_46 R H) (As := [.ref (R h0 1), .int x_54, .int r_55]) (rest := []) ⟨hx, hb, hml, hown, hts⟩ (x_X2_load l E z0 G hGz B_46 R hW r_7 (R h0 1) x_54 r_55 hgr_7 hg_52) (cwV 3 hts (gdV ml_X7_152 im_X2_load se_X2_X2_load in_X2 co_X2_load rfl) rfl rfl rfl (by decide +kernel) ⟨Nat.le_of_ble_eq_true rfl, Nat.le_of_ble_eq_true rfl⟩) hT (fun U hU hW => hK.go hW hS hAz hU) (va_recv hK.1 (va_one ha_56) (ci := 2) (q0 := 0) rfl rfl) rfl rfl hl.1 rfl (lv_room (Nat.le_of_ble_eq_true rfl)) dX7_sendPart_143 ⟨Nat.le_of_ble_eq_true rfl, Nat.le_of_ble_eq_true rfl⟩) hS (fun q _ h => mL (L' := [31, 32]) (L := [4, 31, 32]) (by decide) h) (fun q h => mL (L' := [31, 32]) (L := [4, 31, 32]) (by decide) h) (fun U_58 t H locs ht hvm hwr_57 hB hz hk hS => ?_)
        have hT : TX E G U_58 R H := by rw [ht] at hB; exact hB
        have hWr_57 : TW G U_58 R := hwr_57.1
        have hW := hWr_57
        have hFr_57 : Fr G [31, 32] B_46 U_58 := hwr_57.2.1
        have hCr_57 : C_X2_load G B_46 R r_7 (R h0 1) x_54 r_55 U_58 := hwr_57.2.2
        exact W.vret hx hb hr (fun t ht hW9 => ⟨⟨U_58, rfl, ⟨hW, (Fr.c (Fr.w (Fr.c Fr.rf hFr_7 (by decide)) hgr_7 (by decide) eB_46) hFr_57 (by decide)), (Or.inr (Or.inr (Or.inr (Or.inl ⟨x_5, ex_5, r_7, U_8, hFr_7, hCr_7, x_9, ex_9, fx_9, c_12, c_42, r_43, hCr_43, c_44, B_46, eB_46, x_54, ex_54, r_55, hCr_55, U_58, hFr_57, hCr_57, rfl⟩))))⟩, (by show TX E G U_58 R t.heap; rw [ht]; exact hT)⟩, hS.F ht⟩) hS.2.2 dX7_sendPart_146
      · simp only [lt_I, le_I, eq_I, i_0, i_1, i_2, i_3, i_4, i_5, i_6, i_7, i_8, i_10, i_12, i_16, i_20, i_23, i_24, i_31, i_32, i_63, i_64, i_m1] at c_44
        refine lv_iconst (v := 2) hx hb dX7_sendPart_54 (by decide) ?_
        refine lv_goto (tgt := 59) hx hb dX7_sendPart_55 (by decide) ?_
        refine lv_iadd hx hb dX7_sendPart_59 ?_
        refine W.eq (g2 := F0 m 60 ls [.int 2, .ref r_7]) (by rfl) ?_
        have ha_59 := tx_31 hT hgr_7
        refine rr_put (D := DG E) (ci := 2) (v := .int 2) (ty := .int) (C := RX2) (T := TX2) (N := 8) hx hb hts iw_X2 tyX2 tyX2_ok nmX2 hown hK.1 ha_59 hS (by show G r_7 ∈ ([4, 31, 32] : List Nat); rw [hgr_7]; decide) rfl 4 (by decide) (hts _ fl_X7_135) (fun _ h9 => h9) rfl (by decide +kernel) rfl rfl (Nat.le_of_ble_eq_true rfl) dX7_sendPart_60 (fun H locs hn ho hz hS => ?_)
        obtain ⟨B_60, eB_60⟩ : ∃ z : AA, z = uA U_8 r_7 (upd (U_8 r_7) 4 2) := ⟨_, rfl⟩
        have sB_60 : B_60 r_7 4 = 2 := by rw [eB_60, uA_s]; exact upd_s
        have nB_60 : ∀ k, k ≠ 4 → B_60 r_7 k = U_8 r_7 k := fun k hk => by rw [eB_60, uA_s]; exact upd_n hk
        have fB_60 : ∀ c, G c ≠ 31 → B_60 c = U_8 c := fun c hc => by rw [eB_60]; exact uA_n (fun e => hc (by rw [e]; exact hgr_7))
        have hT : TX E G B_60 R H := by rw [eB_60]; exact hT.w (by rw [hgr_7]; exact hn) ho
        have hWB_60 : TW G B_60 R := by rw [eB_60]; exact hWr_7.w (by rw [hgr_7]; exact tw_31 hWr_7 hgr_7)
        have hW := hWB_60
        refine lv_goto (tgt := 85) hx hb dX7_sendPart_63 (by decide) ?_
        refine lv_aload_n hx hb dX7_sendPart_85 rfl (lv_at hl 3 rfl) ?_
        have ha_61 := tx_13 hT hG0
        have l_62 : B_60 p0 0 = (B p0 0) := ((congrFun (fB_60 p0 (by rw [hG0]; decide)) 0)).trans ((congrFun (hFr_7 p0 (by rw [hG0]; decide)) 0))
        refine va_get (D := DG E) (ci := 4) (v := .int (B_60 p0 0)) (C := RX4) (T := TX4) (N := 10) hx hb hts iw_X4 hown hK.1 (va_one ha_61) 0 rfl rfl 0 (by decide) (hts _ fl_X7_118) (fun _ h9 => h9) rfl dX7_sendPart_86 ?_
        refine W.eq (g2 := F0 m 89 ls [.int (B p0 0)]) (by rw [l_62]) ?_
        refine lv_iconst (v := 2) hx hb dX7_sendPart_89 (by decide) ?_
        refine lv_icmp_ne (tgt := 107) hx hb dX7_sendPart_90 (by decide) (fun c_63 => ?_) (fun c_63 => by exfalso; simp only [lt_I, le_I, eq_I, i_0, i_1, i_2, i_3, i_4, i_5, i_6, i_7, i_8, i_10, i_12, i_16, i_20, i_23, i_24, i_31, i_32, i_63, i_64, i_m1] at c_63; omega)
        refine lv_aload_n hx hb dX7_sendPart_107 rfl (lv_at hl 3 rfl) ?_
        refine va_get (D := DG E) (ci := 4) (v := .int (B_60 p0 0)) (C := RX4) (T := TX4) (N := 10) hx hb hts iw_X4 hown hK.1 (va_one ha_61) 0 rfl rfl 0 (by decide) (hts _ fl_X7_118) (fun _ h9 => h9) rfl dX7_sendPart_108 ?_
        refine W.eq (g2 := F0 m 111 ls [.int (B p0 0)]) (by rw [l_62]) ?_
        refine lv_iconst (v := 3) hx hb dX7_sendPart_111 (by decide) ?_
        refine lv_icmp_ne (tgt := 126) hx hb dX7_sendPart_112 (by decide) (fun c_64 => ?_) (fun c_64 => by exfalso; simp only [lt_I, le_I, eq_I, i_0, i_1, i_2, i_3, i_4, i_5, i_6, i_7, i_8, i_10, i_12, i_16, i_20, i_23, i_24, i_31, i_32, i_63, i_64, i_m1] at c_64; omega)
        refine lv_aload_n hx hb dX7_sendPart_126 rfl (lv_at hl 1 rfl) ?_
        refine lv_aload_n hx hb dX7_sendPart_127 rfl (lv_at hl 2 rfl) ?_
        have ha_65 := tx_9 hT hG
        have hg_66 : G (R h0 1) = 5 := (tw_9 hW hG).2.1
        refine va_get (D := DG E) (ci := 7) (v := .ref (R h0 1)) (C := RX7) (T := TX7) (N := 14) hx hb hts iw_X7 hown hK.1 (va_one ha_65) 0 rfl rfl 1 (by decide) (hts _ fl_X7_19) (fun _ h9 => h9) rfl dX7_sendPart_128 ?_
        refine lv_aload_n hx hb dX7_sendPart_131 rfl (lv_at hl 3 rfl) ?_
        have l_67 : B_60 p0 2 = (B p0 2) := ((congrFun (fB_60 p0 (by rw [hG0]; decide)) 2)).trans ((congrFun (hFr_7 p0 (by rw [hG0]; decide)) 2))
        refine va_get (D := DG E) (ci := 4) (v := .int (B_60 p0 2)) (C := RX4) (T := TX4) (N := 10) hx hb hts iw_X4 hown hK.1 (va_one ha_61) 0 rfl rfl 2 (by decide) (hts _ fl_X7_146) (fun _ h9 => h9) rfl dX7_sendPart_132 ?_
        refine W.eq (g2 := F0 m 135 ls [.int (B p0 2), .ref (R h0 1), .ref r_7]) (by rw [l_67]) ?_
        refine lv_iload hx hb dX7_sendPart_135 (lv_at hl 0 rfl) ?_
        refine lv_iadd hx hb dX7_sendPart_137 ?_
        refine lv_topi (fun x_68 ex_68 => ?_)
        refine lv_aload_n hx hb dX7_sendPart_138 rfl (lv_at hl 3 rfl) ?_
        refine lv_iload_n hx hb dX7_sendPart_139 rfl (lv_at hl 4 rfl) ?_
        refine va_calli (rnV (fun H => TX E G B_60 R H) (As := [.int p1]) (rest := [.int x_68, .ref (R h0 1), .ref r_7]) ⟨hx, hb, hml, hown, hts⟩ (x_X4_cellsOf l E z0 G hGz B_60 R hW p0 p1 hG0) (cwV 1 hts (gdV ml_X7_149 im_X4_cellsOf se_X4_X4_cellsOf in_X4 co_X4_cellsOf rfl) rfl rfl rfl (by decide +kernel) ⟨Nat.le_of_ble_eq_true rfl, Nat.le_of_ble_eq_true rfl⟩) hT (fun U hU hW => hK.go hW hS hAz hU) (va_recv hK.1 (va_one ha_61) (ci := 4) (q0 := 0) rfl rfl) rfl rfl hl.1 rfl (lv_room (Nat.le_of_ble_eq_true rfl)) dX7_sendPart_140 ⟨Nat.le_of_ble_eq_true rfl, Nat.le_of_ble_eq_true rfl⟩) hS (fun q _ h => h.elim) (fun q h => h.elim) (fun r_69 _ t H locs ht hvm hwr_69 hB hz hk hS => ?_)
        have hT : TX E G B_60 R H := hT.kept (fun q hq => hk q hq (fun h => h))
        have hCr_69 : C_X4_cellsOf G B_60 R p0 p1 r_69 := hwr_69
        have ha_70 := tx_31 hT hgr_7
        refine va_callv (rnV (fun H => TX E G B_60 R H) (As := [.ref (R h0 1), .int x_68, .int r_69]) (rest := []) ⟨hx, hb, hml, hown, hts⟩ (x_X2_load l E z0 G hGz B_60 R hW r_7 (R h0 1) x_68 r_69 hgr_7 hg_66) (cwV 3 hts (gdV ml_X7_152 im_X2_load se_X2_X2_load in_X2 co_X2_load rfl) rfl rfl rfl (by decide +kernel) ⟨Nat.le_of_ble_eq_true rfl, Nat.le_of_ble_eq_true rfl⟩) hT (fun U hU hW => hK.go hW hS hAz hU) (va_recv hK.1 (va_one ha_70) (ci := 2) (q0 := 0) rfl rfl) rfl rfl hl.1 rfl (lv_room (Nat.le_of_ble_eq_true rfl)) dX7_sendPart_143 ⟨Nat.le_of_ble_eq_true rfl, Nat.le_of_ble_eq_true rfl⟩) hS (fun q _ h => mL (L' := [31, 32]) (L := [4, 31, 32]) (by decide) h) (fun q h => mL (L' := [31, 32]) (L := [4, 31, 32]) (by decide) h) (fun U_72 t H locs ht hvm hwr_71 hB hz hk hS => ?_)
        have hT : TX E G U_72 R H := by rw [ht] at hB; exact hB
        have hWr_71 : TW G U_72 R := hwr_71.1
        have hW := hWr_71
        have hFr_71 : Fr G [31, 32] B_60 U_72 := hwr_71.2.1
        have hCr_71 : C_X2_load G B_60 R r_7 (R h0 1) x_68 r_69 U_72 := hwr_71.2.2
        exact W.vret hx hb hr (fun t ht hW9 => ⟨⟨U_72, rfl, ⟨hW, (Fr.c (Fr.w (Fr.c Fr.rf hFr_7 (by decide)) hgr_7 (by decide) eB_60) hFr_71 (by decide)), (Or.inr (Or.inr (Or.inr (Or.inr (Or.inl ⟨x_5, ex_5, r_7, U_8, hFr_7, hCr_7, x_9, ex_9, fx_9, c_12, c_42, r_43, hCr_43, c_44, B_60, eB_60, x_68, ex_68, r_69, hCr_69, U_72, hFr_71, hCr_71, rfl⟩)))))⟩, (by show TX E G U_72 R t.heap; rw [ht]; exact hT)⟩, hS.F ht⟩) hS.2.2 dX7_sendPart_146
    · simp only [lt_I, le_I, eq_I, i_0, i_1, i_2, i_3, i_4, i_5, i_6, i_7, i_8, i_10, i_12, i_16, i_20, i_23, i_24, i_31, i_32, i_63, i_64, i_m1] at c_42
      refine lv_iconst (v := 1) hx hb dX7_sendPart_41 (by decide) ?_
      refine lv_goto (tgt := 46) hx hb dX7_sendPart_42 (by decide) ?_
      refine lv_aload_n hx hb dX7_sendPart_46 rfl (lv_at hl 3 rfl) ?_
      refine lv_iload_n hx hb dX7_sendPart_47 rfl (lv_at hl 4 rfl) ?_
      refine va_calli (rnV (fun H => TX E G U_8 R H) (As := [.int p1]) (rest := [.int 1, .ref r_7]) ⟨hx, hb, hml, hown, hts⟩ (x_X4_isLastNumber l E z0 G hGz U_8 R hW p0 p1 hG0) (cwV 1 hts (gdV ml_X7_131 im_X4_isLastNumber se_X4_X4_isLastNumber in_X4 co_X4_isLastNumber rfl) rfl rfl rfl (by decide +kernel) ⟨Nat.le_of_ble_eq_true rfl, Nat.le_of_ble_eq_true rfl⟩) hT (fun U hU hW => hK.go hW hS hAz hU) (va_recv hK.1 (va_one ha_10) (ci := 4) (q0 := 0) rfl rfl) rfl rfl hl.1 rfl (lv_room (Nat.le_of_ble_eq_true rfl)) dX7_sendPart_48 ⟨Nat.le_of_ble_eq_true rfl, Nat.le_of_ble_eq_true rfl⟩) hS (fun q _ h => h.elim) (fun q h => h.elim) (fun r_73 _ t H locs ht hvm hwr_73 hB hz hk hS => ?_)
      have hT : TX E G U_8 R H := hT.kept (fun q hq => hk q hq (fun h => h))
      have hbr_73 : r_73 = 0 ∨ r_73 = 1 := hwr_73.1
      have hCr_73 : C_X4_isLastNumber G U_8 R p0 p1 r_73 := hwr_73.2
      have hzr_73 := s_rng hbr_73
      refine lv_if_eq (tgt := 58) hx hb dX7_sendPart_51 (by decide) (fun c_74 => ?_) (fun c_74 => ?_)
      · simp only [lt_I, le_I, eq_I, i_0, i_1, i_2, i_3, i_4, i_5, i_6, i_7, i_8, i_10, i_12, i_16, i_20, i_23, i_24, i_31, i_32, i_63, i_64, i_m1] at c_74
        refine lv_iconst (v := 0) hx hb dX7_sendPart_58 (by decide) ?_
        refine lv_iadd hx hb dX7_sendPart_59 ?_
        refine W.eq (g2 := F0 m 60 ls [.int 1, .ref r_7]) (by rfl) ?_
        have ha_75 := tx_31 hT hgr_7
        refine rr_put (D := DG E) (ci := 2) (v := .int 1) (ty := .int) (C := RX2) (T := TX2) (N := 8) hx hb hts iw_X2 tyX2 tyX2_ok nmX2 hown hK.1 ha_75 hS (by show G r_7 ∈ ([4, 31, 32] : List Nat); rw [hgr_7]; decide) rfl 4 (by decide) (hts _ fl_X7_135) (fun _ h9 => h9) rfl (by decide +kernel) rfl rfl (Nat.le_of_ble_eq_true rfl) dX7_sendPart_60 (fun H locs hn ho hz hS => ?_)
        obtain ⟨B_76, eB_76⟩ : ∃ z : AA, z = uA U_8 r_7 (upd (U_8 r_7) 4 1) := ⟨_, rfl⟩
        have sB_76 : B_76 r_7 4 = 1 := by rw [eB_76, uA_s]; exact upd_s
        have nB_76 : ∀ k, k ≠ 4 → B_76 r_7 k = U_8 r_7 k := fun k hk => by rw [eB_76, uA_s]; exact upd_n hk
        have fB_76 : ∀ c, G c ≠ 31 → B_76 c = U_8 c := fun c hc => by rw [eB_76]; exact uA_n (fun e => hc (by rw [e]; exact hgr_7))
        have hT : TX E G B_76 R H := by rw [eB_76]; exact hT.w (by rw [hgr_7]; exact hn) ho
        have hWB_76 : TW G B_76 R := by rw [eB_76]; exact hWr_7.w (by rw [hgr_7]; exact tw_31 hWr_7 hgr_7)
        have hW := hWB_76
        refine lv_goto (tgt := 85) hx hb dX7_sendPart_63 (by decide) ?_
        refine lv_aload_n hx hb dX7_sendPart_85 rfl (lv_at hl 3 rfl) ?_
        have ha_77 := tx_13 hT hG0
        have l_78 : B_76 p0 0 = (B p0 0) := ((congrFun (fB_76 p0 (by rw [hG0]; decide)) 0)).trans ((congrFun (hFr_7 p0 (by rw [hG0]; decide)) 0))
        refine va_get (D := DG E) (ci := 4) (v := .int (B_76 p0 0)) (C := RX4) (T := TX4) (N := 10) hx hb hts iw_X4 hown hK.1 (va_one ha_77) 0 rfl rfl 0 (by decide) (hts _ fl_X7_118) (fun _ h9 => h9) rfl dX7_sendPart_86 ?_
        refine W.eq (g2 := F0 m 89 ls [.int (B p0 0)]) (by rw [l_78]) ?_
        refine lv_iconst (v := 2) hx hb dX7_sendPart_89 (by decide) ?_
        refine lv_icmp_ne (tgt := 107) hx hb dX7_sendPart_90 (by decide) (fun c_79 => ?_) (fun c_79 => by exfalso; simp only [lt_I, le_I, eq_I, i_0, i_1, i_2, i_3, i_4, i_5, i_6, i_7, i_8, i_10, i_12, i_16, i_20, i_23, i_24, i_31, i_32, i_63, i_64, i_m1] at c_79; omega)
        refine lv_aload_n hx hb dX7_sendPart_107 rfl (lv_at hl 3 rfl) ?_
        refine va_get (D := DG E) (ci := 4) (v := .int (B_76 p0 0)) (C := RX4) (T := TX4) (N := 10) hx hb hts iw_X4 hown hK.1 (va_one ha_77) 0 rfl rfl 0 (by decide) (hts _ fl_X7_118) (fun _ h9 => h9) rfl dX7_sendPart_108 ?_
        refine W.eq (g2 := F0 m 111 ls [.int (B p0 0)]) (by rw [l_78]) ?_
        refine lv_iconst (v := 3) hx hb dX7_sendPart_111 (by decide) ?_
        refine lv_icmp_ne (tgt := 126) hx hb dX7_sendPart_112 (by decide) (fun c_80 => ?_) (fun c_80 => by exfalso; simp only [lt_I, le_I, eq_I, i_0, i_1, i_2, i_3, i_4, i_5, i_6, i_7, i_8, i_10, i_12, i_16, i_20, i_23, i_24, i_31, i_32, i_63, i_64, i_m1] at c_80; omega)
        refine lv_aload_n hx hb dX7_sendPart_126 rfl (lv_at hl 1 rfl) ?_
        refine lv_aload_n hx hb dX7_sendPart_127 rfl (lv_at hl 2 rfl) ?_
        have ha_81 := tx_9 hT hG
        have hg_82 : G (R h0 1) = 5 := (tw_9 hW hG).2.1
        refine va_get (D := DG E) (ci := 7) (v := .ref (R h0 1)) (C := RX7) (T := TX7) (N := 14) hx hb hts iw_X7 hown hK.1 (va_one ha_81) 0 rfl rfl 1 (by decide) (hts _ fl_X7_19) (fun _ h9 => h9) rfl dX7_sendPart_128 ?_
        refine lv_aload_n hx hb dX7_sendPart_131 rfl (lv_at hl 3 rfl) ?_
        have l_83 : B_76 p0 2 = (B p0 2) := ((congrFun (fB_76 p0 (by rw [hG0]; decide)) 2)).trans ((congrFun (hFr_7 p0 (by rw [hG0]; decide)) 2))
        refine va_get (D := DG E) (ci := 4) (v := .int (B_76 p0 2)) (C := RX4) (T := TX4) (N := 10) hx hb hts iw_X4 hown hK.1 (va_one ha_77) 0 rfl rfl 2 (by decide) (hts _ fl_X7_146) (fun _ h9 => h9) rfl dX7_sendPart_132 ?_
        refine W.eq (g2 := F0 m 135 ls [.int (B p0 2), .ref (R h0 1), .ref r_7]) (by rw [l_83]) ?_
        refine lv_iload hx hb dX7_sendPart_135 (lv_at hl 0 rfl) ?_
        refine lv_iadd hx hb dX7_sendPart_137 ?_
        refine lv_topi (fun x_84 ex_84 => ?_)
        refine lv_aload_n hx hb dX7_sendPart_138 rfl (lv_at hl 3 rfl) ?_
        refine lv_iload_n hx hb dX7_sendPart_139 rfl (lv_at hl 4 rfl) ?_
        refine va_calli (rnV (fun H => TX E G B_76 R H) (As := [.int p1]) (rest := [.int x_84, .ref (R h0 1), .ref r_7]) ⟨hx, hb, hml, hown, hts⟩ (x_X4_cellsOf l E z0 G hGz B_76 R hW p0 p1 hG0) (cwV 1 hts (gdV ml_X7_149 im_X4_cellsOf se_X4_X4_cellsOf in_X4 co_X4_cellsOf rfl) rfl rfl rfl (by decide +kernel) ⟨Nat.le_of_ble_eq_true rfl, Nat.le_of_ble_eq_true rfl⟩) hT (fun U hU hW => hK.go hW hS hAz hU) (va_recv hK.1 (va_one ha_77) (ci := 4) (q0 := 0) rfl rfl) rfl rfl hl.1 rfl (lv_room (Nat.le_of_ble_eq_true rfl)) dX7_sendPart_140 ⟨Nat.le_of_ble_eq_true rfl, Nat.le_of_ble_eq_true rfl⟩) hS (fun q _ h => h.elim) (fun q h => h.elim) (fun r_85 _ t H locs ht hvm hwr_85 hB hz hk hS => ?_)
        have hT : TX E G B_76 R H := hT.kept (fun q hq => hk q hq (fun h => h))
        have hCr_85 : C_X4_cellsOf G B_76 R p0 p1 r_85 := hwr_85
        have ha_86 := tx_31 hT hgr_7
        refine va_callv (rnV (fun H => TX E G B_76 R H) (As := [.ref (R h0 1), .int x_84, .int r_85]) (rest := []) ⟨hx, hb, hml, hown, hts⟩ (x_X2_load l E z0 G hGz B_76 R hW r_7 (R h0 1) x_84 r_85 hgr_7 hg_82) (cwV 3 hts (gdV ml_X7_152 im_X2_load se_X2_X2_load in_X2 co_X2_load rfl) rfl rfl rfl (by decide +kernel) ⟨Nat.le_of_ble_eq_true rfl, Nat.le_of_ble_eq_true rfl⟩) hT (fun U hU hW => hK.go hW hS hAz hU) (va_recv hK.1 (va_one ha_86) (ci := 2) (q0 := 0) rfl rfl) rfl rfl hl.1 rfl (lv_room (Nat.le_of_ble_eq_true rfl)) dX7_sendPart_143 ⟨Nat.le_of_ble_eq_true rfl, Nat.le_of_ble_eq_true rfl⟩) hS (fun q _ h => mL (L' := [31, 32]) (L := [4, 31, 32]) (by decide) h) (fun q h => mL (L' := [31, 32]) (L := [4, 31, 32]) (by decide) h) (fun U_88 t H locs ht hvm hwr_87 hB hz hk hS => ?_)
        have hT : TX E G U_88 R H := by rw [ht] at hB; exact hB
        have hWr_87 : TW G U_88 R := hwr_87.1
        have hW := hWr_87
        have hFr_87 : Fr G [31, 32] B_76 U_88 := hwr_87.2.1
        have hCr_87 : C_X2_load G B_76 R r_7 (R h0 1) x_84 r_85 U_88 := hwr_87.2.2
        exact W.vret hx hb hr (fun t ht hW9 => ⟨⟨U_88, rfl, ⟨hW, (Fr.c (Fr.w (Fr.c Fr.rf hFr_7 (by decide)) hgr_7 (by decide) eB_76) hFr_87 (by decide)), (Or.inr (Or.inr (Or.inr (Or.inr (Or.inr (Or.inl ⟨x_5, ex_5, r_7, U_8, hFr_7, hCr_7, x_9, ex_9, fx_9, c_12, c_42, r_73, hCr_73, c_74, B_76, eB_76, x_84, ex_84, r_85, hCr_85, U_88, hFr_87, hCr_87, rfl⟩))))))⟩, (by show TX E G U_88 R t.heap; rw [ht]; exact hT)⟩, hS.F ht⟩) hS.2.2 dX7_sendPart_146
      · simp only [lt_I, le_I, eq_I, i_0, i_1, i_2, i_3, i_4, i_5, i_6, i_7, i_8, i_10, i_12, i_16, i_20, i_23, i_24, i_31, i_32, i_63, i_64, i_m1] at c_74
        refine lv_iconst (v := 2) hx hb dX7_sendPart_54 (by decide) ?_
        refine lv_goto (tgt := 59) hx hb dX7_sendPart_55 (by decide) ?_
        refine lv_iadd hx hb dX7_sendPart_59 ?_
        refine W.eq (g2 := F0 m 60 ls [.int 3, .ref r_7]) (by rfl) ?_
        have ha_89 := tx_31 hT hgr_7
        refine rr_put (D := DG E) (ci := 2) (v := .int 3) (ty := .int) (C := RX2) (T := TX2) (N := 8) hx hb hts iw_X2 tyX2 tyX2_ok nmX2 hown hK.1 ha_89 hS (by show G r_7 ∈ ([4, 31, 32] : List Nat); rw [hgr_7]; decide) rfl 4 (by decide) (hts _ fl_X7_135) (fun _ h9 => h9) rfl (by decide +kernel) rfl rfl (Nat.le_of_ble_eq_true rfl) dX7_sendPart_60 (fun H locs hn ho hz hS => ?_)
        obtain ⟨B_90, eB_90⟩ : ∃ z : AA, z = uA U_8 r_7 (upd (U_8 r_7) 4 3) := ⟨_, rfl⟩
        have sB_90 : B_90 r_7 4 = 3 := by rw [eB_90, uA_s]; exact upd_s
        have nB_90 : ∀ k, k ≠ 4 → B_90 r_7 k = U_8 r_7 k := fun k hk => by rw [eB_90, uA_s]; exact upd_n hk
        have fB_90 : ∀ c, G c ≠ 31 → B_90 c = U_8 c := fun c hc => by rw [eB_90]; exact uA_n (fun e => hc (by rw [e]; exact hgr_7))
        have hT : TX E G B_90 R H := by rw [eB_90]; exact hT.w (by rw [hgr_7]; exact hn) ho
        have hWB_90 : TW G B_90 R := by rw [eB_90]; exact hWr_7.w (by rw [hgr_7]; exact tw_31 hWr_7 hgr_7)
        have hW := hWB_90
        refine lv_goto (tgt := 85) hx hb dX7_sendPart_63 (by decide) ?_
        refine lv_aload_n hx hb dX7_sendPart_85 rfl (lv_at hl 3 rfl) ?_
        have ha_91 := tx_13 hT hG0
        have l_92 : B_90 p0 0 = (B p0 0) := ((congrFun (fB_90 p0 (by rw [hG0]; decide)) 0)).trans ((congrFun (hFr_7 p0 (by rw [hG0]; decide)) 0))
        refine va_get (D := DG E) (ci := 4) (v := .int (B_90 p0 0)) (C := RX4) (T := TX4) (N := 10) hx hb hts iw_X4 hown hK.1 (va_one ha_91) 0 rfl rfl 0 (by decide) (hts _ fl_X7_118) (fun _ h9 => h9) rfl dX7_sendPart_86 ?_
        refine W.eq (g2 := F0 m 89 ls [.int (B p0 0)]) (by rw [l_92]) ?_
        refine lv_iconst (v := 2) hx hb dX7_sendPart_89 (by decide) ?_
        refine lv_icmp_ne (tgt := 107) hx hb dX7_sendPart_90 (by decide) (fun c_93 => ?_) (fun c_93 => by exfalso; simp only [lt_I, le_I, eq_I, i_0, i_1, i_2, i_3, i_4, i_5, i_6, i_7, i_8, i_10, i_12, i_16, i_20, i_23, i_24, i_31, i_32, i_63, i_64, i_m1] at c_93; omega)
        refine lv_aload_n hx hb dX7_sendPart_107 rfl (lv_at hl 3 rfl) ?_
        refine va_get (D := DG E) (ci := 4) (v := .int (B_90 p0 0)) (C := RX4) (T := TX4) (N := 10) hx hb hts iw_X4 hown hK.1 (va_one ha_91) 0 rfl rfl 0 (by decide) (hts _ fl_X7_118) (fun _ h9 => h9) rfl dX7_sendPart_108 ?_
        refine W.eq (g2 := F0 m 111 ls [.int (B p0 0)]) (by rw [l_92]) ?_
        refine lv_iconst (v := 3) hx hb dX7_sendPart_111 (by decide) ?_
        refine lv_icmp_ne (tgt := 126) hx hb dX7_sendPart_112 (by decide) (fun c_94 => ?_) (fun c_94 => by exfalso; simp only [lt_I, le_I, eq_I, i_0, i_1, i_2, i_3, i_4, i_5, i_6, i_7, i_8, i_10, i_12, i_16, i_20, i_23, i_24, i_31, i_32, i_63, i_64, i_m1] at c_94; omega)
        refine lv_aload_n hx hb dX7_sendPart_126 rfl (lv_at hl 1 rfl) ?_
        refine lv_aload_n hx hb dX7_sendPart_127 rfl (lv_at hl 2 rfl) ?_
        have ha_95 := tx_9 hT hG
        have hg_96 : G (R h0 1) = 5 := (tw_9 hW hG).2.1
        refine va_get (D := DG E) (ci := 7) (v := .ref (R h0 1)) (C := RX7) (T := TX7) (N := 14) hx hb hts iw_X7 hown hK.1 (va_one ha_95) 0 rfl rfl 1 (by decide) (hts _ fl_X7_19) (fun _ h9 => h9) rfl dX7_sendPart_128 ?_
        refine lv_aload_n hx hb dX7_sendPart_131 rfl (lv_at hl 3 rfl) ?_
        have l_97 : B_90 p0 2 = (B p0 2) := ((congrFun (fB_90 p0 (by rw [hG0]; decide)) 2)).trans ((congrFun (hFr_7 p0 (by rw [hG0]; decide)) 2))
        refine va_get (D := DG E) (ci := 4) (v := .int (B_90 p0 2)) (C := RX4) (T := TX4) (N := 10) hx hb hts iw_X4 hown hK.1 (va_one ha_91) 0 rfl rfl 2 (by decide) (hts _ fl_X7_146) (fun _ h9 => h9) rfl dX7_sendPart_132 ?_
        refine W.eq (g2 := F0 m 135 ls [.int (B p0 2), .ref (R h0 1), .ref r_7]) (by rw [l_97]) ?_
        refine lv_iload hx hb dX7_sendPart_135 (lv_at hl 0 rfl) ?_
        refine lv_iadd hx hb dX7_sendPart_137 ?_
        refine lv_topi (fun x_98 ex_98 => ?_)
        refine lv_aload_n hx hb dX7_sendPart_138 rfl (lv_at hl 3 rfl) ?_
        refine lv_iload_n hx hb dX7_sendPart_139 rfl (lv_at hl 4 rfl) ?_
        refine va_calli (rnV (fun H => TX E G B_90 R H) (As := [.int p1]) (rest := [.int x_98, .ref (R h0 1), .ref r_7]) ⟨hx, hb, hml, hown, hts⟩ (x_X4_cellsOf l E z0 G hGz B_90 R hW p0 p1 hG0) (cwV 1 hts (gdV ml_X7_149 im_X4_cellsOf se_X4_X4_cellsOf in_X4 co_X4_cellsOf rfl) rfl rfl rfl (by decide +kernel) ⟨Nat.le_of_ble_eq_true rfl, Nat.le_of_ble_eq_true rfl⟩) hT (fun U hU hW => hK.go hW hS hAz hU) (va_recv hK.1 (va_one ha_91) (ci := 4) (q0 := 0) rfl rfl) rfl rfl hl.1 rfl (lv_room (Nat.le_of_ble_eq_true rfl)) dX7_sendPart_140 ⟨Nat.le_of_ble_eq_true rfl, Nat.le_of_ble_eq_true rfl⟩) hS (fun q _ h => h.elim) (fun q h => h.elim) (fun r_99 _ t H locs ht hvm hwr_99 hB hz hk hS => ?_)
        have hT : TX E G B_90 R H := hT.kept (fun q hq => hk q hq (fun h => h))
        have hCr_99 : C_X4_cellsOf G B_90 R p0 p1 r_99 := hwr_99
        have ha_100 := tx_31 hT hgr_7
        refine va_callv (rnV (fun H => TX E G B_90 R H) (As := [.ref (R h0 1), .int x_98, .int r_99]) (rest := []) ⟨hx, hb, hml, hown, hts⟩ (x_X2_load l E z0 G hGz B_90 R hW r_7 (R h0 1) x_98 r_99 hgr_7 hg_96) (cwV 3 hts (gdV ml_X7_152 im_X2_load se_X2_X2_load in_X2 co_X2_load rfl) rfl rfl rfl (by decide +kernel) ⟨Nat.le_of_ble_eq_true rfl, Nat.le_of_ble_eq_true rfl⟩) hT (fun U hU hW => hK.go hW hS hAz hU) (va_recv hK.1 (va_one ha_100) (ci := 2) (q0 := 0) rfl rfl) rfl rfl hl.1 rfl (lv_room (Nat.le_of_ble_eq_true rfl)) dX7_sendPart_143 ⟨Nat.le_of_ble_eq_true rfl, Nat.le_of_ble_eq_true rfl⟩) hS (fun q _ h => mL (L' := [31, 32]) (L := [4, 31, 32]) (by decide) h) (fun q h => mL (L' := [31, 32]) (L := [4, 31, 32]) (by decide) h) (fun U_102 t H locs ht hvm hwr_101 hB hz hk hS => ?_)
        have hT : TX E G U_102 R H := by rw [ht] at hB; exact hB
        have hWr_101 : TW G U_102 R := hwr_101.1
        have hW := hWr_101
        have hFr_101 : Fr G [31, 32] B_90 U_102 := hwr_101.2.1
        have hCr_101 : C_X2_load G B_90 R r_7 (R h0 1) x_98 r_99 U_102 := hwr_101.2.2
        exact W.vret hx hb hr (fun t ht hW9 => ⟨⟨U_102, rfl, ⟨hW, (Fr.c (Fr.w (Fr.c Fr.rf hFr_7 (by decide)) hgr_7 (by decide) eB_90) hFr_101 (by decide)), (Or.inr (Or.inr (Or.inr (Or.inr (Or.inr (Or.inr ⟨x_5, ex_5, r_7, U_8, hFr_7, hCr_7, x_9, ex_9, fx_9, c_12, c_42, r_73, hCr_73, c_74, B_90, eB_90, x_98, ex_98, r_99, hCr_99, U_102, hFr_101, hCr_101, rfl⟩))))))⟩, (by show TX E G U_102 R t.heap; rw [ht]; exact hT)⟩, hS.F ht⟩) hS.2.2 dX7_sendPart_146
theorem gdX7_sendNext_0 : (decode cX7_sendNext 0 = .ok (.aload_n 0, 1)) ∧ (decode cX7_sendNext 1 = .ok (.aload_n 0, 1)) ∧ (decode cX7_sendNext 2 = .ok (.getfield 71, 3)) ∧ (decode cX7_sendNext 5 = .ok (.invokevirtual 115, 3)) ∧ (decode cX7_sendNext 8 = .ok (.istore_n 1, 1)) ∧ (decode cX7_sendNext 9 = .ok (.aload_n 0, 1)) ∧ (decode cX7_sendNext 10 = .ok (.getfield 61, 3)) ∧ (decode cX7_sendNext 13 = .ok (.ifCond .ne 8, 3)) ∧ (decode cX7_sendNext 16 = .ok (.iload_n 1, 1)) ∧ (decode cX7_sendNext 17 = .ok (.iconst (-1), 1)) ∧ (decode cX7_sendNext 18 = .ok (.if_icmp .ne 5, 3)) ∧ (decode cX7_sendNext 21 = .ok (.iconst (-1), 1)) ∧ (decode cX7_sendNext 22 = .ok (.ireturn, 1)) ∧ (decode cX7_sendNext 23 = .ok (.aload_n 0, 1)) ∧ (decode cX7_sendNext 24 = .ok (.getfield 41, 3)) ∧ (decode cX7_sendNext 27 = .ok (.iload_n 1, 1)) := by decide +kernel
theorem dX7_sendNext_0 : decode cX7_sendNext 0 = .ok (.aload_n 0, 1) := gdX7_sendNext_0.1
theorem dX7_sendNext_1 : decode cX7_sendNext 1 = .ok (.aload_n 0, 1) := gdX7_sendNext_0.2.1
theorem dX7_sendNext_2 : decode cX7_sendNext 2 = .ok (.getfield 71, 3) := gdX7_sendNext_0.2.2.1
theorem dX7_sendNext_5 : decode cX7_sendNext 5 = .ok (.invokevirtual 115, 3) := gdX7_sendNext_0.2.2.2.1
theorem dX7_sendNext_8 : decode cX7_sendNext 8 = .ok (.istore_n 1, 1) := gdX7_sendNext_0.2.2.2.2.1
theorem dX7_sendNext_9 : decode cX7_sendNext 9 = .ok (.aload_n 0, 1) := gdX7_sendNext_0.2.2.2.2.2.1
theorem dX7_sendNext_10 : decode cX7_sendNext 10 = .ok (.getfield 61, 3) := gdX7_sendNext_0.2.2.2.2.2.2.1
theorem dX7_sendNext_13 : decode cX7_sendNext 13 = .ok (.ifCond .ne 8, 3) := gdX7_sendNext_0.2.2.2.2.2.2.2.1
theorem dX7_sendNext_16 : decode cX7_sendNext 16 = .ok (.iload_n 1, 1) := gdX7_sendNext_0.2.2.2.2.2.2.2.2.1
theorem dX7_sendNext_17 : decode cX7_sendNext 17 = .ok (.iconst (-1), 1) := gdX7_sendNext_0.2.2.2.2.2.2.2.2.2.1
theorem dX7_sendNext_18 : decode cX7_sendNext 18 = .ok (.if_icmp .ne 5, 3) := gdX7_sendNext_0.2.2.2.2.2.2.2.2.2.2.1
theorem dX7_sendNext_21 : decode cX7_sendNext 21 = .ok (.iconst (-1), 1) := gdX7_sendNext_0.2.2.2.2.2.2.2.2.2.2.2.1
theorem dX7_sendNext_22 : decode cX7_sendNext 22 = .ok (.ireturn, 1) := gdX7_sendNext_0.2.2.2.2.2.2.2.2.2.2.2.2.1
theorem dX7_sendNext_23 : decode cX7_sendNext 23 = .ok (.aload_n 0, 1) := gdX7_sendNext_0.2.2.2.2.2.2.2.2.2.2.2.2.2.1
theorem dX7_sendNext_24 : decode cX7_sendNext 24 = .ok (.getfield 41, 3) := gdX7_sendNext_0.2.2.2.2.2.2.2.2.2.2.2.2.2.2.1
theorem dX7_sendNext_27 : decode cX7_sendNext 27 = .ok (.iload_n 1, 1) := gdX7_sendNext_0.2.2.2.2.2.2.2.2.2.2.2.2.2.2.2
theorem gdX7_sendNext_28 : (decode cX7_sendNext 28 = .ok (.invokevirtual 108, 3)) ∧ (decode cX7_sendNext 31 = .ok (.astore_n 2, 1)) ∧ (decode cX7_sendNext 32 = .ok (.aload_n 2, 1)) ∧ (decode cX7_sendNext 33 = .ok (.getfield 78, 3)) ∧ (decode cX7_sendNext 36 = .ok (.aload_n 0, 1)) ∧ (decode cX7_sendNext 37 = .ok (.getfield 71, 3)) ∧ (decode cX7_sendNext 40 = .ok (.invokestatic 112, 3)) ∧ (decode cX7_sendNext 43 = .ok (.istore_n 3, 1)) ∧ (decode cX7_sendNext 44 = .ok (.aload_n 2, 1)) ∧ (decode cX7_sendNext 45 = .ok (.getfield 118, 3)) ∧ (decode cX7_sendNext 48 = .ok (.iconst 2, 1)) ∧ (decode cX7_sendNext 49 = .ok (.if_icmp .ne 12, 3)) ∧ (decode cX7_sendNext 52 = .ok (.aload_n 2, 1)) ∧ (decode cX7_sendNext 53 = .ok (.getfield 86, 3)) ∧ (decode cX7_sendNext 56 = .ok (.iload_n 3, 1)) ∧ (decode cX7_sendNext 57 = .ok (.isub, 1)) := by decide +kernel
theorem dX7_sendNext_28 : decode cX7_sendNext 28 = .ok (.invokevirtual 108, 3) := gdX7_sendNext_28.1
theorem dX7_sendNext_31 : decode cX7_sendNext 31 = .ok (.astore_n 2, 1) := gdX7_sendNext_28.2.1
theorem dX7_sendNext_32 : decode cX7_sendNext 32 = .ok (.aload_n 2, 1) := gdX7_sendNext_28.2.2.1
theorem dX7_sendNext_33 : decode cX7_sendNext 33 = .ok (.getfield 78, 3) := gdX7_sendNext_28.2.2.2.1
theorem dX7_sendNext_36 : decode cX7_sendNext 36 = .ok (.aload_n 0, 1) := gdX7_sendNext_28.2.2.2.2.1
theorem dX7_sendNext_37 : decode cX7_sendNext 37 = .ok (.getfield 71, 3) := gdX7_sendNext_28.2.2.2.2.2.1
theorem dX7_sendNext_40 : decode cX7_sendNext 40 = .ok (.invokestatic 112, 3) := gdX7_sendNext_28.2.2.2.2.2.2.1
theorem dX7_sendNext_43 : decode cX7_sendNext 43 = .ok (.istore_n 3, 1) := gdX7_sendNext_28.2.2.2.2.2.2.2.1
theorem dX7_sendNext_44 : decode cX7_sendNext 44 = .ok (.aload_n 2, 1) := gdX7_sendNext_28.2.2.2.2.2.2.2.2.1
theorem dX7_sendNext_45 : decode cX7_sendNext 45 = .ok (.getfield 118, 3) := gdX7_sendNext_28.2.2.2.2.2.2.2.2.2.1
theorem dX7_sendNext_48 : decode cX7_sendNext 48 = .ok (.iconst 2, 1) := gdX7_sendNext_28.2.2.2.2.2.2.2.2.2.2.1
theorem dX7_sendNext_49 : decode cX7_sendNext 49 = .ok (.if_icmp .ne 12, 3) := gdX7_sendNext_28.2.2.2.2.2.2.2.2.2.2.2.1
theorem dX7_sendNext_52 : decode cX7_sendNext 52 = .ok (.aload_n 2, 1) := gdX7_sendNext_28.2.2.2.2.2.2.2.2.2.2.2.2.1
theorem dX7_sendNext_53 : decode cX7_sendNext 53 = .ok (.getfield 86, 3) := gdX7_sendNext_28.2.2.2.2.2.2.2.2.2.2.2.2.2.1
theorem dX7_sendNext_56 : decode cX7_sendNext 56 = .ok (.iload_n 3, 1) := gdX7_sendNext_28.2.2.2.2.2.2.2.2.2.2.2.2.2.2.1
theorem dX7_sendNext_57 : decode cX7_sendNext 57 = .ok (.isub, 1) := gdX7_sendNext_28.2.2.2.2.2.2.2.2.2.2.2.2.2.2.2
theorem gdX7_sendNext_58 : (decode cX7_sendNext 58 = .ok (.goto 4, 3)) ∧ (decode cX7_sendNext 61 = .ok (.iconst 1, 1)) ∧ (decode cX7_sendNext 62 = .ok (.istore 4, 2)) ∧ (decode cX7_sendNext 64 = .ok (.aload_n 0, 1)) ∧ (decode cX7_sendNext 65 = .ok (.getfield 68, 3)) ∧ (decode cX7_sendNext 68 = .ok (.aload_n 0, 1)) ∧ (decode cX7_sendNext 69 = .ok (.getfield 71, 3)) ∧ (decode cX7_sendNext 72 = .ok (.invokestatic 112, 3)) ∧ (decode cX7_sendNext 75 = .ok (.iload 4, 2)) ∧ (decode cX7_sendNext 77 = .ok (.iadd, 1)) ∧ (decode cX7_sendNext 78 = .ok (.bipush 8, 2)) ∧ (decode cX7_sendNext 80 = .ok (.if_icmp .le 5, 3)) ∧ (decode cX7_sendNext 83 = .ok (.iconst (-1), 1)) ∧ (decode cX7_sendNext 84 = .ok (.ireturn, 1)) ∧ (decode cX7_sendNext 85 = .ok (.aload_n 0, 1)) ∧ (decode cX7_sendNext 86 = .ok (.aload_n 2, 1)) := by decide +kernel
theorem dX7_sendNext_58 : decode cX7_sendNext 58 = .ok (.goto 4, 3) := gdX7_sendNext_58.1
theorem dX7_sendNext_61 : decode cX7_sendNext 61 = .ok (.iconst 1, 1) := gdX7_sendNext_58.2.1
theorem dX7_sendNext_62 : decode cX7_sendNext 62 = .ok (.istore 4, 2) := gdX7_sendNext_58.2.2.1
theorem dX7_sendNext_64 : decode cX7_sendNext 64 = .ok (.aload_n 0, 1) := gdX7_sendNext_58.2.2.2.1
theorem dX7_sendNext_65 : decode cX7_sendNext 65 = .ok (.getfield 68, 3) := gdX7_sendNext_58.2.2.2.2.1
theorem dX7_sendNext_68 : decode cX7_sendNext 68 = .ok (.aload_n 0, 1) := gdX7_sendNext_58.2.2.2.2.2.1
theorem dX7_sendNext_69 : decode cX7_sendNext 69 = .ok (.getfield 71, 3) := gdX7_sendNext_58.2.2.2.2.2.2.1
theorem dX7_sendNext_72 : decode cX7_sendNext 72 = .ok (.invokestatic 112, 3) := gdX7_sendNext_58.2.2.2.2.2.2.2.1
theorem dX7_sendNext_75 : decode cX7_sendNext 75 = .ok (.iload 4, 2) := gdX7_sendNext_58.2.2.2.2.2.2.2.2.1
theorem dX7_sendNext_77 : decode cX7_sendNext 77 = .ok (.iadd, 1) := gdX7_sendNext_58.2.2.2.2.2.2.2.2.2.1
theorem dX7_sendNext_78 : decode cX7_sendNext 78 = .ok (.bipush 8, 2) := gdX7_sendNext_58.2.2.2.2.2.2.2.2.2.2.1
theorem dX7_sendNext_80 : decode cX7_sendNext 80 = .ok (.if_icmp .le 5, 3) := gdX7_sendNext_58.2.2.2.2.2.2.2.2.2.2.2.1
theorem dX7_sendNext_83 : decode cX7_sendNext 83 = .ok (.iconst (-1), 1) := gdX7_sendNext_58.2.2.2.2.2.2.2.2.2.2.2.2.1
theorem dX7_sendNext_84 : decode cX7_sendNext 84 = .ok (.ireturn, 1) := gdX7_sendNext_58.2.2.2.2.2.2.2.2.2.2.2.2.2.1
theorem dX7_sendNext_85 : decode cX7_sendNext 85 = .ok (.aload_n 0, 1) := gdX7_sendNext_58.2.2.2.2.2.2.2.2.2.2.2.2.2.2.1
theorem dX7_sendNext_86 : decode cX7_sendNext 86 = .ok (.aload_n 2, 1) := gdX7_sendNext_58.2.2.2.2.2.2.2.2.2.2.2.2.2.2.2
theorem gdX7_sendNext_87 : (decode cX7_sendNext 87 = .ok (.iload_n 3, 1)) ∧ (decode cX7_sendNext 88 = .ok (.invokevirtual 121, 3)) ∧ (decode cX7_sendNext 91 = .ok (.aload_n 0, 1)) ∧ (decode cX7_sendNext 92 = .ok (.getfield 71, 3)) ∧ (decode cX7_sendNext 95 = .ok (.aload_n 0, 1)) ∧ (decode cX7_sendNext 96 = .ok (.getfield 68, 3)) ∧ (decode cX7_sendNext 99 = .ok (.if_icmp .ne 8, 3)) ∧ (decode cX7_sendNext 102 = .ok (.aload_n 0, 1)) ∧ (decode cX7_sendNext 103 = .ok (.iconst 0, 1)) ∧ (decode cX7_sendNext 104 = .ok (.putfield 52, 3)) ∧ (decode cX7_sendNext 107 = .ok (.aload_n 0, 1)) ∧ (decode cX7_sendNext 108 = .ok (.getfield 71, 3)) ∧ (decode cX7_sendNext 111 = .ok (.istore 5, 2)) ∧ (decode cX7_sendNext 113 = .ok (.aload_n 0, 1)) ∧ (decode cX7_sendNext 114 = .ok (.aload_n 0, 1)) ∧ (decode cX7_sendNext 115 = .ok (.getfield 71, 3)) := by decide +kernel
theorem dX7_sendNext_87 : decode cX7_sendNext 87 = .ok (.iload_n 3, 1) := gdX7_sendNext_87.1
theorem dX7_sendNext_88 : decode cX7_sendNext 88 = .ok (.invokevirtual 121, 3) := gdX7_sendNext_87.2.1
theorem dX7_sendNext_91 : decode cX7_sendNext 91 = .ok (.aload_n 0, 1) := gdX7_sendNext_87.2.2.1
theorem dX7_sendNext_92 : decode cX7_sendNext 92 = .ok (.getfield 71, 3) := gdX7_sendNext_87.2.2.2.1
theorem dX7_sendNext_95 : decode cX7_sendNext 95 = .ok (.aload_n 0, 1) := gdX7_sendNext_87.2.2.2.2.1
theorem dX7_sendNext_96 : decode cX7_sendNext 96 = .ok (.getfield 68, 3) := gdX7_sendNext_87.2.2.2.2.2.1
theorem dX7_sendNext_99 : decode cX7_sendNext 99 = .ok (.if_icmp .ne 8, 3) := gdX7_sendNext_87.2.2.2.2.2.2.1
theorem dX7_sendNext_102 : decode cX7_sendNext 102 = .ok (.aload_n 0, 1) := gdX7_sendNext_87.2.2.2.2.2.2.2.1
theorem dX7_sendNext_103 : decode cX7_sendNext 103 = .ok (.iconst 0, 1) := gdX7_sendNext_87.2.2.2.2.2.2.2.2.1
theorem dX7_sendNext_104 : decode cX7_sendNext 104 = .ok (.putfield 52, 3) := gdX7_sendNext_87.2.2.2.2.2.2.2.2.2.1
theorem dX7_sendNext_107 : decode cX7_sendNext 107 = .ok (.aload_n 0, 1) := gdX7_sendNext_87.2.2.2.2.2.2.2.2.2.2.1
theorem dX7_sendNext_108 : decode cX7_sendNext 108 = .ok (.getfield 71, 3) := gdX7_sendNext_87.2.2.2.2.2.2.2.2.2.2.2.1
theorem dX7_sendNext_111 : decode cX7_sendNext 111 = .ok (.istore 5, 2) := gdX7_sendNext_87.2.2.2.2.2.2.2.2.2.2.2.2.1
theorem dX7_sendNext_113 : decode cX7_sendNext 113 = .ok (.aload_n 0, 1) := gdX7_sendNext_87.2.2.2.2.2.2.2.2.2.2.2.2.2.1
theorem dX7_sendNext_114 : decode cX7_sendNext 114 = .ok (.aload_n 0, 1) := gdX7_sendNext_87.2.2.2.2.2.2.2.2.2.2.2.2.2.2.1
theorem dX7_sendNext_115 : decode cX7_sendNext 115 = .ok (.getfield 71, 3) := gdX7_sendNext_87.2.2.2.2.2.2.2.2.2.2.2.2.2.2.2
theorem gdX7_sendNext_118 : (decode cX7_sendNext 118 = .ok (.iload 4, 2)) ∧ (decode cX7_sendNext 120 = .ok (.invokestatic 98, 3)) ∧ (decode cX7_sendNext 123 = .ok (.putfield 71, 3)) ∧ (decode cX7_sendNext 126 = .ok (.iload 5, 2)) ∧ (decode cX7_sendNext 128 = .ok (.ireturn, 1)) := by decide +kernel
theorem dX7_sendNext_118 : decode cX7_sendNext 118 = .ok (.iload 4, 2) := gdX7_sendNext_118.1
theorem dX7_sendNext_120 : decode cX7_sendNext 120 = .ok (.invokestatic 98, 3) := gdX7_sendNext_118.2.1
theorem dX7_sendNext_123 : decode cX7_sendNext 123 = .ok (.putfield 71, 3) := gdX7_sendNext_118.2.2.1
theorem dX7_sendNext_126 : decode cX7_sendNext 126 = .ok (.iload 5, 2) := gdX7_sendNext_118.2.2.2.1
theorem dX7_sendNext_128 : decode cX7_sendNext 128 = .ok (.ireturn, 1) := gdX7_sendNext_118.2.2.2.2
set_option maxHeartbeats 8000000 in
set_option maxRecDepth 100000 in
theorem x_X7_sendNext (l : Launch) (E : EE) (z0 : Nat) (G : Nat → Nat) (hGz : ∀ q, G q ≠ 0 → z0 ≤ q) (B : AA) (R : RR) (hW : TW G B R) (h0 : Nat) (hG : G h0 = 9) : Met l yX7_sendNext [Cond.code yX7_sendNext cX7_sendNext 6 (some .int)] ({ frames := 4, cells := 0, slots := 0, locals := 89 } : Room) (va_Pc [.ref h0] (fun U => TX E G B R U.heap ∧ KS E z0 U)) (va_Qi (fun (r : Int32) (u : AA) => (TW G u R) ∧ (Fr G ([9, 4, 31, 32] : List Nat) B u) ∧ (C_X7_sendNext G B R h0 u r)) (fun u t => TX E G u R t.heap) (fun q : Nat => G q ∈ ([9, 4, 31, 32] : List Nat))) 0 0 (fun q : Nat => G q ∈ ([9, 4, 31, 32] : List Nat)) := by
  refine Met.ofW (cc := cX7_sendNext) (maxL := 6) (ret := (some .int)) (by decide) rfl ?_
  intro p e s m args below meth c s₁ B9 hml hv
  obtain ⟨rfl, hT, hK⟩ := hv
  have hx := B9.exec
  have hb := B9.bytes
  have hr := B9.returns
  have hts : ∀ w ∈ TS, w.before ([.ref h0] : List Value).toArray s = true := fun w hw => hK.2.1 w hw _
  have hown : s.vm.findClass RX7 = some m.cls := findClass_of_methodNamed B9.named
  have hlocks := B9.notSynchronized
  have hS : va_S (fun q : Nat => G q ∈ ([9, 4, 31, 32] : List Nat)) s.heap s.heap [] := va_S.rf
  have hAz : ∀ q, (fun q : Nat => G q ∈ ([9, 4, 31, 32] : List Nat)) q → z0 ≤ q := zL hGz (by decide)
  have hW_0 := hW
  have hl := lv_entry ([.ref h0]) (n := 6) (Nat.le_of_ble_eq_true rfl)
  rw [lg_entry_eq]
  generalize (lg_sl ([.ref h0]) ++ List.replicate (6 - (lg_sl ([.ref h0])).length) Slot.unset).toArray = ls at hl ⊢
  have hl : lv_has ls 6 [(0, .ref h0)] := hl
  refine lv_aload_n hx hb dX7_sendNext_0 rfl (lv_at hl 0 rfl) ?_
  refine lv_aload_n hx hb dX7_sendNext_1 rfl (lv_at hl 0 rfl) ?_
  have ha_1 := tx_9 hT hG
  refine va_get (D := DG E) (ci := 7) (v := .int (B h0 9)) (C := RX7) (T := TX7) (N := 14) hx hb hts iw_X7 hown hK.1 (va_one ha_1) 0 rfl rfl 9 (by decide) (hts _ fl_X7_71) (fun _ h9 => h9) rfl dX7_sendNext_2 ?_
  refine va_calli (rnV (fun H => TX E G B R H) (As := [.int (B h0 9)]) (rest := []) ⟨hx, hb, hml, hown, hts⟩ (x_X7_ownerOf l E z0 G hGz B R hW h0 (B h0 9) hG) (cwV 1 hts (gdV ml_X7_115 im_X7_ownerOf se_X7_X7_ownerOf in_X7 co_X7_ownerOf rfl) rfl rfl rfl (by decide +kernel) ⟨Nat.le_of_ble_eq_true rfl, Nat.le_of_ble_eq_true rfl⟩) hT (fun U hU hW => hK.go hW hS hAz hU) (va_recv hK.1 (va_one ha_1) (ci := 7) (q0 := 0) rfl rfl) rfl rfl hl.1 rfl (lv_room (Nat.le_of_ble_eq_true rfl)) dX7_sendNext_5 ⟨Nat.le_of_ble_eq_true rfl, Nat.le_of_ble_eq_true rfl⟩) hS (fun q _ h => h.elim) (fun q h => h.elim) (fun r_2 _ t H locs ht hvm hwr_2 hB hz hk hS => ?_)
  have hT : TX E G B R H := hT.kept (fun q hq => hk q hq (fun h => h))
  have hp0r_2 : -1 ≤ r_2.toInt ∧ r_2.toInt ≤ 3 := hwr_2.1
  have hCr_2 : C_X7_ownerOf G B R h0 (B h0 9) r_2 := hwr_2.2
  refine lv_istore_n (lv' := [(1, .int r_2), (0, .ref h0)]) hx hb dX7_sendNext_8 rfl hl (by decide) rfl (fun ls hl => ?_)
  refine lv_aload_n hx hb dX7_sendNext_9 rfl (lv_at hl 1 rfl) ?_
  have ha_3 := tx_9 hT hG
  refine va_get (D := DG E) (ci := 7) (v := .int (B h0 13)) (C := RX7) (T := TX7) (N := 14) hx hb hts iw_X7 hown hK.1 (va_one ha_3) 0 rfl rfl 13 (by decide) (hts _ fl_X7_61) (fun _ h9 => h9) rfl dX7_sendNext_10 ?_
  refine lv_if_ne (tgt := 21) hx hb dX7_sendNext_13 (by decide) (fun c_4 => ?_) (fun c_4 => ?_)
  · simp only [lt_I, le_I, eq_I, i_0, i_1, i_2, i_3, i_4, i_5, i_6, i_7, i_8, i_10, i_12, i_16, i_20, i_23, i_24, i_31, i_32, i_63, i_64, i_m1] at c_4
    refine lv_iconst (v := (-1)) hx hb dX7_sendNext_21 (by decide) ?_
    exact W.iret (v := (-1)) hx hb hr (fun t ht hW9 => ⟨⟨(-1), B, rfl, ⟨hW, Fr.rf, (Or.inl ⟨r_2, hCr_2, c_4, rfl, rfl⟩)⟩, (by show TX E G B R t.heap; rw [ht]; exact hT)⟩, hS.F ht⟩) hS.2.2 dX7_sendNext_22
  · simp only [lt_I, le_I, eq_I, i_0, i_1, i_2, i_3, i_4, i_5, i_6, i_7, i_8, i_10, i_12, i_16, i_20, i_23, i_24, i_31, i_32, i_63, i_64, i_m1] at c_4
    refine lv_iload_n hx hb dX7_sendNext_16 rfl (lv_at hl 0 rfl) ?_
    refine lv_iconst (v := (-1)) hx hb dX7_sendNext_17 (by decide) ?_
    refine lv_icmp_ne (tgt := 23) hx hb dX7_sendNext_18 (by decide) (fun c_5 => ?_) (fun c_5 => ?_)
    · simp only [lt_I, le_I, eq_I, i_0, i_1, i_2, i_3, i_4, i_5, i_6, i_7, i_8, i_10, i_12, i_16, i_20, i_23, i_24, i_31, i_32, i_63, i_64, i_m1] at c_5
      refine lv_aload_n hx hb dX7_sendNext_23 rfl (lv_at hl 1 rfl) ?_
      have hg_6 : G (R h0 6) = 11 := (tw_9 hW hG).2.2.2
      refine va_get (D := DG E) (ci := 7) (v := .ref (R h0 6)) (C := RX7) (T := TX7) (N := 14) hx hb hts iw_X7 hown hK.1 (va_one ha_3) 0 rfl rfl 6 (by decide) (hts _ fl_X7_41) (fun _ h9 => h9) rfl dX7_sendNext_24 ?_
      refine lv_iload_n hx hb dX7_sendNext_27 rfl (lv_at hl 0 rfl) ?_
      have ha_7 := tx_11 hT hg_6
      refine va_callr (rnV (fun H => TX E G B R H) (As := [.int r_2]) (rest := []) ⟨hx, hb, hml, hown, hts⟩ (x_X5_at l E z0 G hGz B R hW (R h0 6) r_2 hg_6 (show 0 ≤ r_2.toInt ∧ r_2.toInt ≤ 4 from by first | decide | omega)) (cwV 1 hts (gdV ml_X7_108 im_X5_at se_X5_X5_at in_X5 co_X5_at rfl) rfl rfl rfl (by decide +kernel) ⟨Nat.le_of_ble_eq_true rfl, Nat.le_of_ble_eq_true rfl⟩) hT (fun U hU hW => hK.go hW hS hAz hU) (va_recv hK.1 (va_one ha_7) (ci := 5) (q0 := 0) rfl rfl) rfl rfl hl.1 rfl (lv_room (Nat.le_of_ble_eq_true rfl)) dX7_sendNext_28 ⟨Nat.le_of_ble_eq_true rfl, Nat.le_of_ble_eq_true rfl⟩) hS (fun q _ h => h.elim) (fun q h => h.elim) (fun _ r_8 t H locs ht hvm hwr_8 hB hz hk hS => ?_)
      have hT : TX E G B R H := hT.kept (fun q hq => hk q hq (fun h => h))
      have hRr_8 := hB
      have hgr_8 : G r_8 = 13 := hRr_8.1
      have hCr_8 : C_X5_at G B R (R h0 6) r_2 r_8 := hRr_8.2
      refine lv_astore_n (lv' := [(2, .ref r_8), (1, .int r_2), (0, .ref h0)]) hx hb dX7_sendNext_31 rfl hl (by decide) rfl (fun ls hl => ?_)
      refine lv_aload_n hx hb dX7_sendNext_32 rfl (lv_at hl 0 rfl) ?_
      have ha_9 := tx_13 hT hgr_8
      refine va_get (D := DG E) (ci := 4) (v := .int (B r_8 4)) (C := RX4) (T := TX4) (N := 10) hx hb hts iw_X4 hown hK.1 (va_one ha_9) 0 rfl rfl 4 (by decide) (hts _ fl_X7_78) (fun _ h9 => h9) rfl dX7_sendNext_33 ?_
      refine lv_aload_n hx hb dX7_sendNext_36 rfl (lv_at hl 2 rfl) ?_
      have ha_10 := tx_9 hT hG
      refine va_get (D := DG E) (ci := 7) (v := .int (B h0 9)) (C := RX7) (T := TX7) (N := 14) hx hb hts iw_X7 hown hK.1 (va_one ha_10) 0 rfl rfl 9 (by decide) (hts _ fl_X7_71) (fun _ h9 => h9) rfl dX7_sendNext_37 ?_
      refine rnSN (As := [.int (B r_8 4), .int (B h0 9)]) (rest := []) ⟨hx, hb, hml, hown, hts⟩ (c_X9_distance l ((B r_8 4)) ((B h0 9))) ⟨va_cnB (host := RX9) 2 hts (gd1 co_X9_distance rfl) rfl rfl rfl (hK.2.1 _ mn_X7_112 #[]) (hts _ in_X9) (by decide +kernel) ⟨Nat.le_of_ble_eq_true rfl, Nat.le_of_ble_eq_true rfl⟩, hts _ st_X9_distance, trivial⟩ rfl rfl hl.1 rfl (lv_room (Nat.le_of_ble_eq_true rfl)) dX7_sendNext_40 ⟨Nat.le_of_ble_eq_true rfl, Nat.le_of_ble_eq_true rfl⟩ ?_
      refine W.eq (g2 := F0 m 43 ls [.int (((B h0 9) - (B r_8 4)) &&& 63)]) (by rfl) ?_
      refine lv_topi (fun x_11 ex_11 => ?_)
      have fx_11 := s_and63 ((B h0 9) - (B r_8 4)); rw [← ex_11] at fx_11
      refine lv_istore_n (lv' := [(3, .int x_11), (2, .ref r_8), (1, .int r_2), (0, .ref h0)]) hx hb dX7_sendNext_43 rfl hl (by decide) rfl (fun ls hl => ?_)
      refine lv_aload_n hx hb dX7_sendNext_44 rfl (lv_at hl 1 rfl) ?_
      refine va_get (D := DG E) (ci := 4) (v := .int (B r_8 0)) (C := RX4) (T := TX4) (N := 10) hx hb hts iw_X4 hown hK.1 (va_one ha_9) 0 rfl rfl 0 (by decide) (hts _ fl_X7_118) (fun _ h9 => h9) rfl dX7_sendNext_45 ?_
      refine lv_iconst (v := 2) hx hb dX7_sendNext_48 (by decide) ?_
      refine lv_icmp_ne (tgt := 61) hx hb dX7_sendNext_49 (by decide) (fun c_12 => ?_) (fun c_12 => ?_)
      · simp only [lt_I, le_I, eq_I, i_0, i_1, i_2, i_3, i_4, i_5, i_6, i_7, i_8, i_10, i_12, i_16, i_20, i_23, i_24, i_31, i_32, i_63, i_64, i_m1] at c_12
        refine lv_iconst (v := 1) hx hb dX7_sendNext_61 (by decide) ?_
        refine lv_istore (lv' := [(4, .int 1), (3, .int x_11), (2, .ref r_8), (1, .int r_2), (0, .ref h0)]) hx hb dX7_sendNext_62 hl (by decide) rfl (fun ls hl => ?_)
        refine lv_aload_n hx hb dX7_sendNext_64 rfl (lv_at hl 4 rfl) ?_
        refine va_get (D := DG E) (ci := 7) (v := .int (B h0 8)) (C := RX7) (T := TX7) (N := 14) hx hb hts iw_X7 hown hK.1 (va_one ha_10) 0 rfl rfl 8 (by decide) (hts _ fl_X7_68) (fun _ h9 => h9) rfl dX7_sendNext_65 ?_
        refine lv_aload_n hx hb dX7_sendNext_68 rfl (lv_at hl 4 rfl) ?_
        refine va_get (D := DG E) (ci := 7) (v := .int (B h0 9)) (C := RX7) (T := TX7) (N := 14) hx hb hts iw_X7 hown hK.1 (va_one ha_10) 0 rfl rfl 9 (by decide) (hts _ fl_X7_71) (fun _ h9 => h9) rfl dX7_sendNext_69 ?_
        refine rnSN (As := [.int (B h0 8), .int (B h0 9)]) (rest := []) ⟨hx, hb, hml, hown, hts⟩ (c_X9_distance l ((B h0 8)) ((B h0 9))) ⟨va_cnB (host := RX9) 2 hts (gd1 co_X9_distance rfl) rfl rfl rfl (hK.2.1 _ mn_X7_112 #[]) (hts _ in_X9) (by decide +kernel) ⟨Nat.le_of_ble_eq_true rfl, Nat.le_of_ble_eq_true rfl⟩, hts _ st_X9_distance, trivial⟩ rfl rfl hl.1 rfl (lv_room (Nat.le_of_ble_eq_true rfl)) dX7_sendNext_72 ⟨Nat.le_of_ble_eq_true rfl, Nat.le_of_ble_eq_true rfl⟩ ?_
        refine W.eq (g2 := F0 m 75 ls [.int (((B h0 9) - (B h0 8)) &&& 63)]) (by rfl) ?_
        refine lv_topi (fun x_13 ex_13 => ?_)
        have fx_13 := s_and63 ((B h0 9) - (B h0 8)); rw [← ex_13] at fx_13
        refine lv_iload hx hb dX7_sendNext_75 (lv_at hl 0 rfl) ?_
        refine lv_iadd hx hb dX7_sendNext_77 ?_
        refine lv_topi (fun x_14 ex_14 => ?_)
        have fx_14 : x_14.toInt = x_13.toInt + 1 := by have h9 := s_add (x := x_13) (y := 1) (by rw [i_1]; omega) (by rw [i_1]; omega); rw [i_1] at h9; rw [ex_14]; exact h9
        refine lv_bipush (v := 8) hx hb dX7_sendNext_78 (by decide) ?_
        refine lv_icmp_le (tgt := 85) hx hb dX7_sendNext_80 (by decide) (fun c_15 => ?_) (fun c_15 => ?_)
        · simp only [lt_I, le_I, eq_I, i_0, i_1, i_2, i_3, i_4, i_5, i_6, i_7, i_8, i_10, i_12, i_16, i_20, i_23, i_24, i_31, i_32, i_63, i_64, i_m1] at c_15
          refine lv_aload_n hx hb dX7_sendNext_85 rfl (lv_at hl 4 rfl) ?_
          refine lv_aload_n hx hb dX7_sendNext_86 rfl (lv_at hl 2 rfl) ?_
          refine lv_iload_n hx hb dX7_sendNext_87 rfl (lv_at hl 1 rfl) ?_
          refine va_callv (rnV (fun H => TX E G B R H) (As := [.ref r_8, .int x_11]) (rest := []) ⟨hx, hb, hml, hown, hts⟩ (x_X7_sendPart l E z0 G hGz B R hW h0 r_8 x_11 hG hgr_8 (show 0 ≤ x_11.toInt ∧ x_11.toInt ≤ 63 from by first | decide | omega)) (cwV 2 hts (gdV ml_X7_121 im_X7_sendPart se_X7_X7_sendPart in_X7 co_X7_sendPart rfl) rfl rfl rfl (by decide +kernel) ⟨Nat.le_of_ble_eq_true rfl, Nat.le_of_ble_eq_true rfl⟩) hT (fun U hU hW => hK.go hW hS hAz hU) (va_recv hK.1 (va_one ha_10) (ci := 7) (q0 := 0) rfl rfl) rfl rfl hl.1 rfl (lv_room (Nat.le_of_ble_eq_true rfl)) dX7_sendNext_88 ⟨Nat.le_of_ble_eq_true rfl, Nat.le_of_ble_eq_true rfl⟩) hS (fun q _ h => mL (L' := [4, 31, 32]) (L := [9, 4, 31, 32]) (by decide) h) (fun q h => mL (L' := [4, 31, 32]) (L := [9, 4, 31, 32]) (by decide) h) (fun U_17 t H locs ht hvm hwr_16 hB hz hk hS => ?_)
          have hT : TX E G U_17 R H := by rw [ht] at hB; exact hB
          have hWr_16 : TW G U_17 R := hwr_16.1
          have hW := hWr_16
          have hFr_16 : Fr G [4, 31, 32] B U_17 := hwr_16.2.1
          have hCr_16 : C_X7_sendPart G B R h0 r_8 x_11 U_17 := hwr_16.2.2
          refine lv_aload_n hx hb dX7_sendNext_91 rfl (lv_at hl 4 rfl) ?_
          have ha_18 := tx_9 hT hG
          have l_19 : U_17 h0 9 = (B h0 9) := (congrFun (hFr_16 h0 (by rw [hG]; decide)) 9)
          refine va_get (D := DG E) (ci := 7) (v := .int (U_17 h0 9)) (C := RX7) (T := TX7) (N := 14) hx hb hts iw_X7 hown hK.1 (va_one ha_18) 0 rfl rfl 9 (by decide) (hts _ fl_X7_71) (fun _ h9 => h9) rfl dX7_sendNext_92 ?_
          refine W.eq (g2 := F0 m 95 ls [.int (B h0 9)]) (by rw [l_19]) ?_
          refine lv_aload_n hx hb dX7_sendNext_95 rfl (lv_at hl 4 rfl) ?_
          have l_20 : U_17 h0 8 = (B h0 8) := (congrFun (hFr_16 h0 (by rw [hG]; decide)) 8)
          refine va_get (D := DG E) (ci := 7) (v := .int (U_17 h0 8)) (C := RX7) (T := TX7) (N := 14) hx hb hts iw_X7 hown hK.1 (va_one ha_18) 0 rfl rfl 8 (by decide) (hts _ fl_X7_68) (fun _ h9 => h9) rfl dX7_sendNext_96 ?_
          refine W.eq (g2 := F0 m 99 ls [.int (B h0 8), .int (B h0 9)]) (by rw [l_20]) ?_
          refine lv_icmp_ne (tgt := 107) hx hb dX7_sendNext_99 (by decide) (fun c_21 => ?_) (fun c_21 => ?_)
          · simp only [lt_I, le_I, eq_I, i_0, i_1, i_2, i_3, i_4, i_5, i_6, i_7, i_8, i_10, i_12, i_16, i_20, i_23, i_24, i_31, i_32, i_63, i_64, i_m1] at c_21
            refine lv_aload_n hx hb dX7_sendNext_107 rfl (lv_at hl 4 rfl) ?_
            refine va_get (D := DG E) (ci := 7) (v := .int (U_17 h0 9)) (C := RX7) (T := TX7) (N := 14) hx hb hts iw_X7 hown hK.1 (va_one ha_18) 0 rfl rfl 9 (by decide) (hts _ fl_X7_71) (fun _ h9 => h9) rfl dX7_sendNext_108 ?_
            refine W.eq (g2 := F0 m 111 ls [.int (B h0 9)]) (by rw [l_19]) ?_
            refine lv_istore (lv' := [(5, .int (B h0 9)), (4, .int 1), (3, .int x_11), (2, .ref r_8), (1, .int r_2), (0, .ref h0)]) hx hb dX7_sendNext_111 hl (by decide) rfl (fun ls hl => ?_)
            refine lv_aload_n hx hb dX7_sendNext_113 rfl (lv_at hl 5 rfl) ?_
            refine lv_aload_n hx hb dX7_sendNext_114 rfl (lv_at hl 5 rfl) ?_
            refine va_get (D := DG E) (ci := 7) (v := .int (U_17 h0 9)) (C := RX7) (T := TX7) (N := 14) hx hb hts iw_X7 hown hK.1 (va_one ha_18) 0 rfl rfl 9 (by decide) (hts _ fl_X7_71) (fun _ h9 => h9) rfl dX7_sendNext_115 ?_
            refine W.eq (g2 := F0 m 118 ls [.int (B h0 9), .ref h0]) (by rw [l_19]) ?_
            refine lv_iload hx hb dX7_sendNext_118 (lv_at hl 1 rfl) ?_
            refine rnSN (As := [.int (B h0 9), .int 1]) (rest := [.ref h0]) ⟨hx, hb, hml, hown, hts⟩ (c_X9_after l ((B h0 9)) 1) ⟨va_cnB (host := RX9) 2 hts (gd1 co_X9_after rfl) rfl rfl rfl (hK.2.1 _ mn_X7_98 #[]) (hts _ in_X9) (by decide +kernel) ⟨Nat.le_of_ble_eq_true rfl, Nat.le_of_ble_eq_true rfl⟩, hts _ st_X9_after, trivial⟩ rfl rfl hl.1 rfl (lv_room (Nat.le_of_ble_eq_true rfl)) dX7_sendNext_120 ⟨Nat.le_of_ble_eq_true rfl, Nat.le_of_ble_eq_true rfl⟩ ?_
            refine W.eq (g2 := F0 m 123 ls [.int (((B h0 9) + 1) &&& 63), .ref h0]) (by rfl) ?_
            refine lv_topi (fun x_22 ex_22 => ?_)
            have fx_22 := s_and63 ((B h0 9) + 1); rw [← ex_22] at fx_22
            refine rr_put (D := DG E) (ci := 7) (v := .int x_22) (ty := .int) (C := RX7) (T := TX7) (N := 14) hx hb hts iw_X7 tyX7 tyX7_ok nmX7 hown hK.1 ha_18 hS (by show G h0 ∈ ([9, 4, 31, 32] : List Nat); rw [hG]; decide) rfl 9 (by decide) (hts _ fl_X7_71) (fun _ h9 => h9) rfl (by decide +kernel) rfl rfl (Nat.le_of_ble_eq_true rfl) dX7_sendNext_123 (fun H locs hn ho hz hS => ?_)
            obtain ⟨B_23, eB_23⟩ : ∃ z : AA, z = uA U_17 h0 (upd (U_17 h0) 9 x_22) := ⟨_, rfl⟩
            have sB_23 : B_23 h0 9 = x_22 := by rw [eB_23, uA_s]; exact upd_s
            have nB_23 : ∀ k, k ≠ 9 → B_23 h0 k = U_17 h0 k := fun k hk => by rw [eB_23, uA_s]; exact upd_n hk
            have fB_23 : ∀ c, G c ≠ 9 → B_23 c = U_17 c := fun c hc => by rw [eB_23]; exact uA_n (fun e => hc (by rw [e]; exact hG))
            have hT : TX E G B_23 R H := by rw [eB_23]; exact hT.w (by rw [hG]; exact hn) ho
            have hWB_23 : TW G B_23 R := by rw [eB_23]; exact hWr_16.w (by rw [hG]; exact tw_9 hWr_16 hG)
            have hW := hWB_23
            refine lv_iload hx hb dX7_sendNext_126 (lv_at hl 0 rfl) ?_
            exact W.iret (v := (B h0 9)) hx hb hr (fun t ht hW9 => ⟨⟨(B h0 9), B_23, rfl, ⟨hW, (Fr.w (Fr.c Fr.rf hFr_16 (by decide)) hG (by decide) eB_23), (Or.inr (Or.inl ⟨r_2, hCr_2, c_4, c_5, r_8, hCr_8, x_11, ex_11, c_12, x_13, ex_13, x_14, ex_14, fx_14, c_15, U_17, hFr_16, hCr_16, c_21, x_22, ex_22, B_23, eB_23, rfl, rfl⟩))⟩, (by show TX E G B_23 R t.heap; rw [ht]; exact hT)⟩, hS.F ht⟩) hS.2.2 dX7_sendNext_128
          · simp only [lt_I, le_I, eq_I, i_0, i_1, i_2, i_3, i_4, i_5, i_6, i_7, i_8, i_10, i_12, i_16, i_20, i_23, i_24, i_31, i_32, i_63, i_64, i_m1] at c_21
            refine lv_aload_n hx hb dX7_sendNext_102 rfl (lv_at hl 4 rfl) ?_
            refine lv_iconst (v := 0) hx hb dX7_sendNext_103 (by decide) ?_
            refine rr_put (D := DG E) (ci := 7) (v := .int 0) (ty := .int) (C := RX7) (T := TX7) (N := 14) hx hb hts iw_X7 tyX7 tyX7_ok nmX7 hown hK.1 ha_18 hS (by show G h0 ∈ ([9, 4, 31, 32] : List Nat); rw [hG]; decide) rfl 10 (by decide) (hts _ fl_X7_52) (fun _ h9 => h9) rfl (by decide +kernel) rfl rfl (Nat.le_of_ble_eq_true rfl) dX7_sendNext_104 (fun H locs hn ho hz hS => ?_)
            obtain ⟨B_24, eB_24⟩ : ∃ z : AA, z = uA U_17 h0 (upd (U_17 h0) 10 0) := ⟨_, rfl⟩
            have sB_24 : B_24 h0 10 = 0 := by rw [eB_24, uA_s]; exact upd_s
            have nB_24 : ∀ k, k ≠ 10 → B_24 h0 k = U_17 h0 k := fun k hk => by rw [eB_24, uA_s]; exact upd_n hk
            have fB_24 : ∀ c, G c ≠ 9 → B_24 c = U_17 c := fun c hc => by rw [eB_24]; exact uA_n (fun e => hc (by rw [e]; exact hG))
            have hT : TX E G B_24 R H := by rw [eB_24]; exact hT.w (by rw [hG]; exact hn) ho
            have hWB_24 : TW G B_24 R := by rw [eB_24]; exact hWr_16.w (by rw [hG]; exact tw_9 hWr_16 hG)
            have hW := hWB_24
            refine lv_aload_n hx hb dX7_sendNext_107 rfl (lv_at hl 4 rfl) ?_
            have ha_25 := tx_9 hT hG
            have l_26 : B_24 h0 9 = (B h0 9) := ((nB_24 9 (by decide))).trans ((congrFun (hFr_16 h0 (by rw [hG]; decide)) 9))
            refine va_get (D := DG E) (ci := 7) (v := .int (B_24 h0 9)) (C := RX7) (T := TX7) (N := 14) hx hb hts iw_X7 hown hK.1 (va_one ha_25) 0 rfl rfl 9 (by decide) (hts _ fl_X7_71) (fun _ h9 => h9) rfl dX7_sendNext_108 ?_
            refine W.eq (g2 := F0 m 111 ls [.int (B h0 9)]) (by rw [l_26]) ?_
            refine lv_istore (lv' := [(5, .int (B h0 9)), (4, .int 1), (3, .int x_11), (2, .ref r_8), (1, .int r_2), (0, .ref h0)]) hx hb dX7_sendNext_111 hl (by decide) rfl (fun ls hl => ?_)
            refine lv_aload_n hx hb dX7_sendNext_113 rfl (lv_at hl 5 rfl) ?_
            refine lv_aload_n hx hb dX7_sendNext_114 rfl (lv_at hl 5 rfl) ?_
            refine va_get (D := DG E) (ci := 7) (v := .int (B_24 h0 9)) (C := RX7) (T := TX7) (N := 14) hx hb hts iw_X7 hown hK.1 (va_one ha_25) 0 rfl rfl 9 (by decide) (hts _ fl_X7_71) (fun _ h9 => h9) rfl dX7_sendNext_115 ?_
            refine W.eq (g2 := F0 m 118 ls [.int (B h0 9), .ref h0]) (by rw [l_26]) ?_
            refine lv_iload hx hb dX7_sendNext_118 (lv_at hl 1 rfl) ?_
            refine rnSN (As := [.int (B h0 9), .int 1]) (rest := [.ref h0]) ⟨hx, hb, hml, hown, hts⟩ (c_X9_after l ((B h0 9)) 1) ⟨va_cnB (host := RX9) 2 hts (gd1 co_X9_after rfl) rfl rfl rfl (hK.2.1 _ mn_X7_98 #[]) (hts _ in_X9) (by decide +kernel) ⟨Nat.le_of_ble_eq_true rfl, Nat.le_of_ble_eq_true rfl⟩, hts _ st_X9_after, trivial⟩ rfl rfl hl.1 rfl (lv_room (Nat.le_of_ble_eq_true rfl)) dX7_sendNext_120 ⟨Nat.le_of_ble_eq_true rfl, Nat.le_of_ble_eq_true rfl⟩ ?_
            refine W.eq (g2 := F0 m 123 ls [.int (((B h0 9) + 1) &&& 63), .ref h0]) (by rfl) ?_
            refine lv_topi (fun x_27 ex_27 => ?_)
            have fx_27 := s_and63 ((B h0 9) + 1); rw [← ex_27] at fx_27
            refine rr_put (D := DG E) (ci := 7) (v := .int x_27) (ty := .int) (C := RX7) (T := TX7) (N := 14) hx hb hts iw_X7 tyX7 tyX7_ok nmX7 hown hK.1 ha_25 hS (by show G h0 ∈ ([9, 4, 31, 32] : List Nat); rw [hG]; decide) rfl 9 (by decide) (hts _ fl_X7_71) (fun _ h9 => h9) rfl (by decide +kernel) rfl rfl (Nat.le_of_ble_eq_true rfl) dX7_sendNext_123 (fun H locs hn ho hz hS => ?_)
            obtain ⟨B_28, eB_28⟩ : ∃ z : AA, z = uA B_24 h0 (upd (B_24 h0) 9 x_27) := ⟨_, rfl⟩
            have sB_28 : B_28 h0 9 = x_27 := by rw [eB_28, uA_s]; exact upd_s
            have nB_28 : ∀ k, k ≠ 9 → B_28 h0 k = B_24 h0 k := fun k hk => by rw [eB_28, uA_s]; exact upd_n hk
            have fB_28 : ∀ c, G c ≠ 9 → B_28 c = B_24 c := fun c hc => by rw [eB_28]; exact uA_n (fun e => hc (by rw [e]; exact hG))
            have hT : TX E G B_28 R H := by rw [eB_28]; exact hT.w (by rw [hG]; exact hn) ho
            have hWB_28 : TW G B_28 R := by rw [eB_28]; exact hWB_24.w (by rw [hG]; exact tw_9 hWB_24 hG)
            have hW := hWB_28
            refine lv_iload hx hb dX7_sendNext_126 (lv_at hl 0 rfl) ?_
            exact W.iret (v := (B h0 9)) hx hb hr (fun t ht hW9 => ⟨⟨(B h0 9), B_28, rfl, ⟨hW, (Fr.w (Fr.w (Fr.c Fr.rf hFr_16 (by decide)) hG (by decide) eB_24) hG (by decide) eB_28), (Or.inr (Or.inr (Or.inl ⟨r_2, hCr_2, c_4, c_5, r_8, hCr_8, x_11, ex_11, c_12, x_13, ex_13, x_14, ex_14, fx_14, c_15, U_17, hFr_16, hCr_16, c_21, B_24, eB_24, x_27, ex_27, B_28, eB_28, rfl, rfl⟩)))⟩, (by show TX E G B_28 R t.heap; rw [ht]; exact hT)⟩, hS.F ht⟩) hS.2.2 dX7_sendNext_128
        · simp only [lt_I, le_I, eq_I, i_0, i_1, i_2, i_3, i_4, i_5, i_6, i_7, i_8, i_10, i_12, i_16, i_20, i_23, i_24, i_31, i_32, i_63, i_64, i_m1] at c_15
          refine lv_iconst (v := (-1)) hx hb dX7_sendNext_83 (by decide) ?_
          exact W.iret (v := (-1)) hx hb hr (fun t ht hW9 => ⟨⟨(-1), B, rfl, ⟨hW, Fr.rf, (Or.inr (Or.inr (Or.inr (Or.inl ⟨r_2, hCr_2, c_4, c_5, r_8, hCr_8, x_11, ex_11, c_12, x_13, ex_13, x_14, ex_14, fx_14, c_15, rfl, rfl⟩))))⟩, (by show TX E G B R t.heap; rw [ht]; exact hT)⟩, hS.F ht⟩) hS.2.2 dX7_sendNext_84
      · simp only [lt_I, le_I, eq_I, i_0, i_1, i_2, i_3, i_4, i_5, i_6, i_7, i_8, i_10, i_12, i_16, i_20, i_23, i_24, i_31, i_32, i_63, i_64, i_m1] at c_12
        refine lv_aload_n hx hb dX7_sendNext_52 rfl (lv_at hl 1 rfl) ?_
        refine va_get (D := DG E) (ci := 4) (v := .int (B r_8 5)) (C := RX4) (T := TX4) (N := 10) hx hb hts iw_X4 hown hK.1 (va_one ha_9) 0 rfl rfl 5 (by decide) (hts _ fl_X7_86) (fun _ h9 => h9) rfl dX7_sendNext_53 ?_
        refine lv_iload_n hx hb dX7_sendNext_56 rfl (lv_at hl 0 rfl) ?_
        refine lv_isub hx hb dX7_sendNext_57 ?_
        refine lv_topi (fun x_29 ex_29 => ?_)
        refine lv_goto (tgt := 62) hx hb dX7_sendNext_58 (by decide) ?_
        refine lv_istore (lv' := [(4, .int x_29), (3, .int x_11), (2, .ref r_8), (1, .int r_2), (0, .ref h0)]) hx hb dX7_sendNext_62 hl (by decide) rfl (fun ls hl => ?_)
        refine lv_aload_n hx hb dX7_sendNext_64 rfl (lv_at hl 4 rfl) ?_
        refine va_get (D := DG E) (ci := 7) (v := .int (B h0 8)) (C := RX7) (T := TX7) (N := 14) hx hb hts iw_X7 hown hK.1 (va_one ha_10) 0 rfl rfl 8 (by decide) (hts _ fl_X7_68) (fun _ h9 => h9) rfl dX7_sendNext_65 ?_
        refine lv_aload_n hx hb dX7_sendNext_68 rfl (lv_at hl 4 rfl) ?_
        refine va_get (D := DG E) (ci := 7) (v := .int (B h0 9)) (C := RX7) (T := TX7) (N := 14) hx hb hts iw_X7 hown hK.1 (va_one ha_10) 0 rfl rfl 9 (by decide) (hts _ fl_X7_71) (fun _ h9 => h9) rfl dX7_sendNext_69 ?_
        refine rnSN (As := [.int (B h0 8), .int (B h0 9)]) (rest := []) ⟨hx, hb, hml, hown, hts⟩ (c_X9_distance l ((B h0 8)) ((B h0 9))) ⟨va_cnB (host := RX9) 2 hts (gd1 co_X9_distance rfl) rfl rfl rfl (hK.2.1 _ mn_X7_112 #[]) (hts _ in_X9) (by decide +kernel) ⟨Nat.le_of_ble_eq_true rfl, Nat.le_of_ble_eq_true rfl⟩, hts _ st_X9_distance, trivial⟩ rfl rfl hl.1 rfl (lv_room (Nat.le_of_ble_eq_true rfl)) dX7_sendNext_72 ⟨Nat.le_of_ble_eq_true rfl, Nat.le_of_ble_eq_true rfl⟩ ?_
        refine W.eq (g2 := F0 m 75 ls [.int (((B h0 9) - (B h0 8)) &&& 63)]) (by rfl) ?_
        refine lv_topi (fun x_30 ex_30 => ?_)
        have fx_30 := s_and63 ((B h0 9) - (B h0 8)); rw [← ex_30] at fx_30
        refine lv_iload hx hb dX7_sendNext_75 (lv_at hl 0 rfl) ?_
        refine lv_iadd hx hb dX7_sendNext_77 ?_
        refine lv_topi (fun x_31 ex_31 => ?_)
        refine lv_bipush (v := 8) hx hb dX7_sendNext_78 (by decide) ?_
        refine lv_icmp_le (tgt := 85) hx hb dX7_sendNext_80 (by decide) (fun c_32 => ?_) (fun c_32 => ?_)
        · simp only [lt_I, le_I, eq_I, i_0, i_1, i_2, i_3, i_4, i_5, i_6, i_7, i_8, i_10, i_12, i_16, i_20, i_23, i_24, i_31, i_32, i_63, i_64, i_m1] at c_32
          refine lv_aload_n hx hb dX7_sendNext_85 rfl (lv_at hl 4 rfl) ?_
          refine lv_aload_n hx hb dX7_sendNext_86 rfl (lv_at hl 2 rfl) ?_
          refine lv_iload_n hx hb dX7_sendNext_87 rfl (lv_at hl 1 rfl) ?_
          refine va_callv (rnV (fun H => TX E G B R H) (As := [.ref r_8, .int x_11]) (rest := []) ⟨hx, hb, hml, hown, hts⟩ (x_X7_sendPart l E z0 G hGz B R hW h0 r_8 x_11 hG hgr_8 (show 0 ≤ x_11.toInt ∧ x_11.toInt ≤ 63 from by first | decide | omega)) (cwV 2 hts (gdV ml_X7_121 im_X7_sendPart se_X7_X7_sendPart in_X7 co_X7_sendPart rfl) rfl rfl rfl (by decide +kernel) ⟨Nat.le_of_ble_eq_true rfl, Nat.le_of_ble_eq_true rfl⟩) hT (fun U hU hW => hK.go hW hS hAz hU) (va_recv hK.1 (va_one ha_10) (ci := 7) (q0 := 0) rfl rfl) rfl rfl hl.1 rfl (lv_room (Nat.le_of_ble_eq_true rfl)) dX7_sendNext_88 ⟨Nat.le_of_ble_eq_true rfl, Nat.le_of_ble_eq_true rfl⟩) hS (fun q _ h => mL (L' := [4, 31, 32]) (L := [9, 4, 31, 32]) (by decide) h) (fun q h => mL (L' := [4, 31, 32]) (L := [9, 4, 31, 32]) (by decide) h) (fun U_34 t H locs ht hvm hwr_33 hB hz hk hS => ?_)
          have hT : TX E G U_34 R H := by rw [ht] at hB; exact hB
          have hWr_33 : TW G U_34 R := hwr_33.1
          have hW := hWr_33
          have hFr_33 : Fr G [4, 31, 32] B U_34 := hwr_33.2.1
          have hCr_33 : C_X7_sendPart G B R h0 r_8 x_11 U_34 := hwr_33.2.2
          refine lv_aload_n hx hb dX7_sendNext_91 rfl (lv_at hl 4 rfl) ?_
          have ha_35 := tx_9 hT hG
          have l_36 : U_34 h0 9 = (B h0 9) := (congrFun (hFr_33 h0 (by rw [hG]; decide)) 9)
          refine va_get (D := DG E) (ci := 7) (v := .int (U_34 h0 9)) (C := RX7) (T := TX7) (N := 14) hx hb hts iw_X7 hown hK.1 (va_one ha_35) 0 rfl rfl 9 (by decide) (hts _ fl_X7_71) (fun _ h9 => h9) rfl dX7_sendNext_92 ?_
          refine W.eq (g2 := F0 m 95 ls [.int (B h0 9)]) (by rw [l_36]) ?_
          refine lv_aload_n hx hb dX7_sendNext_95 rfl (lv_at hl 4 rfl) ?_
          have l_37 : U_34 h0 8 = (B h0 8) := (congrFun (hFr_33 h0 (by rw [hG]; decide)) 8)
          refine va_get (D := DG E) (ci := 7) (v := .int (U_34 h0 8)) (C := RX7) (T := TX7) (N := 14) hx hb hts iw_X7 hown hK.1 (va_one ha_35) 0 rfl rfl 8 (by decide) (hts _ fl_X7_68) (fun _ h9 => h9) rfl dX7_sendNext_96 ?_
          refine W.eq (g2 := F0 m 99 ls [.int (B h0 8), .int (B h0 9)]) (by rw [l_37]) ?_
          refine lv_icmp_ne (tgt := 107) hx hb dX7_sendNext_99 (by decide) (fun c_38 => ?_) (fun c_38 => ?_)
          · simp only [lt_I, le_I, eq_I, i_0, i_1, i_2, i_3, i_4, i_5, i_6, i_7, i_8, i_10, i_12, i_16, i_20, i_23, i_24, i_31, i_32, i_63, i_64, i_m1] at c_38
            refine lv_aload_n hx hb dX7_sendNext_107 rfl (lv_at hl 4 rfl) ?_
            refine va_get (D := DG E) (ci := 7) (v := .int (U_34 h0 9)) (C := RX7) (T := TX7) (N := 14) hx hb hts iw_X7 hown hK.1 (va_one ha_35) 0 rfl rfl 9 (by decide) (hts _ fl_X7_71) (fun _ h9 => h9) rfl dX7_sendNext_108 ?_
            refine W.eq (g2 := F0 m 111 ls [.int (B h0 9)]) (by rw [l_36]) ?_
            refine lv_istore (lv' := [(5, .int (B h0 9)), (4, .int x_29), (3, .int x_11), (2, .ref r_8), (1, .int r_2), (0, .ref h0)]) hx hb dX7_sendNext_111 hl (by decide) rfl (fun ls hl => ?_)
            refine lv_aload_n hx hb dX7_sendNext_113 rfl (lv_at hl 5 rfl) ?_
            refine lv_aload_n hx hb dX7_sendNext_114 rfl (lv_at hl 5 rfl) ?_
            refine va_get (D := DG E) (ci := 7) (v := .int (U_34 h0 9)) (C := RX7) (T := TX7) (N := 14) hx hb hts iw_X7 hown hK.1 (va_one ha_35) 0 rfl rfl 9 (by decide) (hts _ fl_X7_71) (fun _ h9 => h9) rfl dX7_sendNext_115 ?_
            refine W.eq (g2 := F0 m 118 ls [.int (B h0 9), .ref h0]) (by rw [l_36]) ?_
            refine lv_iload hx hb dX7_sendNext_118 (lv_at hl 1 rfl) ?_
            refine rnSN (As := [.int (B h0 9), .int x_29]) (rest := [.ref h0]) ⟨hx, hb, hml, hown, hts⟩ (c_X9_after l ((B h0 9)) x_29) ⟨va_cnB (host := RX9) 2 hts (gd1 co_X9_after rfl) rfl rfl rfl (hK.2.1 _ mn_X7_98 #[]) (hts _ in_X9) (by decide +kernel) ⟨Nat.le_of_ble_eq_true rfl, Nat.le_of_ble_eq_true rfl⟩, hts _ st_X9_after, trivial⟩ rfl rfl hl.1 rfl (lv_room (Nat.le_of_ble_eq_true rfl)) dX7_sendNext_120 ⟨Nat.le_of_ble_eq_true rfl, Nat.le_of_ble_eq_true rfl⟩ ?_
            refine W.eq (g2 := F0 m 123 ls [.int (((B h0 9) + x_29) &&& 63), .ref h0]) (by rfl) ?_
            refine lv_topi (fun x_39 ex_39 => ?_)
            have fx_39 := s_and63 ((B h0 9) + x_29); rw [← ex_39] at fx_39
            refine rr_put (D := DG E) (ci := 7) (v := .int x_39) (ty := .int) (C := RX7) (T := TX7) (N := 14) hx hb hts iw_X7 tyX7 tyX7_ok nmX7 hown hK.1 ha_35 hS (by show G h0 ∈ ([9, 4, 31, 32] : List Nat); rw [hG]; decide) rfl 9 (by decide) (hts _ fl_X7_71) (fun _ h9 => h9) rfl (by decide +kernel) rfl rfl (Nat.le_of_ble_eq_true rfl) dX7_sendNext_123 (fun H locs hn ho hz hS => ?_)
            obtain ⟨B_40, eB_40⟩ : ∃ z : AA, z = uA U_34 h0 (upd (U_34 h0) 9 x_39) := ⟨_, rfl⟩
            have sB_40 : B_40 h0 9 = x_39 := by rw [eB_40, uA_s]; exact upd_s
            have nB_40 : ∀ k, k ≠ 9 → B_40 h0 k = U_34 h0 k := fun k hk => by rw [eB_40, uA_s]; exact upd_n hk
            have fB_40 : ∀ c, G c ≠ 9 → B_40 c = U_34 c := fun c hc => by rw [eB_40]; exact uA_n (fun e => hc (by rw [e]; exact hG))
            have hT : TX E G B_40 R H := by rw [eB_40]; exact hT.w (by rw [hG]; exact hn) ho
            have hWB_40 : TW G B_40 R := by rw [eB_40]; exact hWr_33.w (by rw [hG]; exact tw_9 hWr_33 hG)
            have hW := hWB_40
            refine lv_iload hx hb dX7_sendNext_126 (lv_at hl 0 rfl) ?_
            exact W.iret (v := (B h0 9)) hx hb hr (fun t ht hW9 => ⟨⟨(B h0 9), B_40, rfl, ⟨hW, (Fr.w (Fr.c Fr.rf hFr_33 (by decide)) hG (by decide) eB_40), (Or.inr (Or.inr (Or.inr (Or.inr (Or.inl ⟨r_2, hCr_2, c_4, c_5, r_8, hCr_8, x_11, ex_11, c_12, x_29, ex_29, x_30, ex_30, x_31, ex_31, c_32, U_34, hFr_33, hCr_33, c_38, x_39, ex_39, B_40, eB_40, rfl, rfl⟩)))))⟩, (by show TX E G B_40 R t.heap; rw [ht]; exact hT)⟩, hS.F ht⟩) hS.2.2 dX7_sendNext_128
          · simp only [lt_I, le_I, eq_I, i_0, i_1, i_2, i_3, i_4, i_5, i_6, i_7, i_8, i_10, i_12, i_16, i_20, i_23, i_24, i_31, i_32, i_63, i_64, i_m1] at c_38
            refine lv_aload_n hx hb dX7_sendNext_102 rfl (lv_at hl 4 rfl) ?_
            refine lv_iconst (v := 0) hx hb dX7_sendNext_103 (by decide) ?_
            refine rr_put (D := DG E) (ci := 7) (v := .int 0) (ty := .int) (C := RX7) (T := TX7) (N := 14) hx hb hts iw_X7 tyX7 tyX7_ok nmX7 hown hK.1 ha_35 hS (by show G h0 ∈ ([9, 4, 31, 32] : List Nat); rw [hG]; decide) rfl 10 (by decide) (hts _ fl_X7_52) (fun _ h9 => h9) rfl (by decide +kernel) rfl rfl (Nat.le_of_ble_eq_true rfl) dX7_sendNext_104 (fun H locs hn ho hz hS => ?_)
            obtain ⟨B_41, eB_41⟩ : ∃ z : AA, z = uA U_34 h0 (upd (U_34 h0) 10 0) := ⟨_, rfl⟩
            have sB_41 : B_41 h0 10 = 0 := by rw [eB_41, uA_s]; exact upd_s
            have nB_41 : ∀ k, k ≠ 10 → B_41 h0 k = U_34 h0 k := fun k hk => by rw [eB_41, uA_s]; exact upd_n hk
            have fB_41 : ∀ c, G c ≠ 9 → B_41 c = U_34 c := fun c hc => by rw [eB_41]; exact uA_n (fun e => hc (by rw [e]; exact hG))
            have hT : TX E G B_41 R H := by rw [eB_41]; exact hT.w (by rw [hG]; exact hn) ho
            have hWB_41 : TW G B_41 R := by rw [eB_41]; exact hWr_33.w (by rw [hG]; exact tw_9 hWr_33 hG)
            have hW := hWB_41
            refine lv_aload_n hx hb dX7_sendNext_107 rfl (lv_at hl 4 rfl) ?_
            have ha_42 := tx_9 hT hG
            have l_43 : B_41 h0 9 = (B h0 9) := ((nB_41 9 (by decide))).trans ((congrFun (hFr_33 h0 (by rw [hG]; decide)) 9))
            refine va_get (D := DG E) (ci := 7) (v := .int (B_41 h0 9)) (C := RX7) (T := TX7) (N := 14) hx hb hts iw_X7 hown hK.1 (va_one ha_42) 0 rfl rfl 9 (by decide) (hts _ fl_X7_71) (fun _ h9 => h9) rfl dX7_sendNext_108 ?_
            refine W.eq (g2 := F0 m 111 ls [.int (B h0 9)]) (by rw [l_43]) ?_
            refine lv_istore (lv' := [(5, .int (B h0 9)), (4, .int x_29), (3, .int x_11), (2, .ref r_8), (1, .int r_2), (0, .ref h0)]) hx hb dX7_sendNext_111 hl (by decide) rfl (fun ls hl => ?_)
            refine lv_aload_n hx hb dX7_sendNext_113 rfl (lv_at hl 5 rfl) ?_
            refine lv_aload_n hx hb dX7_sendNext_114 rfl (lv_at hl 5 rfl) ?_
            refine va_get (D := DG E) (ci := 7) (v := .int (B_41 h0 9)) (C := RX7) (T := TX7) (N := 14) hx hb hts iw_X7 hown hK.1 (va_one ha_42) 0 rfl rfl 9 (by decide) (hts _ fl_X7_71) (fun _ h9 => h9) rfl dX7_sendNext_115 ?_
            refine W.eq (g2 := F0 m 118 ls [.int (B h0 9), .ref h0]) (by rw [l_43]) ?_
            refine lv_iload hx hb dX7_sendNext_118 (lv_at hl 1 rfl) ?_
            refine rnSN (As := [.int (B h0 9), .int x_29]) (rest := [.ref h0]) ⟨hx, hb, hml, hown, hts⟩ (c_X9_after l ((B h0 9)) x_29) ⟨va_cnB (host := RX9) 2 hts (gd1 co_X9_after rfl) rfl rfl rfl (hK.2.1 _ mn_X7_98 #[]) (hts _ in_X9) (by decide +kernel) ⟨Nat.le_of_ble_eq_true rfl, Nat.le_of_ble_eq_true rfl⟩, hts _ st_X9_after, trivial⟩ rfl rfl hl.1 rfl (lv_room (Nat.le_of_ble_eq_true rfl)) dX7_sendNext_120 ⟨Nat.le_of_ble_eq_true rfl, Nat.le_of_ble_eq_true rfl⟩ ?_
            refine W.eq (g2 := F0 m 123 ls [.int (((B h0 9) + x_29) &&& 63), .ref h0]) (by rfl) ?_
            refine lv_topi (fun x_44 ex_44 => ?_)
            have fx_44 := s_and63 ((B h0 9) + x_29); rw [← ex_44] at fx_44
            refine rr_put (D := DG E) (ci := 7) (v := .int x_44) (ty := .int) (C := RX7) (T := TX7) (N := 14) hx hb hts iw_X7 tyX7 tyX7_ok nmX7 hown hK.1 ha_42 hS (by show G h0 ∈ ([9, 4, 31, 32] : List Nat); rw [hG]; decide) rfl 9 (by decide) (hts _ fl_X7_71) (fun _ h9 => h9) rfl (by decide +kernel) rfl rfl (Nat.le_of_ble_eq_true rfl) dX7_sendNext_123 (fun H locs hn ho hz hS => ?_)
            obtain ⟨B_45, eB_45⟩ : ∃ z : AA, z = uA B_41 h0 (upd (B_41 h0) 9 x_44) := ⟨_, rfl⟩
            have sB_45 : B_45 h0 9 = x_44 := by rw [eB_45, uA_s]; exact upd_s
            have nB_45 : ∀ k, k ≠ 9 → B_45 h0 k = B_41 h0 k := fun k hk => by rw [eB_45, uA_s]; exact upd_n hk
            have fB_45 : ∀ c, G c ≠ 9 → B_45 c = B_41 c := fun c hc => by rw [eB_45]; exact uA_n (fun e => hc (by rw [e]; exact hG))
            have hT : TX E G B_45 R H := by rw [eB_45]; exact hT.w (by rw [hG]; exact hn) ho
            have hWB_45 : TW G B_45 R := by rw [eB_45]; exact hWB_41.w (by rw [hG]; exact tw_9 hWB_41 hG)
            have hW := hWB_45
            refine lv_iload hx hb dX7_sendNext_126 (lv_at hl 0 rfl) ?_
            exact W.iret (v := (B h0 9)) hx hb hr (fun t ht hW9 => ⟨⟨(B h0 9), B_45, rfl, ⟨hW, (Fr.w (Fr.w (Fr.c Fr.rf hFr_33 (by decide)) hG (by decide) eB_41) hG (by decide) eB_45), (Or.inr (Or.inr (Or.inr (Or.inr (Or.inr (Or.inl ⟨r_2, hCr_2, c_4, c_5, r_8, hCr_8, x_11, ex_11, c_12, x_29, ex_29, x_30, ex_30, x_31, ex_31, c_32, U_34, hFr_33, hCr_33, c_38, B_41, eB_41, x_44, ex_44, B_45, eB_45, rfl, rfl⟩))))))⟩, (by show TX E G B_45 R t.heap; rw [ht]; exact hT)⟩, hS.F ht⟩) hS.2.2 dX7_sendNext_128
        · simp only [lt_I, le_I, eq_I, i_0, i_1, i_2, i_3, i_4, i_5, i_6, i_7, i_8, i_10, i_12, i_16, i_20, i_23, i_24, i_31, i_32, i_63, i_64, i_m1] at c_32
          refine lv_iconst (v := (-1)) hx hb dX7_sendNext_83 (by decide) ?_
          exact W.iret (v := (-1)) hx hb hr (fun t ht hW9 => ⟨⟨(-1), B, rfl, ⟨hW, Fr.rf, (Or.inr (Or.inr (Or.inr (Or.inr (Or.inr (Or.inr (Or.inl ⟨r_2, hCr_2, c_4, c_5, r_8, hCr_8, x_11, ex_11, c_12, x_29, ex_29, x_30, ex_30, x_31, ex_31, c_32, rfl, rfl⟩)))))))⟩, (by show TX E G B R t.heap; rw [ht]; exact hT)⟩, hS.F ht⟩) hS.2.2 dX7_sendNext_84
    · simp only [lt_I, le_I, eq_I, i_0, i_1, i_2, i_3, i_4, i_5, i_6, i_7, i_8, i_10, i_12, i_16, i_20, i_23, i_24, i_31, i_32, i_63, i_64, i_m1] at c_5
      refine lv_iconst (v := (-1)) hx hb dX7_sendNext_21 (by decide) ?_
      exact W.iret (v := (-1)) hx hb hr (fun t ht hW9 => ⟨⟨(-1), B, rfl, ⟨hW, Fr.rf, (Or.inr (Or.inr (Or.inr (Or.inr (Or.inr (Or.inr (Or.inr ⟨r_2, hCr_2, c_4, c_5, rfl, rfl⟩)))))))⟩, (by show TX E G B R t.heap; rw [ht]; exact hT)⟩, hS.F ht⟩) hS.2.2 dX7_sendNext_22
theorem gdX7_takeReply_0 : (decode cX7_takeReply 0 = .ok (.aload_n 1, 1)) ∧ (decode cX7_takeReply 1 = .ok (.getfield 168, 3)) ∧ (decode cX7_takeReply 4 = .ok (.aload_n 0, 1)) ∧ (decode cX7_takeReply 5 = .ok (.getfield 68, 3)) ∧ (decode cX7_takeReply 8 = .ok (.if_icmp .ne 25, 3)) ∧ (decode cX7_takeReply 11 = .ok (.aload_n 0, 1)) ∧ (decode cX7_takeReply 12 = .ok (.getfield 71, 3)) ∧ (decode cX7_takeReply 15 = .ok (.aload_n 0, 1)) ∧ (decode cX7_takeReply 16 = .ok (.getfield 68, 3)) ∧ (decode cX7_takeReply 19 = .ok (.if_icmp .eq 14, 3)) ∧ (decode cX7_takeReply 22 = .ok (.aload_n 0, 1)) ∧ (decode cX7_takeReply 23 = .ok (.aload_n 0, 1)) ∧ (decode cX7_takeReply 24 = .ok (.getfield 68, 3)) ∧ (decode cX7_takeReply 27 = .ok (.invokevirtual 159, 3)) ∧ (decode cX7_takeReply 30 = .ok (.ifCond .ne 4, 3)) ∧ (decode cX7_takeReply 33 = .ok (.return_, 1)) := by decide +kernel
theorem dX7_takeReply_0 : decode cX7_takeReply 0 = .ok (.aload_n 1, 1) := gdX7_takeReply_0.1
theorem dX7_takeReply_1 : decode cX7_takeReply 1 = .ok (.getfield 168, 3) := gdX7_takeReply_0.2.1
theorem dX7_takeReply_4 : decode cX7_takeReply 4 = .ok (.aload_n 0, 1) := gdX7_takeReply_0.2.2.1
theorem dX7_takeReply_5 : decode cX7_takeReply 5 = .ok (.getfield 68, 3) := gdX7_takeReply_0.2.2.2.1
theorem dX7_takeReply_8 : decode cX7_takeReply 8 = .ok (.if_icmp .ne 25, 3) := gdX7_takeReply_0.2.2.2.2.1
theorem dX7_takeReply_11 : decode cX7_takeReply 11 = .ok (.aload_n 0, 1) := gdX7_takeReply_0.2.2.2.2.2.1
theorem dX7_takeReply_12 : decode cX7_takeReply 12 = .ok (.getfield 71, 3) := gdX7_takeReply_0.2.2.2.2.2.2.1
theorem dX7_takeReply_15 : decode cX7_takeReply 15 = .ok (.aload_n 0, 1) := gdX7_takeReply_0.2.2.2.2.2.2.2.1
theorem dX7_takeReply_16 : decode cX7_takeReply 16 = .ok (.getfield 68, 3) := gdX7_takeReply_0.2.2.2.2.2.2.2.2.1
theorem dX7_takeReply_19 : decode cX7_takeReply 19 = .ok (.if_icmp .eq 14, 3) := gdX7_takeReply_0.2.2.2.2.2.2.2.2.2.1
theorem dX7_takeReply_22 : decode cX7_takeReply 22 = .ok (.aload_n 0, 1) := gdX7_takeReply_0.2.2.2.2.2.2.2.2.2.2.1
theorem dX7_takeReply_23 : decode cX7_takeReply 23 = .ok (.aload_n 0, 1) := gdX7_takeReply_0.2.2.2.2.2.2.2.2.2.2.2.1
theorem dX7_takeReply_24 : decode cX7_takeReply 24 = .ok (.getfield 68, 3) := gdX7_takeReply_0.2.2.2.2.2.2.2.2.2.2.2.2.1
theorem dX7_takeReply_27 : decode cX7_takeReply 27 = .ok (.invokevirtual 159, 3) := gdX7_takeReply_0.2.2.2.2.2.2.2.2.2.2.2.2.2.1
theorem dX7_takeReply_30 : decode cX7_takeReply 30 = .ok (.ifCond .ne 4, 3) := gdX7_takeReply_0.2.2.2.2.2.2.2.2.2.2.2.2.2.2.1
theorem dX7_takeReply_33 : decode cX7_takeReply 33 = .ok (.return_, 1) := gdX7_takeReply_0.2.2.2.2.2.2.2.2.2.2.2.2.2.2.2
theorem gdX7_takeReply_34 : (decode cX7_takeReply 34 = .ok (.aload_n 0, 1)) ∧ (decode cX7_takeReply 35 = .ok (.getfield 41, 3)) ∧ (decode cX7_takeReply 38 = .ok (.iconst 0, 1)) ∧ (decode cX7_takeReply 39 = .ok (.invokevirtual 108, 3)) ∧ (decode cX7_takeReply 42 = .ok (.astore_n 2, 1)) ∧ (decode cX7_takeReply 43 = .ok (.aload_n 2, 1)) ∧ (decode cX7_takeReply 44 = .ok (.getfield 78, 3)) ∧ (decode cX7_takeReply 47 = .ok (.aload_n 0, 1)) ∧ (decode cX7_takeReply 48 = .ok (.getfield 68, 3)) ∧ (decode cX7_takeReply 51 = .ok (.invokestatic 112, 3)) ∧ (decode cX7_takeReply 54 = .ok (.istore_n 3, 1)) ∧ (decode cX7_takeReply 55 = .ok (.aload_n 1, 1)) ∧ (decode cX7_takeReply 56 = .ok (.aload_n 0, 1)) ∧ (decode cX7_takeReply 57 = .ok (.getfield 19, 3)) ∧ (decode cX7_takeReply 60 = .ok (.aload_n 2, 1)) ∧ (decode cX7_takeReply 61 = .ok (.getfield 146, 3)) := by decide +kernel
theorem dX7_takeReply_34 : decode cX7_takeReply 34 = .ok (.aload_n 0, 1) := gdX7_takeReply_34.1
theorem dX7_takeReply_35 : decode cX7_takeReply 35 = .ok (.getfield 41, 3) := gdX7_takeReply_34.2.1
theorem dX7_takeReply_38 : decode cX7_takeReply 38 = .ok (.iconst 0, 1) := gdX7_takeReply_34.2.2.1
theorem dX7_takeReply_39 : decode cX7_takeReply 39 = .ok (.invokevirtual 108, 3) := gdX7_takeReply_34.2.2.2.1
theorem dX7_takeReply_42 : decode cX7_takeReply 42 = .ok (.astore_n 2, 1) := gdX7_takeReply_34.2.2.2.2.1
theorem dX7_takeReply_43 : decode cX7_takeReply 43 = .ok (.aload_n 2, 1) := gdX7_takeReply_34.2.2.2.2.2.1
theorem dX7_takeReply_44 : decode cX7_takeReply 44 = .ok (.getfield 78, 3) := gdX7_takeReply_34.2.2.2.2.2.2.1
theorem dX7_takeReply_47 : decode cX7_takeReply 47 = .ok (.aload_n 0, 1) := gdX7_takeReply_34.2.2.2.2.2.2.2.1
theorem dX7_takeReply_48 : decode cX7_takeReply 48 = .ok (.getfield 68, 3) := gdX7_takeReply_34.2.2.2.2.2.2.2.2.1
theorem dX7_takeReply_51 : decode cX7_takeReply 51 = .ok (.invokestatic 112, 3) := gdX7_takeReply_34.2.2.2.2.2.2.2.2.2.1
theorem dX7_takeReply_54 : decode cX7_takeReply 54 = .ok (.istore_n 3, 1) := gdX7_takeReply_34.2.2.2.2.2.2.2.2.2.2.1
theorem dX7_takeReply_55 : decode cX7_takeReply 55 = .ok (.aload_n 1, 1) := gdX7_takeReply_34.2.2.2.2.2.2.2.2.2.2.2.1
theorem dX7_takeReply_56 : decode cX7_takeReply 56 = .ok (.aload_n 0, 1) := gdX7_takeReply_34.2.2.2.2.2.2.2.2.2.2.2.2.1
theorem dX7_takeReply_57 : decode cX7_takeReply 57 = .ok (.getfield 19, 3) := gdX7_takeReply_34.2.2.2.2.2.2.2.2.2.2.2.2.2.1
theorem dX7_takeReply_60 : decode cX7_takeReply 60 = .ok (.aload_n 2, 1) := gdX7_takeReply_34.2.2.2.2.2.2.2.2.2.2.2.2.2.2.1
theorem dX7_takeReply_61 : decode cX7_takeReply 61 = .ok (.getfield 146, 3) := gdX7_takeReply_34.2.2.2.2.2.2.2.2.2.2.2.2.2.2.2
theorem gdX7_takeReply_64 : (decode cX7_takeReply 64 = .ok (.iconst 4, 1)) ∧ (decode cX7_takeReply 65 = .ok (.iload_n 3, 1)) ∧ (decode cX7_takeReply 66 = .ok (.imul, 1)) ∧ (decode cX7_takeReply 67 = .ok (.iadd, 1)) ∧ (decode cX7_takeReply 68 = .ok (.aload_n 2, 1)) ∧ (decode cX7_takeReply 69 = .ok (.iload_n 3, 1)) ∧ (decode cX7_takeReply 70 = .ok (.invokevirtual 149, 3)) ∧ (decode cX7_takeReply 73 = .ok (.invokevirtual 171, 3)) ∧ (decode cX7_takeReply 76 = .ok (.aload_n 0, 1)) ∧ (decode cX7_takeReply 77 = .ok (.iconst 1, 1)) ∧ (decode cX7_takeReply 78 = .ok (.invokevirtual 162, 3)) ∧ (decode cX7_takeReply 81 = .ok (.return_, 1)) := by decide +kernel
theorem dX7_takeReply_64 : decode cX7_takeReply 64 = .ok (.iconst 4, 1) := gdX7_takeReply_64.1
theorem dX7_takeReply_65 : decode cX7_takeReply 65 = .ok (.iload_n 3, 1) := gdX7_takeReply_64.2.1
theorem dX7_takeReply_66 : decode cX7_takeReply 66 = .ok (.imul, 1) := gdX7_takeReply_64.2.2.1
theorem dX7_takeReply_67 : decode cX7_takeReply 67 = .ok (.iadd, 1) := gdX7_takeReply_64.2.2.2.1
theorem dX7_takeReply_68 : decode cX7_takeReply 68 = .ok (.aload_n 2, 1) := gdX7_takeReply_64.2.2.2.2.1
theorem dX7_takeReply_69 : decode cX7_takeReply 69 = .ok (.iload_n 3, 1) := gdX7_takeReply_64.2.2.2.2.2.1
theorem dX7_takeReply_70 : decode cX7_takeReply 70 = .ok (.invokevirtual 149, 3) := gdX7_takeReply_64.2.2.2.2.2.2.1
theorem dX7_takeReply_73 : decode cX7_takeReply 73 = .ok (.invokevirtual 171, 3) := gdX7_takeReply_64.2.2.2.2.2.2.2.1
theorem dX7_takeReply_76 : decode cX7_takeReply 76 = .ok (.aload_n 0, 1) := gdX7_takeReply_64.2.2.2.2.2.2.2.2.1
theorem dX7_takeReply_77 : decode cX7_takeReply 77 = .ok (.iconst 1, 1) := gdX7_takeReply_64.2.2.2.2.2.2.2.2.2.1
theorem dX7_takeReply_78 : decode cX7_takeReply 78 = .ok (.invokevirtual 162, 3) := gdX7_takeReply_64.2.2.2.2.2.2.2.2.2.2.1
theorem dX7_takeReply_81 : decode cX7_takeReply 81 = .ok (.return_, 1) := gdX7_takeReply_64.2.2.2.2.2.2.2.2.2.2.2
set_option maxHeartbeats 8000000 in
set_option maxRecDepth 100000 in
theorem x_X7_takeReply (l : Launch) (E : EE) (z0 : Nat) (G : Nat → Nat) (hGz : ∀ q, G q ≠ 0 → z0 ≤ q) (B : AA) (R : RR) (hW : TW G B R) (h0 : Nat) (p0 : Nat) (hG : G h0 = 9) (hG0 : G p0 = 31) : Met l yX7_takeReply [Cond.code yX7_takeReply cX7_takeReply 4 none] ({ frames := 3, cells := 0, slots := 0, locals := 67 } : Room) (va_Pc [.ref h0, .ref p0] (fun U => TX E G B R U.heap ∧ KS E z0 U)) (va_Qv (fun (u : AA) => (TW G u R) ∧ (Fr G ([14, 9, 11, 5, 15] : List Nat) B u) ∧ (C_X7_takeReply G B R h0 p0 u)) (fun u t => TX E G u R t.heap) (fun q : Nat => G q ∈ ([14, 9, 11, 5, 15] : List Nat))) 0 0 (fun q : Nat => G q ∈ ([14, 9, 11, 5, 15] : List Nat)) := by
  refine Met.ofW (cc := cX7_takeReply) (maxL := 4) (ret := none) (by decide) rfl ?_
  intro p e s m args below meth c s₁ B9 hml hv
  obtain ⟨rfl, hT, hK⟩ := hv
  have hx := B9.exec
  have hb := B9.bytes
  have hr := B9.returns
  have hts : ∀ w ∈ TS, w.before ([.ref h0, .ref p0] : List Value).toArray s = true := fun w hw => hK.2.1 w hw _
  have hown : s.vm.findClass RX7 = some m.cls := findClass_of_methodNamed B9.named
  have hlocks := B9.notSynchronized
  have hS : va_S (fun q : Nat => G q ∈ ([14, 9, 11, 5, 15] : List Nat)) s.heap s.heap [] := va_S.rf
  have hAz : ∀ q, (fun q : Nat => G q ∈ ([14, 9, 11, 5, 15] : List Nat)) q → z0 ≤ q := zL hGz (by decide)
  have hW_0 := hW
  have hl := lv_entry ([.ref h0, .ref p0]) (n := 4) (Nat.le_of_ble_eq_true rfl)
  rw [lg_entry_eq]
  generalize (lg_sl ([.ref h0, .ref p0]) ++ List.replicate (4 - (lg_sl ([.ref h0, .ref p0])).length) Slot.unset).toArray = ls at hl ⊢
  have hl : lv_has ls 4 [(0, .ref h0), (1, .ref p0)] := hl
  refine lv_aload_n hx hb dX7_takeReply_0 rfl (lv_at hl 1 rfl) ?_
  have ha_1 := tx_31 hT hG0
  refine va_get (D := DG E) (ci := 2) (v := .int (B p0 2)) (C := RX2) (T := TX2) (N := 8) hx hb hts iw_X2 hown hK.1 (va_one ha_1) 0 rfl rfl 2 (by decide) (hts _ fl_X7_168) (fun _ h9 => h9) rfl dX7_takeReply_1 ?_
  refine lv_aload_n hx hb dX7_takeReply_4 rfl (lv_at hl 0 rfl) ?_
  have ha_2 := tx_9 hT hG
  refine va_get (D := DG E) (ci := 7) (v := .int (B h0 8)) (C := RX7) (T := TX7) (N := 14) hx hb hts iw_X7 hown hK.1 (va_one ha_2) 0 rfl rfl 8 (by decide) (hts _ fl_X7_68) (fun _ h9 => h9) rfl dX7_takeReply_5 ?_
  refine lv_icmp_ne (tgt := 33) hx hb dX7_takeReply_8 (by decide) (fun c_3 => ?_) (fun c_3 => ?_)
  · simp only [lt_I, le_I, eq_I, i_0, i_1, i_2, i_3, i_4, i_5, i_6, i_7, i_8, i_10, i_12, i_16, i_20, i_23, i_24, i_31, i_32, i_63, i_64, i_m1] at c_3
    exact W.vret hx hb hr (fun t ht hW9 => ⟨⟨B, rfl, ⟨hW, Fr.rf, (Or.inl ⟨c_3, rfl⟩)⟩, (by show TX E G B R t.heap; rw [ht]; exact hT)⟩, hS.F ht⟩) hS.2.2 dX7_takeReply_33
  · simp only [lt_I, le_I, eq_I, i_0, i_1, i_2, i_3, i_4, i_5, i_6, i_7, i_8, i_10, i_12, i_16, i_20, i_23, i_24, i_31, i_32, i_63, i_64, i_m1] at c_3
    refine lv_aload_n hx hb dX7_takeReply_11 rfl (lv_at hl 0 rfl) ?_
    refine va_get (D := DG E) (ci := 7) (v := .int (B h0 9)) (C := RX7) (T := TX7) (N := 14) hx hb hts iw_X7 hown hK.1 (va_one ha_2) 0 rfl rfl 9 (by decide) (hts _ fl_X7_71) (fun _ h9 => h9) rfl dX7_takeReply_12 ?_
    refine lv_aload_n hx hb dX7_takeReply_15 rfl (lv_at hl 0 rfl) ?_
    refine va_get (D := DG E) (ci := 7) (v := .int (B h0 8)) (C := RX7) (T := TX7) (N := 14) hx hb hts iw_X7 hown hK.1 (va_one ha_2) 0 rfl rfl 8 (by decide) (hts _ fl_X7_68) (fun _ h9 => h9) rfl dX7_takeReply_16 ?_
    refine lv_icmp_eq (tgt := 33) hx hb dX7_takeReply_19 (by decide) (fun c_4 => ?_) (fun c_4 => ?_)
    · simp only [lt_I, le_I, eq_I, i_0, i_1, i_2, i_3, i_4, i_5, i_6, i_7, i_8, i_10, i_12, i_16, i_20, i_23, i_24, i_31, i_32, i_63, i_64, i_m1] at c_4
      exact W.vret hx hb hr (fun t ht hW9 => ⟨⟨B, rfl, ⟨hW, Fr.rf, (Or.inr (Or.inl ⟨c_3, c_4, rfl⟩))⟩, (by show TX E G B R t.heap; rw [ht]; exact hT)⟩, hS.F ht⟩) hS.2.2 dX7_takeReply_33
    · simp only [lt_I, le_I, eq_I, i_0, i_1, i_2, i_3, i_4, i_5, i_6, i_7, i_8, i_10, i_12, i_16, i_20, i_23, i_24, i_31, i_32, i_63, i_64, i_m1] at c_4
      refine lv_aload_n hx hb dX7_takeReply_22 rfl (lv_at hl 0 rfl) ?_
      refine lv_aload_n hx hb dX7_takeReply_23 rfl (lv_at hl 0 rfl) ?_
      refine va_get (D := DG E) (ci := 7) (v := .int (B h0 8)) (C := RX7) (T := TX7) (N := 14) hx hb hts iw_X7 hown hK.1 (va_one ha_2) 0 rfl rfl 8 (by decide) (hts _ fl_X7_68) (fun _ h9 => h9) rfl dX7_takeReply_24 ?_
      refine va_calli (rnV (fun H => TX E G B R H) (As := [.int (B h0 8)]) (rest := []) ⟨hx, hb, hml, hown, hts⟩ (x_X7_awaitsReply l E z0 G hGz B R hW h0 (B h0 8) hG) (cwV 1 hts (gdV ml_X7_159 im_X7_awaitsReply se_X7_X7_awaitsReply in_X7 co_X7_awaitsReply rfl) rfl rfl rfl (by decide +kernel) ⟨Nat.le_of_ble_eq_true rfl, Nat.le_of_ble_eq_true rfl⟩) hT (fun U hU hW => hK.go hW hS hAz hU) (va_recv hK.1 (va_one ha_2) (ci := 7) (q0 := 0) rfl rfl) rfl rfl hl.1 rfl (lv_room (Nat.le_of_ble_eq_true rfl)) dX7_takeReply_27 ⟨Nat.le_of_ble_eq_true rfl, Nat.le_of_ble_eq_true rfl⟩) hS (fun q _ h => h.elim) (fun q h => h.elim) (fun r_5 _ t H locs ht hvm hwr_5 hB hz hk hS => ?_)
      have hT : TX E G B R H := hT.kept (fun q hq => hk q hq (fun h => h))
      have hbr_5 : r_5 = 0 ∨ r_5 = 1 := hwr_5.1
      have hCr_5 : C_X7_awaitsReply G B R h0 (B h0 8) r_5 := hwr_5.2
      have hzr_5 := s_rng hbr_5
      refine lv_if_ne (tgt := 34) hx hb dX7_takeReply_30 (by decide) (fun c_6 => ?_) (fun c_6 => ?_)
      · simp only [lt_I, le_I, eq_I, i_0, i_1, i_2, i_3, i_4, i_5, i_6, i_7, i_8, i_10, i_12, i_16, i_20, i_23, i_24, i_31, i_32, i_63, i_64, i_m1] at c_6
        refine lv_aload_n hx hb dX7_takeReply_34 rfl (lv_at hl 0 rfl) ?_
        have ha_7 := tx_9 hT hG
        have hg_8 : G (R h0 6) = 11 := (tw_9 hW hG).2.2.2
        refine va_get (D := DG E) (ci := 7) (v := .ref (R h0 6)) (C := RX7) (T := TX7) (N := 14) hx hb hts iw_X7 hown hK.1 (va_one ha_7) 0 rfl rfl 6 (by decide) (hts _ fl_X7_41) (fun _ h9 => h9) rfl dX7_takeReply_35 ?_
        refine lv_iconst (v := 0) hx hb dX7_takeReply_38 (by decide) ?_
        have ha_9 := tx_11 hT hg_8
        refine va_callr (rnV (fun H => TX E G B R H) (As := [.int 0]) (rest := []) ⟨hx, hb, hml, hown, hts⟩ (x_X5_at l E z0 G hGz B R hW (R h0 6) (0 : Int32) hg_8 (show 0 ≤ (0 : Int32).toInt ∧ (0 : Int32).toInt ≤ 4 from by have := i_0; first | decide | omega)) (cwV 1 hts (gdV ml_X7_108 im_X5_at se_X5_X5_at in_X5 co_X5_at rfl) rfl rfl rfl (by decide +kernel) ⟨Nat.le_of_ble_eq_true rfl, Nat.le_of_ble_eq_true rfl⟩) hT (fun U hU hW => hK.go hW hS hAz hU) (va_recv hK.1 (va_one ha_9) (ci := 5) (q0 := 0) rfl rfl) rfl rfl hl.1 rfl (lv_room (Nat.le_of_ble_eq_true rfl)) dX7_takeReply_39 ⟨Nat.le_of_ble_eq_true rfl, Nat.le_of_ble_eq_true rfl⟩) hS (fun q _ h => h.elim) (fun q h => h.elim) (fun _ r_10 t H locs ht hvm hwr_10 hB hz hk hS => ?_)
        have hT : TX E G B R H := hT.kept (fun q hq => hk q hq (fun h => h))
        have hRr_10 := hB
        have hgr_10 : G r_10 = 13 := hRr_10.1
        have hCr_10 : C_X5_at G B R (R h0 6) (0 : Int32) r_10 := hRr_10.2
        refine lv_astore_n (lv' := [(2, .ref r_10), (0, .ref h0), (1, .ref p0)]) hx hb dX7_takeReply_42 rfl hl (by decide) rfl (fun ls hl => ?_)
        refine lv_aload_n hx hb dX7_takeReply_43 rfl (lv_at hl 0 rfl) ?_
        have ha_11 := tx_13 hT hgr_10
        refine va_get (D := DG E) (ci := 4) (v := .int (B r_10 4)) (C := RX4) (T := TX4) (N := 10) hx hb hts iw_X4 hown hK.1 (va_one ha_11) 0 rfl rfl 4 (by decide) (hts _ fl_X7_78) (fun _ h9 => h9) rfl dX7_takeReply_44 ?_
        refine lv_aload_n hx hb dX7_takeReply_47 rfl (lv_at hl 1 rfl) ?_
        have ha_12 := tx_9 hT hG
        refine va_get (D := DG E) (ci := 7) (v := .int (B h0 8)) (C := RX7) (T := TX7) (N := 14) hx hb hts iw_X7 hown hK.1 (va_one ha_12) 0 rfl rfl 8 (by decide) (hts _ fl_X7_68) (fun _ h9 => h9) rfl dX7_takeReply_48 ?_
        refine rnSN (As := [.int (B r_10 4), .int (B h0 8)]) (rest := []) ⟨hx, hb, hml, hown, hts⟩ (c_X9_distance l ((B r_10 4)) ((B h0 8))) ⟨va_cnB (host := RX9) 2 hts (gd1 co_X9_distance rfl) rfl rfl rfl (hK.2.1 _ mn_X7_112 #[]) (hts _ in_X9) (by decide +kernel) ⟨Nat.le_of_ble_eq_true rfl, Nat.le_of_ble_eq_true rfl⟩, hts _ st_X9_distance, trivial⟩ rfl rfl hl.1 rfl (lv_room (Nat.le_of_ble_eq_true rfl)) dX7_takeReply_51 ⟨Nat.le_of_ble_eq_true rfl, Nat.le_of_ble_eq_true rfl⟩ ?_
        refine W.eq (g2 := F0 m 54 ls [.int (((B h0 8) - (B r_10 4)) &&& 63)]) (by rfl) ?_
        refine lv_topi (fun x_13 ex_13 => ?_)
        have fx_13 := s_and63 ((B h0 8) - (B r_10 4)); rw [← ex_13] at fx_13
        refine lv_istore_n (lv' := [(3, .int x_13), (2, .ref r_10), (0, .ref h0), (1, .ref p0)]) hx hb dX7_takeReply_54 rfl hl (by decide) rfl (fun ls hl => ?_)
        refine lv_aload_n hx hb dX7_takeReply_55 rfl (lv_at hl 3 rfl) ?_
        refine lv_aload_n hx hb dX7_takeReply_56 rfl (lv_at hl 2 rfl) ?_
        have hg_14 : G (R h0 1) = 5 := (tw_9 hW hG).2.1
        refine va_get (D := DG E) (ci := 7) (v := .ref (R h0 1)) (C := RX7) (T := TX7) (N := 14) hx hb hts iw_X7 hown hK.1 (va_one ha_12) 0 rfl rfl 1 (by decide) (hts _ fl_X7_19) (fun _ h9 => h9) rfl dX7_takeReply_57 ?_
        refine lv_aload_n hx hb dX7_takeReply_60 rfl (lv_at hl 1 rfl) ?_
        refine va_get (D := DG E) (ci := 4) (v := .int (B r_10 2)) (C := RX4) (T := TX4) (N := 10) hx hb hts iw_X4 hown hK.1 (va_one ha_11) 0 rfl rfl 2 (by decide) (hts _ fl_X7_146) (fun _ h9 => h9) rfl dX7_takeReply_61 ?_
        refine lv_iconst (v := 4) hx hb dX7_takeReply_64 (by decide) ?_
        refine lv_iload_n hx hb dX7_takeReply_65 rfl (lv_at hl 0 rfl) ?_
        refine lv_imul hx hb dX7_takeReply_66 ?_
        refine lv_topi (fun x_15 ex_15 => ?_)
        have fx_15 : x_15.toInt = 4 * x_13.toInt := by rw [ex_15]; exact s_mulK i_4 (by omega) (by omega)
        refine lv_iadd hx hb dX7_takeReply_67 ?_
        refine lv_topi (fun x_16 ex_16 => ?_)
        refine lv_aload_n hx hb dX7_takeReply_68 rfl (lv_at hl 1 rfl) ?_
        refine lv_iload_n hx hb dX7_takeReply_69 rfl (lv_at hl 0 rfl) ?_
        refine va_calli (rnV (fun H => TX E G B R H) (As := [.int x_13]) (rest := [.int x_16, .ref (R h0 1), .ref p0]) ⟨hx, hb, hml, hown, hts⟩ (x_X4_cellsOf l E z0 G hGz B R hW r_10 x_13 hgr_10) (cwV 1 hts (gdV ml_X7_149 im_X4_cellsOf se_X4_X4_cellsOf in_X4 co_X4_cellsOf rfl) rfl rfl rfl (by decide +kernel) ⟨Nat.le_of_ble_eq_true rfl, Nat.le_of_ble_eq_true rfl⟩) hT (fun U hU hW => hK.go hW hS hAz hU) (va_recv hK.1 (va_one ha_11) (ci := 4) (q0 := 0) rfl rfl) rfl rfl hl.1 rfl (lv_room (Nat.le_of_ble_eq_true rfl)) dX7_takeReply_70 ⟨Nat.le_of_ble_eq_true rfl, Nat.le_of_ble_eq_true rfl⟩) hS (fun q _ h => h.elim) (fun q h => h.elim) (fun r_17 _ t H locs ht hvm hwr_17 hB hz hk hS => ?_)
        have hT : TX E G B R H := hT.kept (fun q hq => hk q hq (fun h => h))
        have hCr_17 : C_X4_cellsOf G B R r_10 x_13 r_17 := hwr_17
        have ha_18 := tx_31 hT hG0
        refine va_callv (rnV (fun H => TX E G B R H) (As := [.ref (R h0 1), .int x_16, .int r_17]) (rest := []) ⟨hx, hb, hml, hown, hts⟩ (x_X2_unload l E z0 G hGz B R hW p0 (R h0 1) x_16 r_17 hG0 hg_14) (cwV 3 hts (gdV ml_X7_171 im_X2_unload se_X2_X2_unload in_X2 co_X2_unload rfl) rfl rfl rfl (by decide +kernel) ⟨Nat.le_of_ble_eq_true rfl, Nat.le_of_ble_eq_true rfl⟩) hT (fun U hU hW => hK.go hW hS hAz hU) (va_recv hK.1 (va_one ha_18) (ci := 2) (q0 := 0) rfl rfl) rfl rfl hl.1 rfl (lv_room (Nat.le_of_ble_eq_true rfl)) dX7_takeReply_73 ⟨Nat.le_of_ble_eq_true rfl, Nat.le_of_ble_eq_true rfl⟩) hS (fun q _ h => mL (L' := [14]) (L := [14, 9, 11, 5, 15]) (by decide) h) (fun q h => mL (L' := [14]) (L := [14, 9, 11, 5, 15]) (by decide) h) (fun U_20 t H locs ht hvm hwr_19 hB hz hk hS => ?_)
        have hT : TX E G U_20 R H := by rw [ht] at hB; exact hB
        have hWr_19 : TW G U_20 R := hwr_19.1
        have hW := hWr_19
        have hFr_19 : Fr G [14] B U_20 := hwr_19.2.1
        have hCr_19 : C_X2_unload G B R p0 (R h0 1) x_16 r_17 U_20 := hwr_19.2.2
        refine lv_aload_n hx hb dX7_takeReply_76 rfl (lv_at hl 2 rfl) ?_
        refine lv_iconst (v := 1) hx hb dX7_takeReply_77 (by decide) ?_
        have ha_21 := tx_9 hT hG
        refine va_callv (rnV (fun H => TX E G U_20 R H) (As := [.int 1]) (rest := []) ⟨hx, hb, hml, hown, hts⟩ (x_X7_answer l E z0 G hGz U_20 R hW h0 (1 : Int32) hG) (cwV 1 hts (gdV ml_X7_162 im_X7_answer se_X7_X7_answer in_X7 co_X7_answer rfl) rfl rfl rfl (by decide +kernel) ⟨Nat.le_of_ble_eq_true rfl, Nat.le_of_ble_eq_true rfl⟩) hT (fun U hU hW => hK.go hW hS hAz hU) (va_recv hK.1 (va_one ha_21) (ci := 7) (q0 := 0) rfl rfl) rfl rfl hl.1 rfl (lv_room (Nat.le_of_ble_eq_true rfl)) dX7_takeReply_78 ⟨Nat.le_of_ble_eq_true rfl, Nat.le_of_ble_eq_true rfl⟩) hS (fun q _ h => mL (L' := [9, 11, 5, 15]) (L := [14, 9, 11, 5, 15]) (by decide) h) (fun q h => mL (L' := [9, 11, 5, 15]) (L := [14, 9, 11, 5, 15]) (by decide) h) (fun U_23 t H locs ht hvm hwr_22 hB hz hk hS => ?_)
        have hT : TX E G U_23 R H := by rw [ht] at hB; exact hB
        have hWr_22 : TW G U_23 R := hwr_22.1
        have hW := hWr_22
        have hFr_22 : Fr G [9, 11, 5, 15] U_20 U_23 := hwr_22.2.1
        have hCr_22 : C_X7_answer G U_20 R h0 (1 : Int32) U_23 := hwr_22.2.2
        exact W.vret hx hb hr (fun t ht hW9 => ⟨⟨U_23, rfl, ⟨hW, (Fr.c (Fr.c Fr.rf hFr_19 (by decide)) hFr_22 (by decide)), (Or.inr (Or.inr (Or.inl ⟨c_3, c_4, r_5, hCr_5, c_6, r_10, hCr_10, x_13, ex_13, x_15, ex_15, fx_15, x_16, ex_16, r_17, hCr_17, U_20, hFr_19, hCr_19, U_23, hFr_22, hCr_22, rfl⟩)))⟩, (by show TX E G U_23 R t.heap; rw [ht]; exact hT)⟩, hS.F ht⟩) hS.2.2 dX7_takeReply_81
      · simp only [lt_I, le_I, eq_I, i_0, i_1, i_2, i_3, i_4, i_5, i_6, i_7, i_8, i_10, i_12, i_16, i_20, i_23, i_24, i_31, i_32, i_63, i_64, i_m1] at c_6
        exact W.vret hx hb hr (fun t ht hW9 => ⟨⟨B, rfl, ⟨hW, Fr.rf, (Or.inr (Or.inr (Or.inr ⟨c_3, c_4, r_5, hCr_5, c_6, rfl⟩)))⟩, (by show TX E G B R t.heap; rw [ht]; exact hT)⟩, hS.F ht⟩) hS.2.2 dX7_takeReply_33
theorem gdX7_waitsTooLong_0 : (decode cX7_waitsTooLong 0 = .ok (.aload_n 0, 1)) ∧ (decode cX7_waitsTooLong 1 = .ok (.getfield 71, 3)) ∧ (decode cX7_waitsTooLong 4 = .ok (.aload_n 0, 1)) ∧ (decode cX7_waitsTooLong 5 = .ok (.getfield 68, 3)) ∧ (decode cX7_waitsTooLong 8 = .ok (.if_icmp .ne 12, 3)) ∧ (decode cX7_waitsTooLong 11 = .ok (.aload_n 0, 1)) ∧ (decode cX7_waitsTooLong 12 = .ok (.getfield 61, 3)) ∧ (decode cX7_waitsTooLong 15 = .ok (.ifCond .ne 5, 3)) ∧ (decode cX7_waitsTooLong 18 = .ok (.iconst 0, 1)) ∧ (decode cX7_waitsTooLong 19 = .ok (.ireturn, 1)) ∧ (decode cX7_waitsTooLong 20 = .ok (.aload_n 0, 1)) ∧ (decode cX7_waitsTooLong 21 = .ok (.dup, 1)) ∧ (decode cX7_waitsTooLong 22 = .ok (.getfield 52, 3)) ∧ (decode cX7_waitsTooLong 25 = .ok (.iconst 1, 1)) ∧ (decode cX7_waitsTooLong 26 = .ok (.iadd, 1)) ∧ (decode cX7_waitsTooLong 27 = .ok (.putfield 52, 3)) := by decide +kernel
theorem dX7_waitsTooLong_0 : decode cX7_waitsTooLong 0 = .ok (.aload_n 0, 1) := gdX7_waitsTooLong_0.1
theorem dX7_waitsTooLong_1 : decode cX7_waitsTooLong 1 = .ok (.getfield 71, 3) := gdX7_waitsTooLong_0.2.1
theorem dX7_waitsTooLong_4 : decode cX7_waitsTooLong 4 = .ok (.aload_n 0, 1) := gdX7_waitsTooLong_0.2.2.1
theorem dX7_waitsTooLong_5 : decode cX7_waitsTooLong 5 = .ok (.getfield 68, 3) := gdX7_waitsTooLong_0.2.2.2.1
theorem dX7_waitsTooLong_8 : decode cX7_waitsTooLong 8 = .ok (.if_icmp .ne 12, 3) := gdX7_waitsTooLong_0.2.2.2.2.1
theorem dX7_waitsTooLong_11 : decode cX7_waitsTooLong 11 = .ok (.aload_n 0, 1) := gdX7_waitsTooLong_0.2.2.2.2.2.1
theorem dX7_waitsTooLong_12 : decode cX7_waitsTooLong 12 = .ok (.getfield 61, 3) := gdX7_waitsTooLong_0.2.2.2.2.2.2.1
theorem dX7_waitsTooLong_15 : decode cX7_waitsTooLong 15 = .ok (.ifCond .ne 5, 3) := gdX7_waitsTooLong_0.2.2.2.2.2.2.2.1
theorem dX7_waitsTooLong_18 : decode cX7_waitsTooLong 18 = .ok (.iconst 0, 1) := gdX7_waitsTooLong_0.2.2.2.2.2.2.2.2.1
theorem dX7_waitsTooLong_19 : decode cX7_waitsTooLong 19 = .ok (.ireturn, 1) := gdX7_waitsTooLong_0.2.2.2.2.2.2.2.2.2.1
theorem dX7_waitsTooLong_20 : decode cX7_waitsTooLong 20 = .ok (.aload_n 0, 1) := gdX7_waitsTooLong_0.2.2.2.2.2.2.2.2.2.2.1
theorem dX7_waitsTooLong_21 : decode cX7_waitsTooLong 21 = .ok (.dup, 1) := gdX7_waitsTooLong_0.2.2.2.2.2.2.2.2.2.2.2.1
theorem dX7_waitsTooLong_22 : decode cX7_waitsTooLong 22 = .ok (.getfield 52, 3) := gdX7_waitsTooLong_0.2.2.2.2.2.2.2.2.2.2.2.2.1
theorem dX7_waitsTooLong_25 : decode cX7_waitsTooLong 25 = .ok (.iconst 1, 1) := gdX7_waitsTooLong_0.2.2.2.2.2.2.2.2.2.2.2.2.2.1
theorem dX7_waitsTooLong_26 : decode cX7_waitsTooLong 26 = .ok (.iadd, 1) := gdX7_waitsTooLong_0.2.2.2.2.2.2.2.2.2.2.2.2.2.2.1
theorem dX7_waitsTooLong_27 : decode cX7_waitsTooLong 27 = .ok (.putfield 52, 3) := gdX7_waitsTooLong_0.2.2.2.2.2.2.2.2.2.2.2.2.2.2.2
theorem gdX7_waitsTooLong_30 : (decode cX7_waitsTooLong 30 = .ok (.aload_n 0, 1)) ∧ (decode cX7_waitsTooLong 31 = .ok (.getfield 52, 3)) ∧ (decode cX7_waitsTooLong 34 = .ok (.aload_n 0, 1)) ∧ (decode cX7_waitsTooLong 35 = .ok (.getfield 61, 3)) ∧ (decode cX7_waitsTooLong 38 = .ok (.ifCond .eq 7, 3)) ∧ (decode cX7_waitsTooLong 41 = .ok (.iconst 3, 1)) ∧ (decode cX7_waitsTooLong 42 = .ok (.goto 7, 3)) ∧ (decode cX7_waitsTooLong 45 = .ok (.aload_n 0, 1)) ∧ (decode cX7_waitsTooLong 46 = .ok (.getfield 27, 3)) ∧ (decode cX7_waitsTooLong 49 = .ok (.if_icmp .ge 5, 3)) ∧ (decode cX7_waitsTooLong 52 = .ok (.iconst 0, 1)) ∧ (decode cX7_waitsTooLong 53 = .ok (.ireturn, 1)) ∧ (decode cX7_waitsTooLong 54 = .ok (.aload_n 0, 1)) ∧ (decode cX7_waitsTooLong 55 = .ok (.iconst 0, 1)) ∧ (decode cX7_waitsTooLong 56 = .ok (.putfield 52, 3)) ∧ (decode cX7_waitsTooLong 59 = .ok (.aload_n 0, 1)) := by decide +kernel
theorem dX7_waitsTooLong_30 : decode cX7_waitsTooLong 30 = .ok (.aload_n 0, 1) := gdX7_waitsTooLong_30.1
theorem dX7_waitsTooLong_31 : decode cX7_waitsTooLong 31 = .ok (.getfield 52, 3) := gdX7_waitsTooLong_30.2.1
theorem dX7_waitsTooLong_34 : decode cX7_waitsTooLong 34 = .ok (.aload_n 0, 1) := gdX7_waitsTooLong_30.2.2.1
theorem dX7_waitsTooLong_35 : decode cX7_waitsTooLong 35 = .ok (.getfield 61, 3) := gdX7_waitsTooLong_30.2.2.2.1
theorem dX7_waitsTooLong_38 : decode cX7_waitsTooLong 38 = .ok (.ifCond .eq 7, 3) := gdX7_waitsTooLong_30.2.2.2.2.1
theorem dX7_waitsTooLong_41 : decode cX7_waitsTooLong 41 = .ok (.iconst 3, 1) := gdX7_waitsTooLong_30.2.2.2.2.2.1
theorem dX7_waitsTooLong_42 : decode cX7_waitsTooLong 42 = .ok (.goto 7, 3) := gdX7_waitsTooLong_30.2.2.2.2.2.2.1
theorem dX7_waitsTooLong_45 : decode cX7_waitsTooLong 45 = .ok (.aload_n 0, 1) := gdX7_waitsTooLong_30.2.2.2.2.2.2.2.1
theorem dX7_waitsTooLong_46 : decode cX7_waitsTooLong 46 = .ok (.getfield 27, 3) := gdX7_waitsTooLong_30.2.2.2.2.2.2.2.2.1
theorem dX7_waitsTooLong_49 : decode cX7_waitsTooLong 49 = .ok (.if_icmp .ge 5, 3) := gdX7_waitsTooLong_30.2.2.2.2.2.2.2.2.2.1
theorem dX7_waitsTooLong_52 : decode cX7_waitsTooLong 52 = .ok (.iconst 0, 1) := gdX7_waitsTooLong_30.2.2.2.2.2.2.2.2.2.2.1
theorem dX7_waitsTooLong_53 : decode cX7_waitsTooLong 53 = .ok (.ireturn, 1) := gdX7_waitsTooLong_30.2.2.2.2.2.2.2.2.2.2.2.1
theorem dX7_waitsTooLong_54 : decode cX7_waitsTooLong 54 = .ok (.aload_n 0, 1) := gdX7_waitsTooLong_30.2.2.2.2.2.2.2.2.2.2.2.2.1
theorem dX7_waitsTooLong_55 : decode cX7_waitsTooLong 55 = .ok (.iconst 0, 1) := gdX7_waitsTooLong_30.2.2.2.2.2.2.2.2.2.2.2.2.2.1
theorem dX7_waitsTooLong_56 : decode cX7_waitsTooLong 56 = .ok (.putfield 52, 3) := gdX7_waitsTooLong_30.2.2.2.2.2.2.2.2.2.2.2.2.2.2.1
theorem dX7_waitsTooLong_59 : decode cX7_waitsTooLong 59 = .ok (.aload_n 0, 1) := gdX7_waitsTooLong_30.2.2.2.2.2.2.2.2.2.2.2.2.2.2.2
theorem gdX7_waitsTooLong_60 : (decode cX7_waitsTooLong 60 = .ok (.getfield 61, 3)) ∧ (decode cX7_waitsTooLong 63 = .ok (.ifCond .eq 10, 3)) ∧ (decode cX7_waitsTooLong 66 = .ok (.aload_n 0, 1)) ∧ (decode cX7_waitsTooLong 67 = .ok (.iconst 0, 1)) ∧ (decode cX7_waitsTooLong 68 = .ok (.putfield 61, 3)) ∧ (decode cX7_waitsTooLong 71 = .ok (.iconst 0, 1)) ∧ (decode cX7_waitsTooLong 72 = .ok (.ireturn, 1)) ∧ (decode cX7_waitsTooLong 73 = .ok (.aload_n 0, 1)) ∧ (decode cX7_waitsTooLong 74 = .ok (.dup, 1)) ∧ (decode cX7_waitsTooLong 75 = .ok (.getfield 55, 3)) ∧ (decode cX7_waitsTooLong 78 = .ok (.iconst 1, 1)) ∧ (decode cX7_waitsTooLong 79 = .ok (.iadd, 1)) ∧ (decode cX7_waitsTooLong 80 = .ok (.putfield 55, 3)) ∧ (decode cX7_waitsTooLong 83 = .ok (.aload_n 0, 1)) ∧ (decode cX7_waitsTooLong 84 = .ok (.getfield 55, 3)) ∧ (decode cX7_waitsTooLong 87 = .ok (.aload_n 0, 1)) := by decide +kernel
theorem dX7_waitsTooLong_60 : decode cX7_waitsTooLong 60 = .ok (.getfield 61, 3) := gdX7_waitsTooLong_60.1
theorem dX7_waitsTooLong_63 : decode cX7_waitsTooLong 63 = .ok (.ifCond .eq 10, 3) := gdX7_waitsTooLong_60.2.1
theorem dX7_waitsTooLong_66 : decode cX7_waitsTooLong 66 = .ok (.aload_n 0, 1) := gdX7_waitsTooLong_60.2.2.1
theorem dX7_waitsTooLong_67 : decode cX7_waitsTooLong 67 = .ok (.iconst 0, 1) := gdX7_waitsTooLong_60.2.2.2.1
theorem dX7_waitsTooLong_68 : decode cX7_waitsTooLong 68 = .ok (.putfield 61, 3) := gdX7_waitsTooLong_60.2.2.2.2.1
theorem dX7_waitsTooLong_71 : decode cX7_waitsTooLong 71 = .ok (.iconst 0, 1) := gdX7_waitsTooLong_60.2.2.2.2.2.1
theorem dX7_waitsTooLong_72 : decode cX7_waitsTooLong 72 = .ok (.ireturn, 1) := gdX7_waitsTooLong_60.2.2.2.2.2.2.1
theorem dX7_waitsTooLong_73 : decode cX7_waitsTooLong 73 = .ok (.aload_n 0, 1) := gdX7_waitsTooLong_60.2.2.2.2.2.2.2.1
theorem dX7_waitsTooLong_74 : decode cX7_waitsTooLong 74 = .ok (.dup, 1) := gdX7_waitsTooLong_60.2.2.2.2.2.2.2.2.1
theorem dX7_waitsTooLong_75 : decode cX7_waitsTooLong 75 = .ok (.getfield 55, 3) := gdX7_waitsTooLong_60.2.2.2.2.2.2.2.2.2.1
theorem dX7_waitsTooLong_78 : decode cX7_waitsTooLong 78 = .ok (.iconst 1, 1) := gdX7_waitsTooLong_60.2.2.2.2.2.2.2.2.2.2.1
theorem dX7_waitsTooLong_79 : decode cX7_waitsTooLong 79 = .ok (.iadd, 1) := gdX7_waitsTooLong_60.2.2.2.2.2.2.2.2.2.2.2.1
theorem dX7_waitsTooLong_80 : decode cX7_waitsTooLong 80 = .ok (.putfield 55, 3) := gdX7_waitsTooLong_60.2.2.2.2.2.2.2.2.2.2.2.2.1
theorem dX7_waitsTooLong_83 : decode cX7_waitsTooLong 83 = .ok (.aload_n 0, 1) := gdX7_waitsTooLong_60.2.2.2.2.2.2.2.2.2.2.2.2.2.1
theorem dX7_waitsTooLong_84 : decode cX7_waitsTooLong 84 = .ok (.getfield 55, 3) := gdX7_waitsTooLong_60.2.2.2.2.2.2.2.2.2.2.2.2.2.2.1
theorem dX7_waitsTooLong_87 : decode cX7_waitsTooLong 87 = .ok (.aload_n 0, 1) := gdX7_waitsTooLong_60.2.2.2.2.2.2.2.2.2.2.2.2.2.2.2
theorem gdX7_waitsTooLong_88 : (decode cX7_waitsTooLong 88 = .ok (.getfield 30, 3)) ∧ (decode cX7_waitsTooLong 91 = .ok (.if_icmp .le 5, 3)) ∧ (decode cX7_waitsTooLong 94 = .ok (.iconst 1, 1)) ∧ (decode cX7_waitsTooLong 95 = .ok (.ireturn, 1)) ∧ (decode cX7_waitsTooLong 96 = .ok (.aload_n 0, 1)) ∧ (decode cX7_waitsTooLong 97 = .ok (.aload_n 0, 1)) ∧ (decode cX7_waitsTooLong 98 = .ok (.getfield 68, 3)) ∧ (decode cX7_waitsTooLong 101 = .ok (.putfield 71, 3)) ∧ (decode cX7_waitsTooLong 104 = .ok (.iconst 0, 1)) ∧ (decode cX7_waitsTooLong 105 = .ok (.ireturn, 1)) := by decide +kernel
theorem dX7_waitsTooLong_88 : decode cX7_waitsTooLong 88 = .ok (.getfield 30, 3) := gdX7_waitsTooLong_88.1
theorem dX7_waitsTooLong_91 : decode cX7_waitsTooLong 91 = .ok (.if_icmp .le 5, 3) := gdX7_waitsTooLong_88.2.1
theorem dX7_waitsTooLong_94 : decode cX7_waitsTooLong 94 = .ok (.iconst 1, 1) := gdX7_waitsTooLong_88.2.2.1
theorem dX7_waitsTooLong_95 : decode cX7_waitsTooLong 95 = .ok (.ireturn, 1) := gdX7_waitsTooLong_88.2.2.2.1
theorem dX7_waitsTooLong_96 : decode cX7_waitsTooLong 96 = .ok (.aload_n 0, 1) := gdX7_waitsTooLong_88.2.2.2.2.1
theorem dX7_waitsTooLong_97 : decode cX7_waitsTooLong 97 = .ok (.aload_n 0, 1) := gdX7_waitsTooLong_88.2.2.2.2.2.1
theorem dX7_waitsTooLong_98 : decode cX7_waitsTooLong 98 = .ok (.getfield 68, 3) := gdX7_waitsTooLong_88.2.2.2.2.2.2.1
theorem dX7_waitsTooLong_101 : decode cX7_waitsTooLong 101 = .ok (.putfield 71, 3) := gdX7_waitsTooLong_88.2.2.2.2.2.2.2.1
theorem dX7_waitsTooLong_104 : decode cX7_waitsTooLong 104 = .ok (.iconst 0, 1) := gdX7_waitsTooLong_88.2.2.2.2.2.2.2.2.1
theorem dX7_waitsTooLong_105 : decode cX7_waitsTooLong 105 = .ok (.ireturn, 1) := gdX7_waitsTooLong_88.2.2.2.2.2.2.2.2.2
set_option maxHeartbeats 8000000 in
set_option maxRecDepth 100000 in
theorem x_X7_waitsTooLong (l : Launch) (E : EE) (z0 : Nat) (G : Nat → Nat) (hGz : ∀ q, G q ≠ 0 → z0 ≤ q) (B : AA) (R : RR) (hW : TW G B R) (h0 : Nat) (hG : G h0 = 9) : Met l yX7_waitsTooLong [Cond.code yX7_waitsTooLong cX7_waitsTooLong 1 (some .boolean)] ({ frames := 0, cells := 0, slots := 0, locals := 0 } : Room) (va_Pc [.ref h0] (fun U => TX E G B R U.heap ∧ KS E z0 U)) (va_Qi (fun (r : Int32) (u : AA) => (TW G u R) ∧ (Fr G ([9] : List Nat) B u) ∧ (r = 0 ∨ r = 1) ∧ (C_X7_waitsTooLong G B R h0 u r)) (fun u t => TX E G u R t.heap) (fun q : Nat => G q ∈ ([9] : List Nat))) 0 0 (fun q : Nat => G q ∈ ([9] : List Nat)) := by
  refine Met.ofW (cc := cX7_waitsTooLong) (maxL := 1) (ret := (some .boolean)) (by decide) rfl ?_
  intro p e s m args below meth c s₁ B9 hml hv
  obtain ⟨rfl, hT, hK⟩ := hv
  have hx := B9.exec
  have hb := B9.bytes
  have hr := B9.returns
  have hts : ∀ w ∈ TS, w.before ([.ref h0] : List Value).toArray s = true := fun w hw => hK.2.1 w hw _
  have hown : s.vm.findClass RX7 = some m.cls := findClass_of_methodNamed B9.named
  have hlocks := B9.notSynchronized
  have hS : va_S (fun q : Nat => G q ∈ ([9] : List Nat)) s.heap s.heap [] := va_S.rf
  have hAz : ∀ q, (fun q : Nat => G q ∈ ([9] : List Nat)) q → z0 ≤ q := zL hGz (by decide)
  have hW_0 := hW
  have hl := lv_entry ([.ref h0]) (n := 1) (Nat.le_of_ble_eq_true rfl)
  rw [lg_entry_eq]
  generalize (lg_sl ([.ref h0]) ++ List.replicate (1 - (lg_sl ([.ref h0])).length) Slot.unset).toArray = ls at hl ⊢
  have hl : lv_has ls 1 [(0, .ref h0)] := hl
  refine lv_aload_n hx hb dX7_waitsTooLong_0 rfl (lv_at hl 0 rfl) ?_
  have ha_1 := tx_9 hT hG
  refine va_get (D := DG E) (ci := 7) (v := .int (B h0 9)) (C := RX7) (T := TX7) (N := 14) hx hb hts iw_X7 hown hK.1 (va_one ha_1) 0 rfl rfl 9 (by decide) (hts _ fl_X7_71) (fun _ h9 => h9) rfl dX7_waitsTooLong_1 ?_
  refine lv_aload_n hx hb dX7_waitsTooLong_4 rfl (lv_at hl 0 rfl) ?_
  refine va_get (D := DG E) (ci := 7) (v := .int (B h0 8)) (C := RX7) (T := TX7) (N := 14) hx hb hts iw_X7 hown hK.1 (va_one ha_1) 0 rfl rfl 8 (by decide) (hts _ fl_X7_68) (fun _ h9 => h9) rfl dX7_waitsTooLong_5 ?_
  refine lv_icmp_ne (tgt := 20) hx hb dX7_waitsTooLong_8 (by decide) (fun c_2 => ?_) (fun c_2 => ?_)
  · simp only [lt_I, le_I, eq_I, i_0, i_1, i_2, i_3, i_4, i_5, i_6, i_7, i_8, i_10, i_12, i_16, i_20, i_23, i_24, i_31, i_32, i_63, i_64, i_m1] at c_2
    refine lv_aload_n hx hb dX7_waitsTooLong_20 rfl (lv_at hl 0 rfl) ?_
    refine lv_dup hx hb dX7_waitsTooLong_21 rfl ?_
    refine va_get (D := DG E) (ci := 7) (v := .int (B h0 10)) (C := RX7) (T := TX7) (N := 14) hx hb hts iw_X7 hown hK.1 (va_one ha_1) 0 rfl rfl 10 (by decide) (hts _ fl_X7_52) (fun _ h9 => h9) rfl dX7_waitsTooLong_22 ?_
    refine lv_iconst (v := 1) hx hb dX7_waitsTooLong_25 (by decide) ?_
    refine lv_iadd hx hb dX7_waitsTooLong_26 ?_
    refine lv_topi (fun x_3 ex_3 => ?_)
    refine rr_put (D := DG E) (ci := 7) (v := .int x_3) (ty := .int) (C := RX7) (T := TX7) (N := 14) hx hb hts iw_X7 tyX7 tyX7_ok nmX7 hown hK.1 ha_1 hS (by show G h0 ∈ ([9] : List Nat); rw [hG]; decide) rfl 10 (by decide) (hts _ fl_X7_52) (fun _ h9 => h9) rfl (by decide +kernel) rfl rfl (Nat.le_of_ble_eq_true rfl) dX7_waitsTooLong_27 (fun H locs hn ho hz hS => ?_)
    obtain ⟨B_4, eB_4⟩ : ∃ z : AA, z = uA B h0 (upd (B h0) 10 x_3) := ⟨_, rfl⟩
    have sB_4 : B_4 h0 10 = x_3 := by rw [eB_4, uA_s]; exact upd_s
    have nB_4 : ∀ k, k ≠ 10 → B_4 h0 k = B h0 k := fun k hk => by rw [eB_4, uA_s]; exact upd_n hk
    have fB_4 : ∀ c, G c ≠ 9 → B_4 c = B c := fun c hc => by rw [eB_4]; exact uA_n (fun e => hc (by rw [e]; exact hG))
    have hT : TX E G B_4 R H := by rw [eB_4]; exact hT.w (by rw [hG]; exact hn) ho
    have hWB_4 : TW G B_4 R := by rw [eB_4]; exact hW_0.w (by rw [hG]; exact tw_9 hW_0 hG)
    have hW := hWB_4
    refine lv_aload_n hx hb dX7_waitsTooLong_30 rfl (lv_at hl 0 rfl) ?_
    have ha_5 := tx_9 hT hG
    have l_6 : B_4 h0 10 = x_3 := sB_4
    refine va_get (D := DG E) (ci := 7) (v := .int (B_4 h0 10)) (C := RX7) (T := TX7) (N := 14) hx hb hts iw_X7 hown hK.1 (va_one ha_5) 0 rfl rfl 10 (by decide) (hts _ fl_X7_52) (fun _ h9 => h9) rfl dX7_waitsTooLong_31 ?_
    refine W.eq (g2 := F0 m 34 ls [.int x_3]) (by rw [l_6]) ?_
    refine lv_aload_n hx hb dX7_waitsTooLong_34 rfl (lv_at hl 0 rfl) ?_
    have l_7 : B_4 h0 13 = (B h0 13) := (nB_4 13 (by decide))
    refine va_get (D := DG E) (ci := 7) (v := .int (B_4 h0 13)) (C := RX7) (T := TX7) (N := 14) hx hb hts iw_X7 hown hK.1 (va_one ha_5) 0 rfl rfl 13 (by decide) (hts _ fl_X7_61) (fun _ h9 => h9) rfl dX7_waitsTooLong_35 ?_
    refine W.eq (g2 := F0 m 38 ls [.int (B h0 13), .int x_3]) (by rw [l_7]) ?_
    refine lv_if_eq (tgt := 45) hx hb dX7_waitsTooLong_38 (by decide) (fun c_8 => ?_) (fun c_8 => ?_)
    · simp only [lt_I, le_I, eq_I, i_0, i_1, i_2, i_3, i_4, i_5, i_6, i_7, i_8, i_10, i_12, i_16, i_20, i_23, i_24, i_31, i_32, i_63, i_64, i_m1] at c_8
      refine lv_aload_n hx hb dX7_waitsTooLong_45 rfl (lv_at hl 0 rfl) ?_
      have l_9 : B_4 h0 3 = (B h0 3) := (nB_4 3 (by decide))
      refine va_get (D := DG E) (ci := 7) (v := .int (B_4 h0 3)) (C := RX7) (T := TX7) (N := 14) hx hb hts iw_X7 hown hK.1 (va_one ha_5) 0 rfl rfl 3 (by decide) (hts _ fl_X7_27) (fun _ h9 => h9) rfl dX7_waitsTooLong_46 ?_
      refine W.eq (g2 := F0 m 49 ls [.int (B h0 3), .int x_3]) (by rw [l_9]) ?_
      refine lv_icmp_ge (tgt := 54) hx hb dX7_waitsTooLong_49 (by decide) (fun c_10 => ?_) (fun c_10 => ?_)
      · simp only [lt_I, le_I, eq_I, i_0, i_1, i_2, i_3, i_4, i_5, i_6, i_7, i_8, i_10, i_12, i_16, i_20, i_23, i_24, i_31, i_32, i_63, i_64, i_m1] at c_10
        refine lv_aload_n hx hb dX7_waitsTooLong_54 rfl (lv_at hl 0 rfl) ?_
        refine lv_iconst (v := 0) hx hb dX7_waitsTooLong_55 (by decide) ?_
        refine rr_put (D := DG E) (ci := 7) (v := .int 0) (ty := .int) (C := RX7) (T := TX7) (N := 14) hx hb hts iw_X7 tyX7 tyX7_ok nmX7 hown hK.1 ha_5 hS (by show G h0 ∈ ([9] : List Nat); rw [hG]; decide) rfl 10 (by decide) (hts _ fl_X7_52) (fun _ h9 => h9) rfl (by decide +kernel) rfl rfl (Nat.le_of_ble_eq_true rfl) dX7_waitsTooLong_56 (fun H locs hn ho hz hS => ?_)
        obtain ⟨B_11, eB_11⟩ : ∃ z : AA, z = uA B_4 h0 (upd (B_4 h0) 10 0) := ⟨_, rfl⟩
        have sB_11 : B_11 h0 10 = 0 := by rw [eB_11, uA_s]; exact upd_s
        have nB_11 : ∀ k, k ≠ 10 → B_11 h0 k = B_4 h0 k := fun k hk => by rw [eB_11, uA_s]; exact upd_n hk
        have fB_11 : ∀ c, G c ≠ 9 → B_11 c = B_4 c := fun c hc => by rw [eB_11]; exact uA_n (fun e => hc (by rw [e]; exact hG))
        have hT : TX E G B_11 R H := by rw [eB_11]; exact hT.w (by rw [hG]; exact hn) ho
        have hWB_11 : TW G B_11 R := by rw [eB_11]; exact hWB_4.w (by rw [hG]; exact tw_9 hWB_4 hG)
        have hW := hWB_11
        refine lv_aload_n hx hb dX7_waitsTooLong_59 rfl (lv_at hl 0 rfl) ?_
        have ha_12 := tx_9 hT hG
        have l_13 : B_11 h0 13 = (B h0 13) := ((nB_11 13 (by decide))).trans ((nB_4 13 (by decide)))
        refine va_get (D := DG E) (ci := 7) (v := .int (B_11 h0 13)) (C := RX7) (T := TX7) (N := 14) hx hb hts iw_X7 hown hK.1 (va_one ha_12) 0 rfl rfl 13 (by decide) (hts _ fl_X7_61) (fun _ h9 => h9) rfl dX7_waitsTooLong_60 ?_
        refine W.eq (g2 := F0 m 63 ls [.int (B h0 13)]) (by rw [l_13]) ?_
        refine lv_if_eq (tgt := 73) hx hb dX7_waitsTooLong_63 (by decide) (fun c_14 => ?_) (fun c_14 => ?_)
        · simp only [lt_I, le_I, eq_I, i_0, i_1, i_2, i_3, i_4, i_5, i_6, i_7, i_8, i_10, i_12, i_16, i_20, i_23, i_24, i_31, i_32, i_63, i_64, i_m1] at c_14
          refine lv_aload_n hx hb dX7_waitsTooLong_73 rfl (lv_at hl 0 rfl) ?_
          refine lv_dup hx hb dX7_waitsTooLong_74 rfl ?_
          have l_15 : B_11 h0 11 = (B h0 11) := ((nB_11 11 (by decide))).trans ((nB_4 11 (by decide)))
          refine va_get (D := DG E) (ci := 7) (v := .int (B_11 h0 11)) (C := RX7) (T := TX7) (N := 14) hx hb hts iw_X7 hown hK.1 (va_one ha_12) 0 rfl rfl 11 (by decide) (hts _ fl_X7_55) (fun _ h9 => h9) rfl dX7_waitsTooLong_75 ?_
          refine W.eq (g2 := F0 m 78 ls [.int (B h0 11), .ref h0]) (by rw [l_15]) ?_
          refine lv_iconst (v := 1) hx hb dX7_waitsTooLong_78 (by decide) ?_
          refine lv_iadd hx hb dX7_waitsTooLong_79 ?_
          refine lv_topi (fun x_16 ex_16 => ?_)
          refine rr_put (D := DG E) (ci := 7) (v := .int x_16) (ty := .int) (C := RX7) (T := TX7) (N := 14) hx hb hts iw_X7 tyX7 tyX7_ok nmX7 hown hK.1 ha_12 hS (by show G h0 ∈ ([9] : List Nat); rw [hG]; decide) rfl 11 (by decide) (hts _ fl_X7_55) (fun _ h9 => h9) rfl (by decide +kernel) rfl rfl (Nat.le_of_ble_eq_true rfl) dX7_waitsTooLong_80 (fun H locs hn ho hz hS => ?_)
          obtain ⟨B_17, eB_17⟩ : ∃ z : AA, z = uA B_11 h0 (upd (B_11 h0) 11 x_16) := ⟨_, rfl⟩
          have sB_17 : B_17 h0 11 = x_16 := by rw [eB_17, uA_s]; exact upd_s
          have nB_17 : ∀ k, k ≠ 11 → B_17 h0 k = B_11 h0 k := fun k hk => by rw [eB_17, uA_s]; exact upd_n hk
          have fB_17 : ∀ c, G c ≠ 9 → B_17 c = B_11 c := fun c hc => by rw [eB_17]; exact uA_n (fun e => hc (by rw [e]; exact hG))
          have hT : TX E G B_17 R H := by rw [eB_17]; exact hT.w (by rw [hG]; exact hn) ho
          have hWB_17 : TW G B_17 R := by rw [eB_17]; exact hWB_11.w (by rw [hG]; exact tw_9 hWB_11 hG)
          have hW := hWB_17
          refine lv_aload_n hx hb dX7_waitsTooLong_83 rfl (lv_at hl 0 rfl) ?_
          have ha_18 := tx_9 hT hG
          have l_19 : B_17 h0 11 = x_16 := sB_17
          refine va_get (D := DG E) (ci := 7) (v := .int (B_17 h0 11)) (C := RX7) (T := TX7) (N := 14) hx hb hts iw_X7 hown hK.1 (va_one ha_18) 0 rfl rfl 11 (by decide) (hts _ fl_X7_55) (fun _ h9 => h9) rfl dX7_waitsTooLong_84 ?_
          refine W.eq (g2 := F0 m 87 ls [.int x_16]) (by rw [l_19]) ?_
          refine lv_aload_n hx hb dX7_waitsTooLong_87 rfl (lv_at hl 0 rfl) ?_
          have l_20 : B_17 h0 4 = (B h0 4) := ((nB_17 4 (by decide))).trans (((nB_11 4 (by decide))).trans ((nB_4 4 (by decide))))
          refine va_get (D := DG E) (ci := 7) (v := .int (B_17 h0 4)) (C := RX7) (T := TX7) (N := 14) hx hb hts iw_X7 hown hK.1 (va_one ha_18) 0 rfl rfl 4 (by decide) (hts _ fl_X7_30) (fun _ h9 => h9) rfl dX7_waitsTooLong_88 ?_
          refine W.eq (g2 := F0 m 91 ls [.int (B h0 4), .int x_16]) (by rw [l_20]) ?_
          refine lv_icmp_le (tgt := 96) hx hb dX7_waitsTooLong_91 (by decide) (fun c_21 => ?_) (fun c_21 => ?_)
          · simp only [lt_I, le_I, eq_I, i_0, i_1, i_2, i_3, i_4, i_5, i_6, i_7, i_8, i_10, i_12, i_16, i_20, i_23, i_24, i_31, i_32, i_63, i_64, i_m1] at c_21
            refine lv_aload_n hx hb dX7_waitsTooLong_96 rfl (lv_at hl 0 rfl) ?_
            refine lv_aload_n hx hb dX7_waitsTooLong_97 rfl (lv_at hl 0 rfl) ?_
            have l_22 : B_17 h0 8 = (B h0 8) := ((nB_17 8 (by decide))).trans (((nB_11 8 (by decide))).trans ((nB_4 8 (by decide))))
            refine va_get (D := DG E) (ci := 7) (v := .int (B_17 h0 8)) (C := RX7) (T := TX7) (N := 14) hx hb hts iw_X7 hown hK.1 (va_one ha_18) 0 rfl rfl 8 (by decide) (hts _ fl_X7_68) (fun _ h9 => h9) rfl dX7_waitsTooLong_98 ?_
            refine W.eq (g2 := F0 m 101 ls [.int (B h0 8), .ref h0]) (by rw [l_22]) ?_
            refine rr_put (D := DG E) (ci := 7) (v := .int (B h0 8)) (ty := .int) (C := RX7) (T := TX7) (N := 14) hx hb hts iw_X7 tyX7 tyX7_ok nmX7 hown hK.1 ha_18 hS (by show G h0 ∈ ([9] : List Nat); rw [hG]; decide) rfl 9 (by decide) (hts _ fl_X7_71) (fun _ h9 => h9) rfl (by decide +kernel) rfl rfl (Nat.le_of_ble_eq_true rfl) dX7_waitsTooLong_101 (fun H locs hn ho hz hS => ?_)
            obtain ⟨B_23, eB_23⟩ : ∃ z : AA, z = uA B_17 h0 (upd (B_17 h0) 9 (B h0 8)) := ⟨_, rfl⟩
            have sB_23 : B_23 h0 9 = (B h0 8) := by rw [eB_23, uA_s]; exact upd_s
            have nB_23 : ∀ k, k ≠ 9 → B_23 h0 k = B_17 h0 k := fun k hk => by rw [eB_23, uA_s]; exact upd_n hk
            have fB_23 : ∀ c, G c ≠ 9 → B_23 c = B_17 c := fun c hc => by rw [eB_23]; exact uA_n (fun e => hc (by rw [e]; exact hG))
            have hT : TX E G B_23 R H := by rw [eB_23]; exact hT.w (by rw [hG]; exact hn) ho
            have hWB_23 : TW G B_23 R := by rw [eB_23]; exact hWB_17.w (by rw [hG]; exact tw_9 hWB_17 hG)
            have hW := hWB_23
            refine lv_iconst (v := 0) hx hb dX7_waitsTooLong_104 (by decide) ?_
            exact W.zret (v := 0) (ty := .boolean) hx hb hr rfl (fun t ht hW9 => ⟨⟨0, B_23, rfl, ⟨hW, (Fr.w (Fr.w (Fr.w (Fr.w Fr.rf hG (by decide) eB_4) hG (by decide) eB_11) hG (by decide) eB_17) hG (by decide) eB_23), (by decide), (Or.inl ⟨c_2, x_3, ex_3, B_4, eB_4, c_8, c_10, B_11, eB_11, c_14, x_16, ex_16, B_17, eB_17, c_21, B_23, eB_23, rfl, rfl⟩)⟩, (by show TX E G B_23 R t.heap; rw [ht]; exact hT)⟩, hS.F ht⟩) hS.2.2 dX7_waitsTooLong_105
          · simp only [lt_I, le_I, eq_I, i_0, i_1, i_2, i_3, i_4, i_5, i_6, i_7, i_8, i_10, i_12, i_16, i_20, i_23, i_24, i_31, i_32, i_63, i_64, i_m1] at c_21
            refine lv_iconst (v := 1) hx hb dX7_waitsTooLong_94 (by decide) ?_
            exact W.zret (v := 1) (ty := .boolean) hx hb hr rfl (fun t ht hW9 => ⟨⟨1, B_17, rfl, ⟨hW, (Fr.w (Fr.w (Fr.w Fr.rf hG (by decide) eB_4) hG (by decide) eB_11) hG (by decide) eB_17), (by decide), (Or.inr (Or.inl ⟨c_2, x_3, ex_3, B_4, eB_4, c_8, c_10, B_11, eB_11, c_14, x_16, ex_16, B_17, eB_17, c_21, rfl, rfl⟩))⟩, (by show TX E G B_17 R t.heap; rw [ht]; exact hT)⟩, hS.F ht⟩) hS.2.2 dX7_waitsTooLong_95
        · simp only [lt_I, le_I, eq_I, i_0, i_1, i_2, i_3, i_4, i_5, i_6, i_7, i_8, i_10, i_12, i_16, i_20, i_23, i_24, i_31, i_32, i_63, i_64, i_m1] at c_14
          refine lv_aload_n hx hb dX7_waitsTooLong_66 rfl (lv_at hl 0 rfl) ?_
          refine lv_iconst (v := 0) hx hb dX7_waitsTooLong_67 (by decide) ?_
          refine rr_put (D := DG E) (ci := 7) (v := .int 0) (ty := .boolean) (C := RX7) (T := TX7) (N := 14) hx hb hts iw_X7 tyX7 tyX7_ok nmX7 hown hK.1 ha_12 hS (by show G h0 ∈ ([9] : List Nat); rw [hG]; decide) rfl 13 (by decide) (hts _ fl_X7_61) (fun _ h9 => h9) rfl (by decide +kernel) rfl rfl (Nat.le_of_ble_eq_true rfl) dX7_waitsTooLong_68 (fun H locs hn ho hz hS => ?_)
          obtain ⟨B_24, eB_24⟩ : ∃ z : AA, z = uA B_11 h0 (upd (B_11 h0) 13 0) := ⟨_, rfl⟩
          have sB_24 : B_24 h0 13 = 0 := by rw [eB_24, uA_s]; exact upd_s
          have nB_24 : ∀ k, k ≠ 13 → B_24 h0 k = B_11 h0 k := fun k hk => by rw [eB_24, uA_s]; exact upd_n hk
          have fB_24 : ∀ c, G c ≠ 9 → B_24 c = B_11 c := fun c hc => by rw [eB_24]; exact uA_n (fun e => hc (by rw [e]; exact hG))
          have hT : TX E G B_24 R H := by rw [eB_24]; exact hT.w (by rw [hG]; exact hn) ho
          have hWB_24 : TW G B_24 R := by rw [eB_24]; exact hWB_11.w (by rw [hG]; exact tw_9 hWB_11 hG)
          have hW := hWB_24
          refine lv_iconst (v := 0) hx hb dX7_waitsTooLong_71 (by decide) ?_
          exact W.zret (v := 0) (ty := .boolean) hx hb hr rfl (fun t ht hW9 => ⟨⟨0, B_24, rfl, ⟨hW, (Fr.w (Fr.w (Fr.w Fr.rf hG (by decide) eB_4) hG (by decide) eB_11) hG (by decide) eB_24), (by decide), (Or.inr (Or.inr (Or.inl ⟨c_2, x_3, ex_3, B_4, eB_4, c_8, c_10, B_11, eB_11, c_14, B_24, eB_24, rfl, rfl⟩)))⟩, (by show TX E G B_24 R t.heap; rw [ht]; exact hT)⟩, hS.F ht⟩) hS.2.2 dX7_waitsTooLong_72
      · simp only [lt_I, le_I, eq_I, i_0, i_1, i_2, i_3, i_4, i_5, i_6, i_7, i_8, i_10, i_12, i_16, i_20, i_23, i_24, i_31, i_32, i_63, i_64, i_m1] at c_10
        refine lv_iconst (v := 0) hx hb dX7_waitsTooLong_52 (by decide) ?_
        exact W.zret (v := 0) (ty := .boolean) hx hb hr rfl (fun t ht hW9 => ⟨⟨0, B_4, rfl, ⟨hW, (Fr.w Fr.rf hG (by decide) eB_4), (by decide), (Or.inr (Or.inr (Or.inr (Or.inl ⟨c_2, x_3, ex_3, B_4, eB_4, c_8, c_10, rfl, rfl⟩))))⟩, (by show TX E G B_4 R t.heap; rw [ht]; exact hT)⟩, hS.F ht⟩) hS.2.2 dX7_waitsTooLong_53
    · simp only [lt_I, le_I, eq_I, i_0, i_1, i_2, i_3, i_4, i_5, i_6, i_7, i_8, i_10, i_12, i_16, i_20, i_23, i_24, i_31, i_32, i_63, i_64, i_m1] at c_8
      refine lv_iconst (v := 3) hx hb dX7_waitsTooLong_41 (by decide) ?_
      refine lv_goto (tgt := 49) hx hb dX7_waitsTooLong_42 (by decide) ?_
      refine lv_icmp_ge (tgt := 54) hx hb dX7_waitsTooLong_49 (by decide) (fun c_25 => ?_) (fun c_25 => ?_)
      · simp only [lt_I, le_I, eq_I, i_0, i_1, i_2, i_3, i_4, i_5, i_6, i_7, i_8, i_10, i_12, i_16, i_20, i_23, i_24, i_31, i_32, i_63, i_64, i_m1] at c_25
        refine lv_aload_n hx hb dX7_waitsTooLong_54 rfl (lv_at hl 0 rfl) ?_
        refine lv_iconst (v := 0) hx hb dX7_waitsTooLong_55 (by decide) ?_
        refine rr_put (D := DG E) (ci := 7) (v := .int 0) (ty := .int) (C := RX7) (T := TX7) (N := 14) hx hb hts iw_X7 tyX7 tyX7_ok nmX7 hown hK.1 ha_5 hS (by show G h0 ∈ ([9] : List Nat); rw [hG]; decide) rfl 10 (by decide) (hts _ fl_X7_52) (fun _ h9 => h9) rfl (by decide +kernel) rfl rfl (Nat.le_of_ble_eq_true rfl) dX7_waitsTooLong_56 (fun H locs hn ho hz hS => ?_)
        obtain ⟨B_26, eB_26⟩ : ∃ z : AA, z = uA B_4 h0 (upd (B_4 h0) 10 0) := ⟨_, rfl⟩
        have sB_26 : B_26 h0 10 = 0 := by rw [eB_26, uA_s]; exact upd_s
        have nB_26 : ∀ k, k ≠ 10 → B_26 h0 k = B_4 h0 k := fun k hk => by rw [eB_26, uA_s]; exact upd_n hk
        have fB_26 : ∀ c, G c ≠ 9 → B_26 c = B_4 c := fun c hc => by rw [eB_26]; exact uA_n (fun e => hc (by rw [e]; exact hG))
        have hT : TX E G B_26 R H := by rw [eB_26]; exact hT.w (by rw [hG]; exact hn) ho
        have hWB_26 : TW G B_26 R := by rw [eB_26]; exact hWB_4.w (by rw [hG]; exact tw_9 hWB_4 hG)
        have hW := hWB_26
        refine lv_aload_n hx hb dX7_waitsTooLong_59 rfl (lv_at hl 0 rfl) ?_
        have ha_27 := tx_9 hT hG
        have l_28 : B_26 h0 13 = (B h0 13) := ((nB_26 13 (by decide))).trans ((nB_4 13 (by decide)))
        refine va_get (D := DG E) (ci := 7) (v := .int (B_26 h0 13)) (C := RX7) (T := TX7) (N := 14) hx hb hts iw_X7 hown hK.1 (va_one ha_27) 0 rfl rfl 13 (by decide) (hts _ fl_X7_61) (fun _ h9 => h9) rfl dX7_waitsTooLong_60 ?_
        refine W.eq (g2 := F0 m 63 ls [.int (B h0 13)]) (by rw [l_28]) ?_
        refine lv_if_eq (tgt := 73) hx hb dX7_waitsTooLong_63 (by decide) (fun c_29 => ?_) (fun c_29 => ?_)
        · simp only [lt_I, le_I, eq_I, i_0, i_1, i_2, i_3, i_4, i_5, i_6, i_7, i_8, i_10, i_12, i_16, i_20, i_23, i_24, i_31, i_32, i_63, i_64, i_m1] at c_29
          refine lv_aload_n hx hb dX7_waitsTooLong_73 rfl (lv_at hl 0 rfl) ?_
          refine lv_dup hx hb dX7_waitsTooLong_74 rfl ?_
          have l_30 : B_26 h0 11 = (B h0 11) := ((nB_26 11 (by decide))).trans ((nB_4 11 (by decide)))
          refine va_get (D := DG E) (ci := 7) (v := .int (B_26 h0 11)) (C := RX7) (T := TX7) (N := 14) hx hb hts iw_X7 hown hK.1 (va_one ha_27) 0 rfl rfl 11 (by decide) (hts _ fl_X7_55) (fun _ h9 => h9) rfl dX7_waitsTooLong_75 ?_
          refine W.eq (g2 := F0 m 78 ls [.int (B h0 11), .ref h0]) (by rw [l_30]) ?_
          refine lv_iconst (v := 1) hx hb dX7_waitsTooLong_78 (by decide) ?_
          refine lv_iadd hx hb dX7_waitsTooLong_79 ?_
          refine lv_topi (fun x_31 ex_31 => ?_)
          refine rr_put (D := DG E) (ci := 7) (v := .int x_31) (ty := .int) (C := RX7) (T := TX7) (N := 14) hx hb hts iw_X7 tyX7 tyX7_ok nmX7 hown hK.1 ha_27 hS (by show G h0 ∈ ([9] : List Nat); rw [hG]; decide) rfl 11 (by decide) (hts _ fl_X7_55) (fun _ h9 => h9) rfl (by decide +kernel) rfl rfl (Nat.le_of_ble_eq_true rfl) dX7_waitsTooLong_80 (fun H locs hn ho hz hS => ?_)
          obtain ⟨B_32, eB_32⟩ : ∃ z : AA, z = uA B_26 h0 (upd (B_26 h0) 11 x_31) := ⟨_, rfl⟩
          have sB_32 : B_32 h0 11 = x_31 := by rw [eB_32, uA_s]; exact upd_s
          have nB_32 : ∀ k, k ≠ 11 → B_32 h0 k = B_26 h0 k := fun k hk => by rw [eB_32, uA_s]; exact upd_n hk
          have fB_32 : ∀ c, G c ≠ 9 → B_32 c = B_26 c := fun c hc => by rw [eB_32]; exact uA_n (fun e => hc (by rw [e]; exact hG))
          have hT : TX E G B_32 R H := by rw [eB_32]; exact hT.w (by rw [hG]; exact hn) ho
          have hWB_32 : TW G B_32 R := by rw [eB_32]; exact hWB_26.w (by rw [hG]; exact tw_9 hWB_26 hG)
          have hW := hWB_32
          refine lv_aload_n hx hb dX7_waitsTooLong_83 rfl (lv_at hl 0 rfl) ?_
          have ha_33 := tx_9 hT hG
          have l_34 : B_32 h0 11 = x_31 := sB_32
          refine va_get (D := DG E) (ci := 7) (v := .int (B_32 h0 11)) (C := RX7) (T := TX7) (N := 14) hx hb hts iw_X7 hown hK.1 (va_one ha_33) 0 rfl rfl 11 (by decide) (hts _ fl_X7_55) (fun _ h9 => h9) rfl dX7_waitsTooLong_84 ?_
          refine W.eq (g2 := F0 m 87 ls [.int x_31]) (by rw [l_34]) ?_
          refine lv_aload_n hx hb dX7_waitsTooLong_87 rfl (lv_at hl 0 rfl) ?_
          have l_35 : B_32 h0 4 = (B h0 4) := ((nB_32 4 (by decide))).trans (((nB_26 4 (by decide))).trans ((nB_4 4 (by decide))))
          refine va_get (D := DG E) (ci := 7) (v := .int (B_32 h0 4)) (C := RX7) (T := TX7) (N := 14) hx hb hts iw_X7 hown hK.1 (va_one ha_33) 0 rfl rfl 4 (by decide) (hts _ fl_X7_30) (fun _ h9 => h9) rfl dX7_waitsTooLong_88 ?_
          refine W.eq (g2 := F0 m 91 ls [.int (B h0 4), .int x_31]) (by rw [l_35]) ?_
          refine lv_icmp_le (tgt := 96) hx hb dX7_waitsTooLong_91 (by decide) (fun c_36 => ?_) (fun c_36 => ?_)
          · simp only [lt_I, le_I, eq_I, i_0, i_1, i_2, i_3, i_4, i_5, i_6, i_7, i_8, i_10, i_12, i_16, i_20, i_23, i_24, i_31, i_32, i_63, i_64, i_m1] at c_36
            refine lv_aload_n hx hb dX7_waitsTooLong_96 rfl (lv_at hl 0 rfl) ?_
            refine lv_aload_n hx hb dX7_waitsTooLong_97 rfl (lv_at hl 0 rfl) ?_
            have l_37 : B_32 h0 8 = (B h0 8) := ((nB_32 8 (by decide))).trans (((nB_26 8 (by decide))).trans ((nB_4 8 (by decide))))
            refine va_get (D := DG E) (ci := 7) (v := .int (B_32 h0 8)) (C := RX7) (T := TX7) (N := 14) hx hb hts iw_X7 hown hK.1 (va_one ha_33) 0 rfl rfl 8 (by decide) (hts _ fl_X7_68) (fun _ h9 => h9) rfl dX7_waitsTooLong_98 ?_
            refine W.eq (g2 := F0 m 101 ls [.int (B h0 8), .ref h0]) (by rw [l_37]) ?_
            refine rr_put (D := DG E) (ci := 7) (v := .int (B h0 8)) (ty := .int) (C := RX7) (T := TX7) (N := 14) hx hb hts iw_X7 tyX7 tyX7_ok nmX7 hown hK.1 ha_33 hS (by show G h0 ∈ ([9] : List Nat); rw [hG]; decide) rfl 9 (by decide) (hts _ fl_X7_71) (fun _ h9 => h9) rfl (by decide +kernel) rfl rfl (Nat.le_of_ble_eq_true rfl) dX7_waitsTooLong_101 (fun H locs hn ho hz hS => ?_)
            obtain ⟨B_38, eB_38⟩ : ∃ z : AA, z = uA B_32 h0 (upd (B_32 h0) 9 (B h0 8)) := ⟨_, rfl⟩
            have sB_38 : B_38 h0 9 = (B h0 8) := by rw [eB_38, uA_s]; exact upd_s
            have nB_38 : ∀ k, k ≠ 9 → B_38 h0 k = B_32 h0 k := fun k hk => by rw [eB_38, uA_s]; exact upd_n hk
            have fB_38 : ∀ c, G c ≠ 9 → B_38 c = B_32 c := fun c hc => by rw [eB_38]; exact uA_n (fun e => hc (by rw [e]; exact hG))
            have hT : TX E G B_38 R H := by rw [eB_38]; exact hT.w (by rw [hG]; exact hn) ho
            have hWB_38 : TW G B_38 R := by rw [eB_38]; exact hWB_32.w (by rw [hG]; exact tw_9 hWB_32 hG)
            have hW := hWB_38
            refine lv_iconst (v := 0) hx hb dX7_waitsTooLong_104 (by decide) ?_
            exact W.zret (v := 0) (ty := .boolean) hx hb hr rfl (fun t ht hW9 => ⟨⟨0, B_38, rfl, ⟨hW, (Fr.w (Fr.w (Fr.w (Fr.w Fr.rf hG (by decide) eB_4) hG (by decide) eB_26) hG (by decide) eB_32) hG (by decide) eB_38), (by decide), (Or.inr (Or.inr (Or.inr (Or.inr (Or.inl ⟨c_2, x_3, ex_3, B_4, eB_4, c_8, c_25, B_26, eB_26, c_29, x_31, ex_31, B_32, eB_32, c_36, B_38, eB_38, rfl, rfl⟩)))))⟩, (by show TX E G B_38 R t.heap; rw [ht]; exact hT)⟩, hS.F ht⟩) hS.2.2 dX7_waitsTooLong_105
          · simp only [lt_I, le_I, eq_I, i_0, i_1, i_2, i_3, i_4, i_5, i_6, i_7, i_8, i_10, i_12, i_16, i_20, i_23, i_24, i_31, i_32, i_63, i_64, i_m1] at c_36
            refine lv_iconst (v := 1) hx hb dX7_waitsTooLong_94 (by decide) ?_
            exact W.zret (v := 1) (ty := .boolean) hx hb hr rfl (fun t ht hW9 => ⟨⟨1, B_32, rfl, ⟨hW, (Fr.w (Fr.w (Fr.w Fr.rf hG (by decide) eB_4) hG (by decide) eB_26) hG (by decide) eB_32), (by decide), (Or.inr (Or.inr (Or.inr (Or.inr (Or.inr (Or.inl ⟨c_2, x_3, ex_3, B_4, eB_4, c_8, c_25, B_26, eB_26, c_29, x_31, ex_31, B_32, eB_32, c_36, rfl, rfl⟩))))))⟩, (by show TX E G B_32 R t.heap; rw [ht]; exact hT)⟩, hS.F ht⟩) hS.2.2 dX7_waitsTooLong_95
        · simp only [lt_I, le_I, eq_I, i_0, i_1, i_2, i_3, i_4, i_5, i_6, i_7, i_8, i_10, i_12, i_16, i_20, i_23, i_24, i_31, i_32, i_63, i_64, i_m1] at c_29
          refine lv_aload_n hx hb dX7_waitsTooLong_66 rfl (lv_at hl 0 rfl) ?_
          refine lv_iconst (v := 0) hx hb dX7_waitsTooLong_67 (by decide) ?_
          refine rr_put (D := DG E) (ci := 7) (v := .int 0) (ty := .boolean) (C := RX7) (T := TX7) (N := 14) hx hb hts iw_X7 tyX7 tyX7_ok nmX7 hown hK.1 ha_27 hS (by show G h0 ∈ ([9] : List Nat); rw [hG]; decide) rfl 13 (by decide) (hts _ fl_X7_61) (fun _ h9 => h9) rfl (by decide +kernel) rfl rfl (Nat.le_of_ble_eq_true rfl) dX7_waitsTooLong_68 (fun H locs hn ho hz hS => ?_)
          obtain ⟨B_39, eB_39⟩ : ∃ z : AA, z = uA B_26 h0 (upd (B_26 h0) 13 0) := ⟨_, rfl⟩
          have sB_39 : B_39 h0 13 = 0 := by rw [eB_39, uA_s]; exact upd_s
          have nB_39 : ∀ k, k ≠ 13 → B_39 h0 k = B_26 h0 k := fun k hk => by rw [eB_39, uA_s]; exact upd_n hk
          have fB_39 : ∀ c, G c ≠ 9 → B_39 c = B_26 c := fun c hc => by rw [eB_39]; exact uA_n (fun e => hc (by rw [e]; exact hG))
          have hT : TX E G B_39 R H := by rw [eB_39]; exact hT.w (by rw [hG]; exact hn) ho
          have hWB_39 : TW G B_39 R := by rw [eB_39]; exact hWB_26.w (by rw [hG]; exact tw_9 hWB_26 hG)
          have hW := hWB_39
          refine lv_iconst (v := 0) hx hb dX7_waitsTooLong_71 (by decide) ?_
          exact W.zret (v := 0) (ty := .boolean) hx hb hr rfl (fun t ht hW9 => ⟨⟨0, B_39, rfl, ⟨hW, (Fr.w (Fr.w (Fr.w Fr.rf hG (by decide) eB_4) hG (by decide) eB_26) hG (by decide) eB_39), (by decide), (Or.inr (Or.inr (Or.inr (Or.inr (Or.inr (Or.inr (Or.inl ⟨c_2, x_3, ex_3, B_4, eB_4, c_8, c_25, B_26, eB_26, c_29, B_39, eB_39, rfl, rfl⟩)))))))⟩, (by show TX E G B_39 R t.heap; rw [ht]; exact hT)⟩, hS.F ht⟩) hS.2.2 dX7_waitsTooLong_72
      · simp only [lt_I, le_I, eq_I, i_0, i_1, i_2, i_3, i_4, i_5, i_6, i_7, i_8, i_10, i_12, i_16, i_20, i_23, i_24, i_31, i_32, i_63, i_64, i_m1] at c_25
        refine lv_iconst (v := 0) hx hb dX7_waitsTooLong_52 (by decide) ?_
        exact W.zret (v := 0) (ty := .boolean) hx hb hr rfl (fun t ht hW9 => ⟨⟨0, B_4, rfl, ⟨hW, (Fr.w Fr.rf hG (by decide) eB_4), (by decide), (Or.inr (Or.inr (Or.inr (Or.inr (Or.inr (Or.inr (Or.inr (Or.inl ⟨c_2, x_3, ex_3, B_4, eB_4, c_8, c_25, rfl, rfl⟩))))))))⟩, (by show TX E G B_4 R t.heap; rw [ht]; exact hT)⟩, hS.F ht⟩) hS.2.2 dX7_waitsTooLong_53
  · simp only [lt_I, le_I, eq_I, i_0, i_1, i_2, i_3, i_4, i_5, i_6, i_7, i_8, i_10, i_12, i_16, i_20, i_23, i_24, i_31, i_32, i_63, i_64, i_m1] at c_2
    refine lv_aload_n hx hb dX7_waitsTooLong_11 rfl (lv_at hl 0 rfl) ?_
    refine va_get (D := DG E) (ci := 7) (v := .int (B h0 13)) (C := RX7) (T := TX7) (N := 14) hx hb hts iw_X7 hown hK.1 (va_one ha_1) 0 rfl rfl 13 (by decide) (hts _ fl_X7_61) (fun _ h9 => h9) rfl dX7_waitsTooLong_12 ?_
    refine lv_if_ne (tgt := 20) hx hb dX7_waitsTooLong_15 (by decide) (fun c_40 => ?_) (fun c_40 => ?_)
    · simp only [lt_I, le_I, eq_I, i_0, i_1, i_2, i_3, i_4, i_5, i_6, i_7, i_8, i_10, i_12, i_16, i_20, i_23, i_24, i_31, i_32, i_63, i_64, i_m1] at c_40
      refine lv_aload_n hx hb dX7_waitsTooLong_20 rfl (lv_at hl 0 rfl) ?_
      refine lv_dup hx hb dX7_waitsTooLong_21 rfl ?_
      refine va_get (D := DG E) (ci := 7) (v := .int (B h0 10)) (C := RX7) (T := TX7) (N := 14) hx hb hts iw_X7 hown hK.1 (va_one ha_1) 0 rfl rfl 10 (by decide) (hts _ fl_X7_52) (fun _ h9 => h9) rfl dX7_waitsTooLong_22 ?_
      refine lv_iconst (v := 1) hx hb dX7_waitsTooLong_25 (by decide) ?_
      refine lv_iadd hx hb dX7_waitsTooLong_26 ?_
      refine lv_topi (fun x_41 ex_41 => ?_)
      refine rr_put (D := DG E) (ci := 7) (v := .int x_41) (ty := .int) (C := RX7) (T := TX7) (N := 14) hx hb hts iw_X7 tyX7 tyX7_ok nmX7 hown hK.1 ha_1 hS (by show G h0 ∈ ([9] : List Nat); rw [hG]; decide) rfl 10 (by decide) (hts _ fl_X7_52) (fun _ h9 => h9) rfl (by decide +kernel) rfl rfl (Nat.le_of_ble_eq_true rfl) dX7_waitsTooLong_27 (fun H locs hn ho hz hS => ?_)
      obtain ⟨B_42, eB_42⟩ : ∃ z : AA, z = uA B h0 (upd (B h0) 10 x_41) := ⟨_, rfl⟩
      have sB_42 : B_42 h0 10 = x_41 := by rw [eB_42, uA_s]; exact upd_s
      have nB_42 : ∀ k, k ≠ 10 → B_42 h0 k = B h0 k := fun k hk => by rw [eB_42, uA_s]; exact upd_n hk
      have fB_42 : ∀ c, G c ≠ 9 → B_42 c = B c := fun c hc => by rw [eB_42]; exact uA_n (fun e => hc (by rw [e]; exact hG))
      have hT : TX E G B_42 R H := by rw [eB_42]; exact hT.w (by rw [hG]; exact hn) ho
      have hWB_42 : TW G B_42 R := by rw [eB_42]; exact hW_0.w (by rw [hG]; exact tw_9 hW_0 hG)
      have hW := hWB_42
      refine lv_aload_n hx hb dX7_waitsTooLong_30 rfl (lv_at hl 0 rfl) ?_
      have ha_43 := tx_9 hT hG
      have l_44 : B_42 h0 10 = x_41 := sB_42
      refine va_get (D := DG E) (ci := 7) (v := .int (B_42 h0 10)) (C := RX7) (T := TX7) (N := 14) hx hb hts iw_X7 hown hK.1 (va_one ha_43) 0 rfl rfl 10 (by decide) (hts _ fl_X7_52) (fun _ h9 => h9) rfl dX7_waitsTooLong_31 ?_
      refine W.eq (g2 := F0 m 34 ls [.int x_41]) (by rw [l_44]) ?_
      refine lv_aload_n hx hb dX7_waitsTooLong_34 rfl (lv_at hl 0 rfl) ?_
      have l_45 : B_42 h0 13 = (B h0 13) := (nB_42 13 (by decide))
      refine va_get (D := DG E) (ci := 7) (v := .int (B_42 h0 13)) (C := RX7) (T := TX7) (N := 14) hx hb hts iw_X7 hown hK.1 (va_one ha_43) 0 rfl rfl 13 (by decide) (hts _ fl_X7_61) (fun _ h9 => h9) rfl dX7_waitsTooLong_35 ?_
      refine W.eq (g2 := F0 m 38 ls [.int (B h0 13), .int x_41]) (by rw [l_45]) ?_
      refine lv_if_eq (tgt := 45) hx hb dX7_waitsTooLong_38 (by decide) (fun c_46 => ?_) (fun c_46 => ?_)
      · simp only [lt_I, le_I, eq_I, i_0, i_1, i_2, i_3, i_4, i_5, i_6, i_7, i_8, i_10, i_12, i_16, i_20, i_23, i_24, i_31, i_32, i_63, i_64, i_m1] at c_46
        refine lv_aload_n hx hb dX7_waitsTooLong_45 rfl (lv_at hl 0 rfl) ?_
        have l_47 : B_42 h0 3 = (B h0 3) := (nB_42 3 (by decide))
        refine va_get (D := DG E) (ci := 7) (v := .int (B_42 h0 3)) (C := RX7) (T := TX7) (N := 14) hx hb hts iw_X7 hown hK.1 (va_one ha_43) 0 rfl rfl 3 (by decide) (hts _ fl_X7_27) (fun _ h9 => h9) rfl dX7_waitsTooLong_46 ?_
        refine W.eq (g2 := F0 m 49 ls [.int (B h0 3), .int x_41]) (by rw [l_47]) ?_
        refine lv_icmp_ge (tgt := 54) hx hb dX7_waitsTooLong_49 (by decide) (fun c_48 => ?_) (fun c_48 => ?_)
        · simp only [lt_I, le_I, eq_I, i_0, i_1, i_2, i_3, i_4, i_5, i_6, i_7, i_8, i_10, i_12, i_16, i_20, i_23, i_24, i_31, i_32, i_63, i_64, i_m1] at c_48
          refine lv_aload_n hx hb dX7_waitsTooLong_54 rfl (lv_at hl 0 rfl) ?_
          refine lv_iconst (v := 0) hx hb dX7_waitsTooLong_55 (by decide) ?_
          refine rr_put (D := DG E) (ci := 7) (v := .int 0) (ty := .int) (C := RX7) (T := TX7) (N := 14) hx hb hts iw_X7 tyX7 tyX7_ok nmX7 hown hK.1 ha_43 hS (by show G h0 ∈ ([9] : List Nat); rw [hG]; decide) rfl 10 (by decide) (hts _ fl_X7_52) (fun _ h9 => h9) rfl (by decide +kernel) rfl rfl (Nat.le_of_ble_eq_true rfl) dX7_waitsTooLong_56 (fun H locs hn ho hz hS => ?_)
          obtain ⟨B_49, eB_49⟩ : ∃ z : AA, z = uA B_42 h0 (upd (B_42 h0) 10 0) := ⟨_, rfl⟩
          have sB_49 : B_49 h0 10 = 0 := by rw [eB_49, uA_s]; exact upd_s
          have nB_49 : ∀ k, k ≠ 10 → B_49 h0 k = B_42 h0 k := fun k hk => by rw [eB_49, uA_s]; exact upd_n hk
          have fB_49 : ∀ c, G c ≠ 9 → B_49 c = B_42 c := fun c hc => by rw [eB_49]; exact uA_n (fun e => hc (by rw [e]; exact hG))
          have hT : TX E G B_49 R H := by rw [eB_49]; exact hT.w (by rw [hG]; exact hn) ho
          have hWB_49 : TW G B_49 R := by rw [eB_49]; exact hWB_42.w (by rw [hG]; exact tw_9 hWB_42 hG)
          have hW := hWB_49
          refine lv_aload_n hx hb dX7_waitsTooLong_59 rfl (lv_at hl 0 rfl) ?_
          have ha_50 := tx_9 hT hG
          have l_51 : B_49 h0 13 = (B h0 13) := ((nB_49 13 (by decide))).trans ((nB_42 13 (by decide)))
          refine va_get (D := DG E) (ci := 7) (v := .int (B_49 h0 13)) (C := RX7) (T := TX7) (N := 14) hx hb hts iw_X7 hown hK.1 (va_one ha_50) 0 rfl rfl 13 (by decide) (hts _ fl_X7_61) (fun _ h9 => h9) rfl dX7_waitsTooLong_60 ?_
          refine W.eq (g2 := F0 m 63 ls [.int (B h0 13)]) (by rw [l_51]) ?_
          refine lv_if_eq (tgt := 73) hx hb dX7_waitsTooLong_63 (by decide) (fun c_52 => ?_) (fun c_52 => ?_)
          · simp only [lt_I, le_I, eq_I, i_0, i_1, i_2, i_3, i_4, i_5, i_6, i_7, i_8, i_10, i_12, i_16, i_20, i_23, i_24, i_31, i_32, i_63, i_64, i_m1] at c_52
            refine lv_aload_n hx hb dX7_waitsTooLong_73 rfl (lv_at hl 0 rfl) ?_
            refine lv_dup hx hb dX7_waitsTooLong_74 rfl ?_
            have l_53 : B_49 h0 11 = (B h0 11) := ((nB_49 11 (by decide))).trans ((nB_42 11 (by decide)))
            refine va_get (D := DG E) (ci := 7) (v := .int (B_49 h0 11)) (C := RX7) (T := TX7) (N := 14) hx hb hts iw_X7 hown hK.1 (va_one ha_50) 0 rfl rfl 11 (by decide) (hts _ fl_X7_55) (fun _ h9 => h9) rfl dX7_waitsTooLong_75 ?_
            refine W.eq (g2 := F0 m 78 ls [.int (B h0 11), .ref h0]) (by rw [l_53]) ?_
            refine lv_iconst (v := 1) hx hb dX7_waitsTooLong_78 (by decide) ?_
            refine lv_iadd hx hb dX7_waitsTooLong_79 ?_
            refine lv_topi (fun x_54 ex_54 => ?_)
            refine rr_put (D := DG E) (ci := 7) (v := .int x_54) (ty := .int) (C := RX7) (T := TX7) (N := 14) hx hb hts iw_X7 tyX7 tyX7_ok nmX7 hown hK.1 ha_50 hS (by show G h0 ∈ ([9] : List Nat); rw [hG]; decide) rfl 11 (by decide) (hts _ fl_X7_55) (fun _ h9 => h9) rfl (by decide +kernel) rfl rfl (Nat.le_of_ble_eq_true rfl) dX7_waitsTooLong_80 (fun H locs hn ho hz hS => ?_)
            obtain ⟨B_55, eB_55⟩ : ∃ z : AA, z = uA B_49 h0 (upd (B_49 h0) 11 x_54) := ⟨_, rfl⟩
            have sB_55 : B_55 h0 11 = x_54 := by rw [eB_55, uA_s]; exact upd_s
            have nB_55 : ∀ k, k ≠ 11 → B_55 h0 k = B_49 h0 k := fun k hk => by rw [eB_55, uA_s]; exact upd_n hk
            have fB_55 : ∀ c, G c ≠ 9 → B_55 c = B_49 c := fun c hc => by rw [eB_55]; exact uA_n (fun e => hc (by rw [e]; exact hG))
            have hT : TX E G B_55 R H := by rw [eB_55]; exact hT.w (by rw [hG]; exact hn) ho
            have hWB_55 : TW G B_55 R := by rw [eB_55]; exact hWB_49.w (by rw [hG]; exact tw_9 hWB_49 hG)
            have hW := hWB_55
            refine lv_aload_n hx hb dX7_waitsTooLong_83 rfl (lv_at hl 0 rfl) ?_
            have ha_56 := tx_9 hT hG
            have l_57 : B_55 h0 11 = x_54 := sB_55
            refine va_get (D := DG E) (ci := 7) (v := .int (B_55 h0 11)) (C := RX7) (T := TX7) (N := 14) hx hb hts iw_X7 hown hK.1 (va_one ha_56) 0 rfl rfl 11 (by decide) (hts _ fl_X7_55) (fun _ h9 => h9) rfl dX7_waitsTooLong_84 ?_
            refine W.eq (g2 := F0 m 87 ls [.int x_54]) (by rw [l_57]) ?_
            refine lv_aload_n hx hb dX7_waitsTooLong_87 rfl (lv_at hl 0 rfl) ?_
            have l_58 : B_55 h0 4 = (B h0 4) := ((nB_55 4 (by decide))).trans (((nB_49 4 (by decide))).trans ((nB_42 4 (by decide))))
            refine va_get (D := DG E) (ci := 7) (v := .int (B_55 h0 4)) (C := RX7) (T := TX7) (N := 14) hx hb hts iw_X7 hown hK.1 (va_one ha_56) 0 rfl rfl 4 (by decide) (hts _ fl_X7_30) (fun _ h9 => h9) rfl dX7_waitsTooLong_88 ?_
            refine W.eq (g2 := F0 m 91 ls [.int (B h0 4), .int x_54]) (by rw [l_58]) ?_
            refine lv_icmp_le (tgt := 96) hx hb dX7_waitsTooLong_91 (by decide) (fun c_59 => ?_) (fun c_59 => ?_)
            · simp only [lt_I, le_I, eq_I, i_0, i_1, i_2, i_3, i_4, i_5, i_6, i_7, i_8, i_10, i_12, i_16, i_20, i_23, i_24, i_31, i_32, i_63, i_64, i_m1] at c_59
              refine lv_aload_n hx hb dX7_waitsTooLong_96 rfl (lv_at hl 0 rfl) ?_
              refine lv_aload_n hx hb dX7_waitsTooLong_97 rfl (lv_at hl 0 rfl) ?_
              have l_60 : B_55 h0 8 = (B h0 8) := ((nB_55 8 (by decide))).trans (((nB_49 8 (by decide))).trans ((nB_42 8 (by decide))))
              refine va_get (D := DG E) (ci := 7) (v := .int (B_55 h0 8)) (C := RX7) (T := TX7) (N := 14) hx hb hts iw_X7 hown hK.1 (va_one ha_56) 0 rfl rfl 8 (by decide) (hts _ fl_X7_68) (fun _ h9 => h9) rfl dX7_waitsTooLong_98 ?_
              refine W.eq (g2 := F0 m 101 ls [.int (B h0 8), .ref h0]) (by rw [l_60]) ?_
              refine rr_put (D := DG E) (ci := 7) (v := .int (B h0 8)) (ty := .int) (C := RX7) (T := TX7) (N := 14) hx hb hts iw_X7 tyX7 tyX7_ok nmX7 hown hK.1 ha_56 hS (by show G h0 ∈ ([9] : List Nat); rw [hG]; decide) rfl 9 (by decide) (hts _ fl_X7_71) (fun _ h9 => h9) rfl (by decide +kernel) rfl rfl (Nat.le_of_ble_eq_true rfl) dX7_waitsTooLong_101 (fun H locs hn ho hz hS => ?_)
              obtain ⟨B_61, eB_61⟩ : ∃ z : AA, z = uA B_55 h0 (upd (B_55 h0) 9 (B h0 8)) := ⟨_, rfl⟩
              have sB_61 : B_61 h0 9 = (B h0 8) := by rw [eB_61, uA_s]; exact upd_s
              have nB_61 : ∀ k, k ≠ 9 → B_61 h0 k = B_55 h0 k := fun k hk => by rw [eB_61, uA_s]; exact upd_n hk
              have fB_61 : ∀ c, G c ≠ 9 → B_61 c = B_55 c := fun c hc => by rw [eB_61]; exact uA_n (fun e => hc (by rw [e]; exact hG))
              have hT : TX E G B_61 R H := by rw [eB_61]; exact hT.w (by rw [hG]; exact hn) ho
              have hWB_61 : TW G B_61 R := by rw [eB_61]; exact hWB_55.w (by rw [hG]; exact tw_9 hWB_55 hG)
              have hW := hWB_61
              refine lv_iconst (v := 0) hx hb dX7_waitsTooLong_104 (by decide) ?_
              exact W.zret (v := 0) (ty := .boolean) hx hb hr rfl (fun t ht hW9 => ⟨⟨0, B_61, rfl, ⟨hW, (Fr.w (Fr.w (Fr.w (Fr.w Fr.rf hG (by decide) eB_42) hG (by decide) eB_49) hG (by decide) eB_55) hG (by decide) eB_61), (by decide), (Or.inr (Or.inr (Or.inr (Or.inr (Or.inr (Or.inr (Or.inr (Or.inr (Or.inl ⟨c_2, c_40, x_41, ex_41, B_42, eB_42, c_46, c_48, B_49, eB_49, c_52, x_54, ex_54, B_55, eB_55, c_59, B_61, eB_61, rfl, rfl⟩)))))))))⟩, (by show TX E G B_61 R t.heap; rw [ht]; exact hT)⟩, hS.F ht⟩) hS.2.2 dX7_waitsTooLong_105
            · simp only [lt_I, le_I, eq_I, i_0, i_1, i_2, i_3, i_4, i_5, i_6, i_7, i_8, i_10, i_12, i_16, i_20, i_23, i_24, i_31, i_32, i_63, i_64, i_m1] at c_59
              refine lv_iconst (v := 1) hx hb dX7_waitsTooLong_94 (by decide) ?_
              exact W.zret (v := 1) (ty := .boolean) hx hb hr rfl (fun t ht hW9 => ⟨⟨1, B_55, rfl, ⟨hW, (Fr.w (Fr.w (Fr.w Fr.rf hG (by decide) eB_42) hG (by decide) eB_49) hG (by decide) eB_55), (by decide), (Or.inr (Or.inr (Or.inr (Or.inr (Or.inr (Or.inr (Or.inr (Or.inr (Or.inr (Or.inl ⟨c_2, c_40, x_41, ex_41, B_42, eB_42, c_46, c_48, B_49, eB_49, c_52, x_54, ex_54, B_55, eB_55, c_59, rfl, rfl⟩))))))))))⟩, (by show TX E G B_55 R t.heap; rw [ht]; exact hT)⟩, hS.F ht⟩) hS.2.2 dX7_waitsTooLong_95
          · simp only [lt_I, le_I, eq_I, i_0, i_1, i_2, i_3, i_4, i_5, i_6, i_7, i_8, i_10, i_12, i_16, i_20, i_23, i_24, i_31, i_32, i_63, i_64, i_m1] at c_52
            refine lv_aload_n hx hb dX7_waitsTooLong_66 rfl (lv_at hl 0 rfl) ?_
            refine lv_iconst (v := 0) hx hb dX7_waitsTooLong_67 (by decide) ?_
            refine rr_put (D := DG E) (ci := 7) (v := .int 0) (ty := .boolean) (C := RX7) (T := TX7) (N := 14) hx hb hts iw_X7 tyX7 tyX7_ok nmX7 hown hK.1 ha_50 hS (by show G h0 ∈ ([9] : List Nat); rw [hG]; decide) rfl 13 (by decide) (hts _ fl_X7_61) (fun _ h9 => h9) rfl (by decide +kernel) rfl rfl (Nat.le_of_ble_eq_true rfl) dX7_waitsTooLong_68 (fun H locs hn ho hz hS => ?_)
            obtain ⟨B_62, eB_62⟩ : ∃ z : AA, z = uA B_49 h0 (upd (B_49 h0) 13 0) := ⟨_, rfl⟩
            have sB_62 : B_62 h0 13 = 0 := by rw [eB_62, uA_s]; exact upd_s
            have nB_62 : ∀ k, k ≠ 13 → B_62 h0 k = B_49 h0 k := fun k hk => by rw [eB_62, uA_s]; exact upd_n hk
            have fB_62 : ∀ c, G c ≠ 9 → B_62 c = B_49 c := fun c hc => by rw [eB_62]; exact uA_n (fun e => hc (by rw [e]; exact hG))
            have hT : TX E G B_62 R H := by rw [eB_62]; exact hT.w (by rw [hG]; exact hn) ho
            have hWB_62 : TW G B_62 R := by rw [eB_62]; exact hWB_49.w (by rw [hG]; exact tw_9 hWB_49 hG)
            have hW := hWB_62
            refine lv_iconst (v := 0) hx hb dX7_waitsTooLong_71 (by decide) ?_
            exact W.zret (v := 0) (ty := .boolean) hx hb hr rfl (fun t ht hW9 => ⟨⟨0, B_62, rfl, ⟨hW, (Fr.w (Fr.w (Fr.w Fr.rf hG (by decide) eB_42) hG (by decide) eB_49) hG (by decide) eB_62), (by decide), (Or.inr (Or.inr (Or.inr (Or.inr (Or.inr (Or.inr (Or.inr (Or.inr (Or.inr (Or.inr (Or.inl ⟨c_2, c_40, x_41, ex_41, B_42, eB_42, c_46, c_48, B_49, eB_49, c_52, B_62, eB_62, rfl, rfl⟩)))))))))))⟩, (by show TX E G B_62 R t.heap; rw [ht]; exact hT)⟩, hS.F ht⟩) hS.2.2 dX7_waitsTooLong_72
        · simp only [lt_I, le_I, eq_I, i_0, i_1, i_2, i_3, i_4, i_5, i_6, i_7, i_8, i_10, i_12, i_16, i_20, i_23, i_24, i_31, i_32, i_63, i_64, i_m1] at c_48
          refine lv_iconst (v := 0) hx hb dX7_waitsTooLong_52 (by decide) ?_
          exact W.zret (v := 0) (ty := .boolean) hx hb hr rfl (fun t ht hW9 => ⟨⟨0, B_42, rfl, ⟨hW, (Fr.w Fr.rf hG (by decide) eB_42), (by decide), (Or.inr (Or.inr (Or.inr (Or.inr (Or.inr (Or.inr (Or.inr (Or.inr (Or.inr (Or.inr (Or.inr (Or.inl ⟨c_2, c_40, x_41, ex_41, B_42, eB_42, c_46, c_48, rfl, rfl⟩))))))))))))⟩, (by show TX E G B_42 R t.heap; rw [ht]; exact hT)⟩, hS.F ht⟩) hS.2.2 dX7_waitsTooLong_53
      · simp only [lt_I, le_I, eq_I, i_0, i_1, i_2, i_3, i_4, i_5, i_6, i_7, i_8, i_10, i_12, i_16, i_20, i_23, i_24, i_31, i_32, i_63, i_64, i_m1] at c_46
        refine lv_iconst (v := 3) hx hb dX7_waitsTooLong_41 (by decide) ?_
        refine lv_goto (tgt := 49) hx hb dX7_waitsTooLong_42 (by decide) ?_
        refine lv_icmp_ge (tgt := 54) hx hb dX7_waitsTooLong_49 (by decide) (fun c_63 => ?_) (fun c_63 => ?_)
        · simp only [lt_I, le_I, eq_I, i_0, i_1, i_2, i_3, i_4, i_5, i_6, i_7, i_8, i_10, i_12, i_16, i_20, i_23, i_24, i_31, i_32, i_63, i_64, i_m1] at c_63
          refine lv_aload_n hx hb dX7_waitsTooLong_54 rfl (lv_at hl 0 rfl) ?_
          refine lv_iconst (v := 0) hx hb dX7_waitsTooLong_55 (by decide) ?_
          refine rr_put (D := DG E) (ci := 7) (v := .int 0) (ty := .int) (C := RX7) (T := TX7) (N := 14) hx hb hts iw_X7 tyX7 tyX7_ok nmX7 hown hK.1 ha_43 hS (by show G h0 ∈ ([9] : List Nat); rw [hG]; decide) rfl 10 (by decide) (hts _ fl_X7_52) (fun _ h9 => h9) rfl (by decide +kernel) rfl rfl (Nat.le_of_ble_eq_true rfl) dX7_waitsTooLong_56 (fun H locs hn ho hz hS => ?_)
          obtain ⟨B_64, eB_64⟩ : ∃ z : AA, z = uA B_42 h0 (upd (B_42 h0) 10 0) := ⟨_, rfl⟩
          have sB_64 : B_64 h0 10 = 0 := by rw [eB_64, uA_s]; exact upd_s
          have nB_64 : ∀ k, k ≠ 10 → B_64 h0 k = B_42 h0 k := fun k hk => by rw [eB_64, uA_s]; exact upd_n hk
          have fB_64 : ∀ c, G c ≠ 9 → B_64 c = B_42 c := fun c hc => by rw [eB_64]; exact uA_n (fun e => hc (by rw [e]; exact hG))
          have hT : TX E G B_64 R H := by rw [eB_64]; exact hT.w (by rw [hG]; exact hn) ho
          have hWB_64 : TW G B_64 R := by rw [eB_64]; exact hWB_42.w (by rw [hG]; exact tw_9 hWB_42 hG)
          have hW := hWB_64
          refine lv_aload_n hx hb dX7_waitsTooLong_59 rfl (lv_at hl 0 rfl) ?_
          have ha_65 := tx_9 hT hG
          have l_66 : B_64 h0 13 = (B h0 13) := ((nB_64 13 (by decide))).trans ((nB_42 13 (by decide)))
          refine va_get (D := DG E) (ci := 7) (v := .int (B_64 h0 13)) (C := RX7) (T := TX7) (N := 14) hx hb hts iw_X7 hown hK.1 (va_one ha_65) 0 rfl rfl 13 (by decide) (hts _ fl_X7_61) (fun _ h9 => h9) rfl dX7_waitsTooLong_60 ?_
          refine W.eq (g2 := F0 m 63 ls [.int (B h0 13)]) (by rw [l_66]) ?_
          refine lv_if_eq (tgt := 73) hx hb dX7_waitsTooLong_63 (by decide) (fun c_67 => ?_) (fun c_67 => ?_)
          · simp only [lt_I, le_I, eq_I, i_0, i_1, i_2, i_3, i_4, i_5, i_6, i_7, i_8, i_10, i_12, i_16, i_20, i_23, i_24, i_31, i_32, i_63, i_64, i_m1] at c_67
            refine lv_aload_n hx hb dX7_waitsTooLong_73 rfl (lv_at hl 0 rfl) ?_
            refine lv_dup hx hb dX7_waitsTooLong_74 rfl ?_
            have l_68 : B_64 h0 11 = (B h0 11) := ((nB_64 11 (by decide))).trans ((nB_42 11 (by decide)))
            refine va_get (D := DG E) (ci := 7) (v := .int (B_64 h0 11)) (C := RX7) (T := TX7) (N := 14) hx hb hts iw_X7 hown hK.1 (va_one ha_65) 0 rfl rfl 11 (by decide) (hts _ fl_X7_55) (fun _ h9 => h9) rfl dX7_waitsTooLong_75 ?_
            refine W.eq (g2 := F0 m 78 ls [.int (B h0 11), .ref h0]) (by rw [l_68]) ?_
            refine lv_iconst (v := 1) hx hb dX7_waitsTooLong_78 (by decide) ?_
            refine lv_iadd hx hb dX7_waitsTooLong_79 ?_
            refine lv_topi (fun x_69 ex_69 => ?_)
            refine rr_put (D := DG E) (ci := 7) (v := .int x_69) (ty := .int) (C := RX7) (T := TX7) (N := 14) hx hb hts iw_X7 tyX7 tyX7_ok nmX7 hown hK.1 ha_65 hS (by show G h0 ∈ ([9] : List Nat); rw [hG]; decide) rfl 11 (by decide) (hts _ fl_X7_55) (fun _ h9 => h9) rfl (by decide +kernel) rfl rfl (Nat.le_of_ble_eq_true rfl) dX7_waitsTooLong_80 (fun H locs hn ho hz hS => ?_)
            obtain ⟨B_70, eB_70⟩ : ∃ z : AA, z = uA B_64 h0 (upd (B_64 h0) 11 x_69) := ⟨_, rfl⟩
            have sB_70 : B_70 h0 11 = x_69 := by rw [eB_70, uA_s]; exact upd_s
            have nB_70 : ∀ k, k ≠ 11 → B_70 h0 k = B_64 h0 k := fun k hk => by rw [eB_70, uA_s]; exact upd_n hk
            have fB_70 : ∀ c, G c ≠ 9 → B_70 c = B_64 c := fun c hc => by rw [eB_70]; exact uA_n (fun e => hc (by rw [e]; exact hG))
            have hT : TX E G B_70 R H := by rw [eB_70]; exact hT.w (by rw [hG]; exact hn) ho
            have hWB_70 : TW G B_70 R := by rw [eB_70]; exact hWB_64.w (by rw [hG]; exact tw_9 hWB_64 hG)
            have hW := hWB_70
            refine lv_aload_n hx hb dX7_waitsTooLong_83 rfl (lv_at hl 0 rfl) ?_
            have ha_71 := tx_9 hT hG
            have l_72 : B_70 h0 11 = x_69 := sB_70
            refine va_get (D := DG E) (ci := 7) (v := .int (B_70 h0 11)) (C := RX7) (T := TX7) (N := 14) hx hb hts iw_X7 hown hK.1 (va_one ha_71) 0 rfl rfl 11 (by decide) (hts _ fl_X7_55) (fun _ h9 => h9) rfl dX7_waitsTooLong_84 ?_
            refine W.eq (g2 := F0 m 87 ls [.int x_69]) (by rw [l_72]) ?_
            refine lv_aload_n hx hb dX7_waitsTooLong_87 rfl (lv_at hl 0 rfl) ?_
            have l_73 : B_70 h0 4 = (B h0 4) := ((nB_70 4 (by decide))).trans (((nB_64 4 (by decide))).trans ((nB_42 4 (by decide))))
            refine va_get (D := DG E) (ci := 7) (v := .int (B_70 h0 4)) (C := RX7) (T := TX7) (N := 14) hx hb hts iw_X7 hown hK.1 (va_one ha_71) 0 rfl rfl 4 (by decide) (hts _ fl_X7_30) (fun _ h9 => h9) rfl dX7_waitsTooLong_88 ?_
            refine W.eq (g2 := F0 m 91 ls [.int (B h0 4), .int x_69]) (by rw [l_73]) ?_
            refine lv_icmp_le (tgt := 96) hx hb dX7_waitsTooLong_91 (by decide) (fun c_74 => ?_) (fun c_74 => ?_)
            · simp only [lt_I, le_I, eq_I, i_0, i_1, i_2, i_3, i_4, i_5, i_6, i_7, i_8, i_10, i_12, i_16, i_20, i_23, i_24, i_31, i_32, i_63, i_64, i_m1] at c_74
              refine lv_aload_n hx hb dX7_waitsTooLong_96 rfl (lv_at hl 0 rfl) ?_
              refine lv_aload_n hx hb dX7_waitsTooLong_97 rfl (lv_at hl 0 rfl) ?_
              have l_75 : B_70 h0 8 = (B h0 8) := ((nB_70 8 (by decide))).trans (((nB_64 8 (by decide))).trans ((nB_42 8 (by decide))))
              refine va_get (D := DG E) (ci := 7) (v := .int (B_70 h0 8)) (C := RX7) (T := TX7) (N := 14) hx hb hts iw_X7 hown hK.1 (va_one ha_71) 0 rfl rfl 8 (by decide) (hts _ fl_X7_68) (fun _ h9 => h9) rfl dX7_waitsTooLong_98 ?_
              refine W.eq (g2 := F0 m 101 ls [.int (B h0 8), .ref h0]) (by rw [l_75]) ?_
              refine rr_put (D := DG E) (ci := 7) (v := .int (B h0 8)) (ty := .int) (C := RX7) (T := TX7) (N := 14) hx hb hts iw_X7 tyX7 tyX7_ok nmX7 hown hK.1 ha_71 hS (by show G h0 ∈ ([9] : List Nat); rw [hG]; decide) rfl 9 (by decide) (hts _ fl_X7_71) (fun _ h9 => h9) rfl (by decide +kernel) rfl rfl (Nat.le_of_ble_eq_true rfl) dX7_waitsTooLong_101 (fun H locs hn ho hz hS => ?_)
              obtain ⟨B_76, eB_76⟩ : ∃ z : AA, z = uA B_70 h0 (upd (B_70 h0) 9 (B h0 8)) := ⟨_, rfl⟩
              have sB_76 : B_76 h0 9 = (B h0 8) := by rw [eB_76, uA_s]; exact upd_s
              have nB_76 : ∀ k, k ≠ 9 → B_76 h0 k = B_70 h0 k := fun k hk => by rw [eB_76, uA_s]; exact upd_n hk
              have fB_76 : ∀ c, G c ≠ 9 → B_76 c = B_70 c := fun c hc => by rw [eB_76]; exact uA_n (fun e => hc (by rw [e]; exact hG))
              have hT : TX E G B_76 R H := by rw [eB_76]; exact hT.w (by rw [hG]; exact hn) ho
              have hWB_76 : TW G B_76 R := by rw [eB_76]; exact hWB_70.w (by rw [hG]; exact tw_9 hWB_70 hG)
              have hW := hWB_76
              refine lv_iconst (v := 0) hx hb dX7_waitsTooLong_104 (by decide) ?_
              exact W.zret (v := 0) (ty := .boolean) hx hb hr rfl (fun t ht hW9 => ⟨⟨0, B_76, rfl, ⟨hW, (Fr.w (Fr.w (Fr.w (Fr.w Fr.rf hG (by decide) eB_42) hG (by decide) eB_64) hG (by decide) eB_70) hG (by decide) eB_76), (by decide), (Or.inr (Or.inr (Or.inr (Or.inr (Or.inr (Or.inr (Or.inr (Or.inr (Or.inr (Or.inr (Or.inr (Or.inr (Or.inl ⟨c_2, c_40, x_41, ex_41, B_42, eB_42, c_46, c_63, B_64, eB_64, c_67, x_69, ex_69, B_70, eB_70, c_74, B_76, eB_76, rfl, rfl⟩)))))))))))))⟩, (by show TX E G B_76 R t.heap; rw [ht]; exact hT)⟩, hS.F ht⟩) hS.2.2 dX7_waitsTooLong_105
            · simp only [lt_I, le_I, eq_I, i_0, i_1, i_2, i_3, i_4, i_5, i_6, i_7, i_8, i_10, i_12, i_16, i_20, i_23, i_24, i_31, i_32, i_63, i_64, i_m1] at c_74
              refine lv_iconst (v := 1) hx hb dX7_waitsTooLong_94 (by decide) ?_
              exact W.zret (v := 1) (ty := .boolean) hx hb hr rfl (fun t ht hW9 => ⟨⟨1, B_70, rfl, ⟨hW, (Fr.w (Fr.w (Fr.w Fr.rf hG (by decide) eB_42) hG (by decide) eB_64) hG (by decide) eB_70), (by decide), (Or.inr (Or.inr (Or.inr (Or.inr (Or.inr (Or.inr (Or.inr (Or.inr (Or.inr (Or.inr (Or.inr (Or.inr (Or.inr (Or.inl ⟨c_2, c_40, x_41, ex_41, B_42, eB_42, c_46, c_63, B_64, eB_64, c_67, x_69, ex_69, B_70, eB_70, c_74, rfl, rfl⟩))))))))))))))⟩, (by show TX E G B_70 R t.heap; rw [ht]; exact hT)⟩, hS.F ht⟩) hS.2.2 dX7_waitsTooLong_95
          · simp only [lt_I, le_I, eq_I, i_0, i_1, i_2, i_3, i_4, i_5, i_6, i_7, i_8, i_10, i_12, i_16, i_20, i_23, i_24, i_31, i_32, i_63, i_64, i_m1] at c_67
            refine lv_aload_n hx hb dX7_waitsTooLong_66 rfl (lv_at hl 0 rfl) ?_
            refine lv_iconst (v := 0) hx hb dX7_waitsTooLong_67 (by decide) ?_
            refine rr_put (D := DG E) (ci := 7) (v := .int 0) (ty := .boolean) (C := RX7) (T := TX7) (N := 14) hx hb hts iw_X7 tyX7 tyX7_ok nmX7 hown hK.1 ha_65 hS (by show G h0 ∈ ([9] : List Nat); rw [hG]; decide) rfl 13 (by decide) (hts _ fl_X7_61) (fun _ h9 => h9) rfl (by decide +kernel) rfl rfl (Nat.le_of_ble_eq_true rfl) dX7_waitsTooLong_68 (fun H locs hn ho hz hS => ?_)
            obtain ⟨B_77, eB_77⟩ : ∃ z : AA, z = uA B_64 h0 (upd (B_64 h0) 13 0) := ⟨_, rfl⟩
            have sB_77 : B_77 h0 13 = 0 := by rw [eB_77, uA_s]; exact upd_s
            have nB_77 : ∀ k, k ≠ 13 → B_77 h0 k = B_64 h0 k := fun k hk => by rw [eB_77, uA_s]; exact upd_n hk
            have fB_77 : ∀ c, G c ≠ 9 → B_77 c = B_64 c := fun c hc => by rw [eB_77]; exact uA_n (fun e => hc (by rw [e]; exact hG))
            have hT : TX E G B_77 R H := by rw [eB_77]; exact hT.w (by rw [hG]; exact hn) ho
            have hWB_77 : TW G B_77 R := by rw [eB_77]; exact hWB_64.w (by rw [hG]; exact tw_9 hWB_64 hG)
            have hW := hWB_77
            refine lv_iconst (v := 0) hx hb dX7_waitsTooLong_71 (by decide) ?_
            exact W.zret (v := 0) (ty := .boolean) hx hb hr rfl (fun t ht hW9 => ⟨⟨0, B_77, rfl, ⟨hW, (Fr.w (Fr.w (Fr.w Fr.rf hG (by decide) eB_42) hG (by decide) eB_64) hG (by decide) eB_77), (by decide), (Or.inr (Or.inr (Or.inr (Or.inr (Or.inr (Or.inr (Or.inr (Or.inr (Or.inr (Or.inr (Or.inr (Or.inr (Or.inr (Or.inr (Or.inl ⟨c_2, c_40, x_41, ex_41, B_42, eB_42, c_46, c_63, B_64, eB_64, c_67, B_77, eB_77, rfl, rfl⟩)))))))))))))))⟩, (by show TX E G B_77 R t.heap; rw [ht]; exact hT)⟩, hS.F ht⟩) hS.2.2 dX7_waitsTooLong_72
        · simp only [lt_I, le_I, eq_I, i_0, i_1, i_2, i_3, i_4, i_5, i_6, i_7, i_8, i_10, i_12, i_16, i_20, i_23, i_24, i_31, i_32, i_63, i_64, i_m1] at c_63
          refine lv_iconst (v := 0) hx hb dX7_waitsTooLong_52 (by decide) ?_
          exact W.zret (v := 0) (ty := .boolean) hx hb hr rfl (fun t ht hW9 => ⟨⟨0, B_42, rfl, ⟨hW, (Fr.w Fr.rf hG (by decide) eB_42), (by decide), (Or.inr (Or.inr (Or.inr (Or.inr (Or.inr (Or.inr (Or.inr (Or.inr (Or.inr (Or.inr (Or.inr (Or.inr (Or.inr (Or.inr (Or.inr (Or.inl ⟨c_2, c_40, x_41, ex_41, B_42, eB_42, c_46, c_63, rfl, rfl⟩))))))))))))))))⟩, (by show TX E G B_42 R t.heap; rw [ht]; exact hT)⟩, hS.F ht⟩) hS.2.2 dX7_waitsTooLong_53
    · simp only [lt_I, le_I, eq_I, i_0, i_1, i_2, i_3, i_4, i_5, i_6, i_7, i_8, i_10, i_12, i_16, i_20, i_23, i_24, i_31, i_32, i_63, i_64, i_m1] at c_40
      refine lv_iconst (v := 0) hx hb dX7_waitsTooLong_18 (by decide) ?_
      exact W.zret (v := 0) (ty := .boolean) hx hb hr rfl (fun t ht hW9 => ⟨⟨0, B, rfl, ⟨hW, Fr.rf, (by decide), (Or.inr (Or.inr (Or.inr (Or.inr (Or.inr (Or.inr (Or.inr (Or.inr (Or.inr (Or.inr (Or.inr (Or.inr (Or.inr (Or.inr (Or.inr (Or.inr ⟨c_2, c_40, rfl, rfl⟩))))))))))))))))⟩, (by show TX E G B R t.heap; rw [ht]; exact hT)⟩, hS.F ht⟩) hS.2.2 dX7_waitsTooLong_19
end
