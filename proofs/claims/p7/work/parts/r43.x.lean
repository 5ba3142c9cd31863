theorem dX9_after_0 : decode cX9_after 0 = .ok (.iload_n 0, 1) := by decide +kernel
theorem dX9_after_1 : decode cX9_after 1 = .ok (.iload_n 1, 1) := by decide +kernel
theorem dX9_after_2 : decode cX9_after 2 = .ok (.iadd, 1) := by decide +kernel
theorem dX9_after_3 : decode cX9_after 3 = .ok (.bipush 63, 2) := by decide +kernel
theorem dX9_after_5 : decode cX9_after 5 = .ok (.iand, 1) := by decide +kernel
theorem dX9_after_6 : decode cX9_after 6 = .ok (.ireturn, 1) := by decide +kernel
set_option maxHeartbeats 4000000 in
set_option maxRecDepth 100000 in
theorem c_X9_after (l : Launch) (p0 p1 : Int32) : Met l yX9_after [Cond.code yX9_after cX9_after 2 (some .int)] ({ frames := 0, cells := 0, slots := 0, locals := 0 } : Room) (fun v _ => v = ([.int p0, .int p1] : List Value).toArray) (QcRead ((p0 + p1) &&& 63)) 0 0 (fun _ => False) := by
  refine Met.ofW (cc := cX9_after) (maxL := 2) (ret := (some .int)) (by decide) rfl ?_
  intro p e s m args below meth c s₁ B hml hv
  subst hv
  have hx := B.exec
  have hb := B.bytes
  have hr := B.returns
  have hlocks := B.notSynchronized
  have hl := lv_entry ([.int p0, .int p1]) (n := 2) (Nat.le_of_ble_eq_true rfl)
  rw [lg_entry_eq]
  generalize (lg_sl ([.int p0, .int p1]) ++ List.replicate (2 - (lg_sl ([.int p0, .int p1])).length) Slot.unset).toArray = ls at hl ⊢
  have hl : lv_has ls 2 [(0, .int p0), (1, .int p1)] := hl
  refine lv_iload_n hx hb dX9_after_0 rfl (lv_at hl 0 rfl) ?_
  refine lv_iload_n hx hb dX9_after_1 rfl (lv_at hl 1 rfl) ?_
  refine lv_iadd hx hb dX9_after_2 ?_
  refine lv_bipush (v := 63) hx hb dX9_after_3 (by decide) ?_
  refine lv_iand hx hb dX9_after_5 ?_
  exact W.iret (v := ((p0 + p1) &&& 63)) hx hb hr (fun t ht hW => ⟨rfl, ht⟩) (fun q hq => nomatch hq) dX9_after_6
theorem dX9_distance_0 : decode cX9_distance 0 = .ok (.iload_n 1, 1) := by decide +kernel
theorem dX9_distance_1 : decode cX9_distance 1 = .ok (.iload_n 0, 1) := by decide +kernel
theorem dX9_distance_2 : decode cX9_distance 2 = .ok (.isub, 1) := by decide +kernel
theorem dX9_distance_3 : decode cX9_distance 3 = .ok (.bipush 63, 2) := by decide +kernel
theorem dX9_distance_5 : decode cX9_distance 5 = .ok (.iand, 1) := by decide +kernel
theorem dX9_distance_6 : decode cX9_distance 6 = .ok (.ireturn, 1) := by decide +kernel
set_option maxHeartbeats 4000000 in
set_option maxRecDepth 100000 in
theorem c_X9_distance (l : Launch) (p0 p1 : Int32) : Met l yX9_distance [Cond.code yX9_distance cX9_distance 2 (some .int)] ({ frames := 0, cells := 0, slots := 0, locals := 0 } : Room) (fun v _ => v = ([.int p0, .int p1] : List Value).toArray) (QcRead ((p1 - p0) &&& 63)) 0 0 (fun _ => False) := by
  refine Met.ofW (cc := cX9_distance) (maxL := 2) (ret := (some .int)) (by decide) rfl ?_
  intro p e s m args below meth c s₁ B hml hv
  subst hv
  have hx := B.exec
  have hb := B.bytes
  have hr := B.returns
  have hlocks := B.notSynchronized
  have hl := lv_entry ([.int p0, .int p1]) (n := 2) (Nat.le_of_ble_eq_true rfl)
  rw [lg_entry_eq]
  generalize (lg_sl ([.int p0, .int p1]) ++ List.replicate (2 - (lg_sl ([.int p0, .int p1])).length) Slot.unset).toArray = ls at hl ⊢
  have hl : lv_has ls 2 [(0, .int p0), (1, .int p1)] := hl
  refine lv_iload_n hx hb dX9_distance_0 rfl (lv_at hl 1 rfl) ?_
  refine lv_iload_n hx hb dX9_distance_1 rfl (lv_at hl 0 rfl) ?_
  refine lv_isub hx hb dX9_distance_2 ?_
  refine lv_bipush (v := 63) hx hb dX9_distance_3 (by decide) ?_
  refine lv_iand hx hb dX9_distance_5 ?_
  exact W.iret (v := ((p1 - p0) &&& 63)) hx hb hr (fun t ht hW => ⟨rfl, ht⟩) (fun q hq => nomatch hq) dX9_distance_6
theorem dX9_numbersFor_0 : decode cX9_numbersFor 0 = .ok (.iload_n 0, 1) := by decide +kernel
theorem dX9_numbersFor_1 : decode cX9_numbersFor 1 = .ok (.iconst 4, 1) := by decide +kernel
theorem dX9_numbersFor_2 : decode cX9_numbersFor 2 = .ok (.iadd, 1) := by decide +kernel
theorem dX9_numbersFor_3 : decode cX9_numbersFor 3 = .ok (.iconst 1, 1) := by decide +kernel
theorem dX9_numbersFor_4 : decode cX9_numbersFor 4 = .ok (.isub, 1) := by decide +kernel
theorem dX9_numbersFor_5 : decode cX9_numbersFor 5 = .ok (.iconst 4, 1) := by decide +kernel
theorem dX9_numbersFor_6 : decode cX9_numbersFor 6 = .ok (.idiv, 1) := by decide +kernel
theorem dX9_numbersFor_7 : decode cX9_numbersFor 7 = .ok (.ireturn, 1) := by decide +kernel
set_option maxHeartbeats 4000000 in
set_option maxRecDepth 100000 in
theorem c_X9_numbersFor (l : Launch) (p0 : Int32) : Met l yX9_numbersFor [Cond.code yX9_numbersFor cX9_numbersFor 1 (some .int)] ({ frames := 0, cells := 0, slots := 0, locals := 0 } : Room) (fun v _ => v = ([.int p0] : List Value).toArray) (QcRead (((p0 + 4) - 1) / 4)) 0 0 (fun _ => False) := by
  refine Met.ofW (cc := cX9_numbersFor) (maxL := 1) (ret := (some .int)) (by decide) rfl ?_
  intro p e s m args below meth c s₁ B hml hv
  subst hv
  have hx := B.exec
  have hb := B.bytes
  have hr := B.returns
  have hlocks := B.notSynchronized
  have hl := lv_entry ([.int p0]) (n := 1) (Nat.le_of_ble_eq_true rfl)
  rw [lg_entry_eq]
  generalize (lg_sl ([.int p0]) ++ List.replicate (1 - (lg_sl ([.int p0])).length) Slot.unset).toArray = ls at hl ⊢
  have hl : lv_has ls 1 [(0, .int p0)] := hl
  refine lv_iload_n hx hb dX9_numbersFor_0 rfl (lv_at hl 0 rfl) ?_
  refine lv_iconst (v := 4) hx hb dX9_numbersFor_1 (by decide) ?_
  refine lv_iadd hx hb dX9_numbersFor_2 ?_
  refine lv_iconst (v := 1) hx hb dX9_numbersFor_3 (by decide) ?_
  refine lv_isub hx hb dX9_numbersFor_4 ?_
  refine lv_iconst (v := 4) hx hb dX9_numbersFor_5 (by decide) ?_
  refine lv_idiv hx hb dX9_numbersFor_6 (by decide) ?_
  exact W.iret (v := (((p0 + 4) - 1) / 4)) hx hb hr (fun t ht hW => ⟨rfl, ht⟩) (fun q hq => nomatch hq) dX9_numbersFor_7
theorem dX9_before_0 : decode cX9_before 0 = .ok (.iload_n 0, 1) := by decide +kernel
theorem dX9_before_1 : decode cX9_before 1 = .ok (.iconst (-1), 1) := by decide +kernel
theorem dX9_before_2 : decode cX9_before 2 = .ok (.invokestatic 203, 3) := by decide +kernel
theorem dX9_before_5 : decode cX9_before 5 = .ok (.ireturn, 1) := by decide +kernel
set_option maxHeartbeats 4000000 in
set_option maxRecDepth 100000 in
theorem x_X9_before (l : Launch) (E : EE) (z0 : Nat) (p0 : Int32) : Met l yX9_before [Cond.code yX9_before cX9_before 1 (some .int)] ({ frames := 1, cells := 0, slots := 0, locals := 21 } : Room) (va_Pc [.int p0] (fun U => True ∧ KS E z0 U)) (va_Qi (fun (r : Int32) (_ : Unit) => r = (p0 + (-1)) &&& 63) (fun _ _ => True) (fun _ : Nat => False)) 0 0 (fun _ : Nat => False) := by
  refine Met.ofW (cc := cX9_before) (maxL := 1) (ret := (some .int)) (by decide) rfl ?_
  intro p e s m args below meth c s₁ B hml hv
  obtain ⟨rfl, -, hK⟩ := hv
  have hx := B.exec
  have hb := B.bytes
  have hr := B.returns
  have hts : ∀ w ∈ TS, w.before ([.int p0] : List Value).toArray s = true := fun w hw => hK.2.1 w hw _
  have hown : s.vm.findClass RX9 = some m.cls := findClass_of_methodNamed B.named
  have hS : va_S (fun _ : Nat => False) s.heap s.heap [] := va_S.rf
  have hl := lv_entry ([.int p0]) (n := 1) (Nat.le_of_ble_eq_true rfl)
  rw [lg_entry_eq]
  generalize (lg_sl ([.int p0]) ++ List.replicate (1 - (lg_sl ([.int p0])).length) Slot.unset).toArray = ls at hl ⊢
  have hl : lv_has ls 1 [(0, .int p0)] := hl
  refine lv_iload_n hx hb dX9_before_0 rfl (lv_at hl 0 rfl) ?_
  refine lv_iconst (v := (-1)) hx hb dX9_before_1 (by decide) ?_
  refine W.callR (W.runS (As := [.int p0, .int (-1)]) (rest := []) ⟨hx, hb, hml, hown, hts⟩ (c_X9_after l p0 ((-1))) (cwS 2 hts (gdS ml_X9_203 st_X9_after in_X9 co_X9_after rfl) rfl rfl rfl (by decide +kernel) ⟨Nat.le_of_ble_eq_true rfl, Nat.le_of_ble_eq_true rfl⟩) preEq rfl rfl hl.1 rfl (lv_room (Nat.le_of_ble_eq_true rfl)) dX9_before_2 ⟨Nat.le_of_ble_eq_true rfl, Nat.le_of_ble_eq_true rfl⟩) ?_
  refine W.eq (g2 := F0 m 5 ls [.int ((p0 + (-1)) &&& 63)]) (by rfl) ?_
  exact W.iret (v := (p0 + (-1)) &&& 63) hx hb hr (fun t ht hW => ⟨⟨_, (), rfl, rfl, trivial⟩, hS.F ht⟩) hS.2.2 dX9_before_5
theorem dX6_become_0 : decode cX6_become 0 = .ok (.aload_n 0, 1) := by decide +kernel
theorem dX6_become_1 : decode cX6_become 1 = .ok (.iload_n 1, 1) := by decide +kernel
theorem dX6_become_2 : decode cX6_become 2 = .ok (.putfield 7, 3) := by decide +kernel
theorem dX6_become_5 : decode cX6_become 5 = .ok (.aload_n 0, 1) := by decide +kernel
theorem dX6_become_6 : decode cX6_become 6 = .ok (.iload_n 2, 1) := by decide +kernel
theorem dX6_become_7 : decode cX6_become 7 = .ok (.putfield 13, 3) := by decide +kernel
theorem dX6_become_10 : decode cX6_become 10 = .ok (.aload_n 0, 1) := by decide +kernel
theorem dX6_become_11 : decode cX6_become 11 = .ok (.iload_n 3, 1) := by decide +kernel
theorem dX6_become_12 : decode cX6_become 12 = .ok (.putfield 16, 3) := by decide +kernel
theorem dX6_become_15 : decode cX6_become 15 = .ok (.return_, 1) := by decide +kernel
set_option maxHeartbeats 8000000 in
set_option maxRecDepth 100000 in
theorem x_X6_become (l : Launch) (E : EE) (z0 : Nat) (G : Nat → Nat) (hGz : ∀ q, G q ≠ 0 → z0 ≤ q) (B : AA) (R : RR) (hW : TW G B R) (h0 : Nat) (p0 : Int32) (p1 : Int32) (p2 : Int32) (hG : G h0 = 7) : Met l yX6_become [Cond.code yX6_become cX6_become 4 none] ({ frames := 0, cells := 0, slots := 0, locals := 0 } : Room) (va_Pc [.ref h0, .int p0, .int p1, .int p2] (fun U => TX E G B R U.heap ∧ KS E z0 U)) (va_Qv (fun (u : AA) => (TW G u R) ∧ (Fr G ([7] : List Nat) B u) ∧ (C_X6_become G B R h0 p0 p1 p2 u)) (fun u t => TX E G u R t.heap) (fun q : Nat => G q ∈ ([7] : List Nat))) 0 0 (fun q : Nat => G q ∈ ([7] : List Nat)) := by
  refine Met.ofW (cc := cX6_become) (maxL := 4) (ret := none) (by decide) rfl ?_
  intro p e s m args below meth c s₁ B9 hml hv
  obtain ⟨rfl, hT, hK⟩ := hv
  have hx := B9.exec
  have hb := B9.bytes
  have hr := B9.returns
  have hts : ∀ w ∈ TS, w.before ([.ref h0, .int p0, .int p1, .int p2] : List Value).toArray s = true := fun w hw => hK.2.1 w hw _
  have hown : s.vm.findClass RX6 = some m.cls := findClass_of_methodNamed B9.named
  have hlocks := B9.notSynchronized
  have hS : va_S (fun q : Nat => G q ∈ ([7] : List Nat)) s.heap s.heap [] := va_S.rf
  have hAz : ∀ q, (fun q : Nat => G q ∈ ([7] : List Nat)) q → z0 ≤ q := zL hGz (by decide)
  have hW_0 := hW
  have hl := lv_entry ([.ref h0, .int p0, .int p1, .int p2]) (n := 4) (Nat.le_of_ble_eq_true rfl)
  rw [lg_entry_eq]
  generalize (lg_sl ([.ref h0, .int p0, .int p1, .int p2]) ++ List.replicate (4 - (lg_sl ([.ref h0, .int p0, .int p1, .int p2])).length) Slot.unset).toArray = ls at hl ⊢
  have hl : lv_has ls 4 [(0, .ref h0), (1, .int p0), (2, .int p1), (3, .int p2)] := hl
  refine lv_aload_n hx hb dX6_become_0 rfl (lv_at hl 0 rfl) ?_
  refine lv_iload_n hx hb dX6_become_1 rfl (lv_at hl 1 rfl) ?_
  have ha_1 := tx_7 hT hG
  refine rr_put (D := DG E) (ci := 6) (v := .int p0) (ty := .int) (C := RX6) (T := TX6) (N := 3) hx hb hts iw_X6 tyX6 tyX6_ok nmX6 hown hK.1 ha_1 hS (by show G h0 ∈ ([7] : List Nat); rw [hG]; decide) rfl 0 (by decide) (hts _ fl_X6_7) (fun _ h9 => h9) rfl (by decide +kernel) rfl rfl (Nat.le_of_ble_eq_true rfl) dX6_become_2 (fun H locs hn ho hz hS => ?_)
  obtain ⟨B_2, eB_2⟩ : ∃ z : AA, z = uA B h0 (upd (B h0) 0 p0) := ⟨_, rfl⟩
  have sB_2 : B_2 h0 0 = p0 := by rw [eB_2, uA_s]; exact upd_s
  have nB_2 : ∀ k, k ≠ 0 → B_2 h0 k = B h0 k := fun k hk => by rw [eB_2, uA_s]; exact upd_n hk
  have fB_2 : ∀ c, G c ≠ 7 → B_2 c = B c := fun c hc => by rw [eB_2]; exact uA_n (fun e => hc (by rw [e]; exact hG))
  have hT : TX E G B_2 R H := by rw [eB_2]; exact hT.w (by rw [hG]; exact hn) ho
  have hWB_2 : TW G B_2 R := by rw [eB_2]; exact hW_0.w (by rw [hG]; exact trivial)
  have hW := hWB_2
  refine lv_aload_n hx hb dX6_become_5 rfl (lv_at hl 0 rfl) ?_
  refine lv_iload_n hx hb dX6_become_6 rfl (lv_at hl 2 rfl) ?_
  have ha_3 := tx_7 hT hG
  refine rr_put (D := DG E) (ci := 6) (v := .int p1) (ty := .int) (C := RX6) (T := TX6) (N := 3) hx hb hts iw_X6 tyX6 tyX6_ok nmX6 hown hK.1 ha_3 hS (by show G h0 ∈ ([7] : List Nat); rw [hG]; decide) rfl 1 (by decide) (hts _ fl_X6_13) (fun _ h9 => h9) rfl (by decide +kernel) rfl rfl (Nat.le_of_ble_eq_true rfl) dX6_become_7 (fun H locs hn ho hz hS => ?_)
  obtain ⟨B_4, eB_4⟩ : ∃ z : AA, z = uA B_2 h0 (upd (B_2 h0) 1 p1) := ⟨_, rfl⟩
  have sB_4 : B_4 h0 1 = p1 := by rw [eB_4, uA_s]; exact upd_s
  have nB_4 : ∀ k, k ≠ 1 → B_4 h0 k = B_2 h0 k := fun k hk => by rw [eB_4, uA_s]; exact upd_n hk
  have fB_4 : ∀ c, G c ≠ 7 → B_4 c = B_2 c := fun c hc => by rw [eB_4]; exact uA_n (fun e => hc (by rw [e]; exact hG))
  have hT : TX E G B_4 R H := by rw [eB_4]; exact hT.w (by rw [hG]; exact hn) ho
  have hWB_4 : TW G B_4 R := by rw [eB_4]; exact hWB_2.w (by rw [hG]; exact trivial)
  have hW := hWB_4
  refine lv_aload_n hx hb dX6_become_10 rfl (lv_at hl 0 rfl) ?_
  refine lv_iload_n hx hb dX6_become_11 rfl (lv_at hl 3 rfl) ?_
  have ha_5 := tx_7 hT hG
  refine rr_put (D := DG E) (ci := 6) (v := .int p2) (ty := .int) (C := RX6) (T := TX6) (N := 3) hx hb hts iw_X6 tyX6 tyX6_ok nmX6 hown hK.1 ha_5 hS (by show G h0 ∈ ([7] : List Nat); rw [hG]; decide) rfl 2 (by decide) (hts _ fl_X6_16) (fun _ h9 => h9) rfl (by decide +kernel) rfl rfl (Nat.le_of_ble_eq_true rfl) dX6_become_12 (fun H locs hn ho hz hS => ?_)
  obtain ⟨B_6, eB_6⟩ : ∃ z : AA, z = uA B_4 h0 (upd (B_4 h0) 2 p2) := ⟨_, rfl⟩
  have sB_6 : B_6 h0 2 = p2 := by rw [eB_6, uA_s]; exact upd_s
  have nB_6 : ∀ k, k ≠ 2 → B_6 h0 k = B_4 h0 k := fun k hk => by rw [eB_6, uA_s]; exact upd_n hk
  have fB_6 : ∀ c, G c ≠ 7 → B_6 c = B_4 c := fun c hc => by rw [eB_6]; exact uA_n (fun e => hc (by rw [e]; exact hG))
  have hT : TX E G B_6 R H := by rw [eB_6]; exact hT.w (by rw [hG]; exact hn) ho
  have hWB_6 : TW G B_6 R := by rw [eB_6]; exact hWB_4.w (by rw [hG]; exact trivial)
  have hW := hWB_6
  exact W.vret hx hb hr (fun t ht hW9 => ⟨⟨B_6, rfl, ⟨hW, (Fr.w (Fr.w (Fr.w Fr.rf hG (by decide) eB_2) hG (by decide) eB_4) hG (by decide) eB_6), ⟨B_2, eB_2, B_4, eB_4, B_6, eB_6, rfl⟩⟩, (by show TX E G B_6 R t.heap; rw [ht]; exact hT)⟩, hS.F ht⟩) hS.2.2 dX6_become_15
theorem dX6_allows_0 : decode cX6_allows 0 = .ok (.aload_n 0, 1) := by decide +kernel
theorem dX6_allows_1 : decode cX6_allows 1 = .ok (.getfield 13, 3) := by decide +kernel
theorem dX6_allows_4 : decode cX6_allows 4 = .ok (.ifCond .le 39, 3) := by decide +kernel
theorem dX6_allows_7 : decode cX6_allows 7 = .ok (.iload_n 1, 1) := by decide +kernel
theorem dX6_allows_8 : decode cX6_allows 8 = .ok (.aload_n 0, 1) := by decide +kernel
theorem dX6_allows_9 : decode cX6_allows 9 = .ok (.getfield 7, 3) := by decide +kernel
theorem dX6_allows_12 : decode cX6_allows 12 = .ok (.if_icmp .lt 31, 3) := by decide +kernel
theorem dX6_allows_15 : decode cX6_allows 15 = .ok (.iload_n 1, 1) := by decide +kernel
theorem dX6_allows_16 : decode cX6_allows 16 = .ok (.iload_n 2, 1) := by decide +kernel
theorem dX6_allows_17 : decode cX6_allows 17 = .ok (.iadd, 1) := by decide +kernel
theorem dX6_allows_18 : decode cX6_allows 18 = .ok (.aload_n 0, 1) := by decide +kernel
theorem dX6_allows_19 : decode cX6_allows 19 = .ok (.getfield 7, 3) := by decide +kernel
theorem dX6_allows_22 : decode cX6_allows 22 = .ok (.aload_n 0, 1) := by decide +kernel
theorem dX6_allows_23 : decode cX6_allows 23 = .ok (.getfield 13, 3) := by decide +kernel
theorem dX6_allows_26 : decode cX6_allows 26 = .ok (.iadd, 1) := by decide +kernel
theorem dX6_allows_27 : decode cX6_allows 27 = .ok (.if_icmp .gt 16, 3) := by decide +kernel
theorem dX6_allows_30 : decode cX6_allows 30 = .ok (.aload_n 0, 1) := by decide +kernel
theorem dX6_allows_31 : decode cX6_allows 31 = .ok (.getfield 16, 3) := by decide +kernel
theorem dX6_allows_34 : decode cX6_allows 34 = .ok (.iload_n 3, 1) := by decide +kernel
theorem dX6_allows_35 : decode cX6_allows 35 = .ok (.iand, 1) := by decide +kernel
theorem dX6_allows_36 : decode cX6_allows 36 = .ok (.ifCond .eq 7, 3) := by decide +kernel
theorem dX6_allows_39 : decode cX6_allows 39 = .ok (.iconst 1, 1) := by decide +kernel
theorem dX6_allows_40 : decode cX6_allows 40 = .ok (.goto 4, 3) := by decide +kernel
theorem dX6_allows_43 : decode cX6_allows 43 = .ok (.iconst 0, 1) := by decide +kernel
theorem dX6_allows_44 : decode cX6_allows 44 = .ok (.ireturn, 1) := by decide +kernel
set_option maxHeartbeats 8000000 in
set_option maxRecDepth 100000 in
theorem x_X6_allows (l : Launch) (E : EE) (z0 : Nat) (G : Nat → Nat) (hGz : ∀ q, G q ≠ 0 → z0 ≤ q) (B : AA) (R : RR) (hW : TW G B R) (h0 : Nat) (p0 : Int32) (p1 : Int32) (p2 : Int32) (hG : G h0 = 7) : Met l yX6_allows [Cond.code yX6_allows cX6_allows 4 (some .boolean)] ({ frames := 0, cells := 0, slots := 0, locals := 0 } : Room) (va_Pc [.ref h0, .int p0, .int p1, .int p2] (fun U => TX E G B R U.heap ∧ KS E z0 U)) (va_Qi (fun (r : Int32) (u : Unit) => (r = 0 ∨ r = 1) ∧ (C_X6_allows G B R h0 p0 p1 p2 r)) (fun u t => True) (fun _ : Nat => False)) 0 0 (fun _ : Nat => False) := by
  refine Met.ofW (cc := cX6_allows) (maxL := 4) (ret := (some .boolean)) (by decide) rfl ?_
  intro p e s m args below meth c s₁ B9 hml hv
  obtain ⟨rfl, hT, hK⟩ := hv
  have hx := B9.exec
  have hb := B9.bytes
  have hr := B9.returns
  have hts : ∀ w ∈ TS, w.before ([.ref h0, .int p0, .int p1, .int p2] : List Value).toArray s = true := fun w hw => hK.2.1 w hw _
  have hown : s.vm.findClass RX6 = some m.cls := findClass_of_methodNamed B9.named
  have hlocks := B9.notSynchronized
  have hS : va_S (fun _ : Nat => False) s.heap s.heap [] := va_S.rf
  have hAz : ∀ q, (fun _ : Nat => False) q → z0 ≤ q := fun _ h => h.elim
  have hW_0 := hW
  have hl := lv_entry ([.ref h0, .int p0, .int p1, .int p2]) (n := 4) (Nat.le_of_ble_eq_true rfl)
  rw [lg_entry_eq]
  generalize (lg_sl ([.ref h0, .int p0, .int p1, .int p2]) ++ List.replicate (4 - (lg_sl ([.ref h0, .int p0, .int p1, .int p2])).length) Slot.unset).toArray = ls at hl ⊢
  have hl : lv_has ls 4 [(0, .ref h0), (1, .int p0), (2, .int p1), (3, .int p2)] := hl
  refine lv_aload_n hx hb dX6_allows_0 rfl (lv_at hl 0 rfl) ?_
  have ha_1 := tx_7 hT hG
  refine va_get (D := DG E) (ci := 6) (v := .int (B h0 1)) (C := RX6) (T := TX6) (N := 3) hx hb hts iw_X6 hown hK.1 (va_one ha_1) 0 rfl rfl 1 (by decide) (hts _ fl_X6_13) (fun _ h9 => h9) rfl dX6_allows_1 ?_
  refine lv_if_le (tgt := 43) hx hb dX6_allows_4 (by decide) (fun c_2 => ?_) (fun c_2 => ?_)
  · simp only [lt_I, le_I, eq_I, i_0, i_1, i_2, i_3, i_4, i_5, i_6, i_7, i_8, i_10, i_12, i_16, i_20, i_23, i_24, i_31, i_32, i_63, i_64, i_m1] at c_2
    refine lv_iconst (v := 0) hx hb dX6_allows_43 (by decide) ?_
    exact W.zret (v := 0) (ty := .boolean) hx hb hr rfl (fun t ht hW9 => ⟨⟨0, (), rfl, ⟨(by decide), (Or.inl ⟨c_2, rfl⟩)⟩, trivial⟩, hS.F ht⟩) hS.2.2 dX6_allows_44
  · simp only [lt_I, le_I, eq_I, i_0, i_1, i_2, i_3, i_4, i_5, i_6, i_7, i_8, i_10, i_12, i_16, i_20, i_23, i_24, i_31, i_32, i_63, i_64, i_m1] at c_2
    refine lv_iload_n hx hb dX6_allows_7 rfl (lv_at hl 1 rfl) ?_
    refine lv_aload_n hx hb dX6_allows_8 rfl (lv_at hl 0 rfl) ?_
    refine va_get (D := DG E) (ci := 6) (v := .int (B h0 0)) (C := RX6) (T := TX6) (N := 3) hx hb hts iw_X6 hown hK.1 (va_one ha_1) 0 rfl rfl 0 (by decide) (hts _ fl_X6_7) (fun _ h9 => h9) rfl dX6_allows_9 ?_
    refine lv_icmp_lt (tgt := 43) hx hb dX6_allows_12 (by decide) (fun c_3 => ?_) (fun c_3 => ?_)
    · simp only [lt_I, le_I, eq_I, i_0, i_1, i_2, i_3, i_4, i_5, i_6, i_7, i_8, i_10, i_12, i_16, i_20, i_23, i_24, i_31, i_32, i_63, i_64, i_m1] at c_3
      refine lv_iconst (v := 0) hx hb dX6_allows_43 (by decide) ?_
      exact W.zret (v := 0) (ty := .boolean) hx hb hr rfl (fun t ht hW9 => ⟨⟨0, (), rfl, ⟨(by decide), (Or.inr (Or.inl ⟨c_2, c_3, rfl⟩))⟩, trivial⟩, hS.F ht⟩) hS.2.2 dX6_allows_44
    · simp only [lt_I, le_I, eq_I, i_0, i_1, i_2, i_3, i_4, i_5, i_6, i_7, i_8, i_10, i_12, i_16, i_20, i_23, i_24, i_31, i_32, i_63, i_64, i_m1] at c_3
      refine lv_iload_n hx hb dX6_allows_15 rfl (lv_at hl 1 rfl) ?_
      refine lv_iload_n hx hb dX6_allows_16 rfl (lv_at hl 2 rfl) ?_
      refine lv_iadd hx hb dX6_allows_17 ?_
      refine lv_topi (fun x_4 ex_4 => ?_)
      refine lv_aload_n hx hb dX6_allows_18 rfl (lv_at hl 0 rfl) ?_
      refine va_get (D := DG E) (ci := 6) (v := .int (B h0 0)) (C := RX6) (T := TX6) (N := 3) hx hb hts iw_X6 hown hK.1 (va_one ha_1) 0 rfl rfl 0 (by decide) (hts _ fl_X6_7) (fun _ h9 => h9) rfl dX6_allows_19 ?_
      refine lv_aload_n hx hb dX6_allows_22 rfl (lv_at hl 0 rfl) ?_
      refine va_get (D := DG E) (ci := 6) (v := .int (B h0 1)) (C := RX6) (T := TX6) (N := 3) hx hb hts iw_X6 hown hK.1 (va_one ha_1) 0 rfl rfl 1 (by decide) (hts _ fl_X6_13) (fun _ h9 => h9) rfl dX6_allows_23 ?_
      refine lv_iadd hx hb dX6_allows_26 ?_
      refine lv_topi (fun x_5 ex_5 => ?_)
      refine lv_icmp_gt (tgt := 43) hx hb dX6_allows_27 (by decide) (fun c_6 => ?_) (fun c_6 => ?_)
      · simp only [lt_I, le_I, eq_I, i_0, i_1, i_2, i_3, i_4, i_5, i_6, i_7, i_8, i_10, i_12, i_16, i_20, i_23, i_24, i_31, i_32, i_63, i_64, i_m1] at c_6
        refine lv_iconst (v := 0) hx hb dX6_allows_43 (by decide) ?_
        exact W.zret (v := 0) (ty := .boolean) hx hb hr rfl (fun t ht hW9 => ⟨⟨0, (), rfl, ⟨(by decide), (Or.inr (Or.inr (Or.inl ⟨c_2, c_3, x_4, ex_4, x_5, ex_5, c_6, rfl⟩)))⟩, trivial⟩, hS.F ht⟩) hS.2.2 dX6_allows_44
      · simp only [lt_I, le_I, eq_I, i_0, i_1, i_2, i_3, i_4, i_5, i_6, i_7, i_8, i_10, i_12, i_16, i_20, i_23, i_24, i_31, i_32, i_63, i_64, i_m1] at c_6
        refine lv_aload_n hx hb dX6_allows_30 rfl (lv_at hl 0 rfl) ?_
        refine va_get (D := DG E) (ci := 6) (v := .int (B h0 2)) (C := RX6) (T := TX6) (N := 3) hx hb hts iw_X6 hown hK.1 (va_one ha_1) 0 rfl rfl 2 (by decide) (hts _ fl_X6_16) (fun _ h9 => h9) rfl dX6_allows_31 ?_
        refine lv_iload_n hx hb dX6_allows_34 rfl (lv_at hl 3 rfl) ?_
        refine lv_iand hx hb dX6_allows_35 ?_
        refine lv_topi (fun x_7 ex_7 => ?_)
        refine lv_if_eq (tgt := 43) hx hb dX6_allows_36 (by decide) (fun c_8 => ?_) (fun c_8 => ?_)
        · simp only [lt_I, le_I, eq_I, i_0, i_1, i_2, i_3, i_4, i_5, i_6, i_7, i_8, i_10, i_12, i_16, i_20, i_23, i_24, i_31, i_32, i_63, i_64, i_m1] at c_8
          refine lv_iconst (v := 0) hx hb dX6_allows_43 (by decide) ?_
          exact W.zret (v := 0) (ty := .boolean) hx hb hr rfl (fun t ht hW9 => ⟨⟨0, (), rfl, ⟨(by decide), (Or.inr (Or.inr (Or.inr (Or.inl ⟨c_2, c_3, x_4, ex_4, x_5, ex_5, c_6, x_7, ex_7, c_8, rfl⟩))))⟩, trivial⟩, hS.F ht⟩) hS.2.2 dX6_allows_44
        · simp only [lt_I, le_I, eq_I, i_0, i_1, i_2, i_3, i_4, i_5, i_6, i_7, i_8, i_10, i_12, i_16, i_20, i_23, i_24, i_31, i_32, i_63, i_64, i_m1] at c_8
          refine lv_iconst (v := 1) hx hb dX6_allows_39 (by decide) ?_
          refine lv_goto (tgt := 44) hx hb dX6_allows_40 (by decide) ?_
          exact W.zret (v := 1) (ty := .boolean) hx hb hr rfl (fun t ht hW9 => ⟨⟨1, (), rfl, ⟨(by decide), (Or.inr (Or.inr (Or.inr (Or.inr ⟨c_2, c_3, x_4, ex_4, x_5, ex_5, c_6, x_7, ex_7, c_8, rfl⟩))))⟩, trivial⟩, hS.F ht⟩) hS.2.2 dX6_allows_44
theorem dX1_at_0 : decode cX1_at 0 = .ok (.iload_n 1, 1) := by decide +kernel
theorem dX1_at_1 : decode cX1_at 1 = .ok (.invokestatic 25, 3) := by decide +kernel
theorem dX1_at_4 : decode cX1_at 4 = .ok (.ifCond .eq 12, 3) := by decide +kernel
theorem dX1_at_7 : decode cX1_at 7 = .ok (.aload_n 0, 1) := by decide +kernel
theorem dX1_at_8 : decode cX1_at 8 = .ok (.getfield 9, 3) := by decide +kernel
theorem dX1_at_11 : decode cX1_at 11 = .ok (.iload_n 1, 1) := by decide +kernel
theorem dX1_at_12 : decode cX1_at 12 = .ok (.iaload, 1) := by decide +kernel
theorem dX1_at_13 : decode cX1_at 13 = .ok (.goto 4, 3) := by decide +kernel
theorem dX1_at_16 : decode cX1_at 16 = .ok (.iconst 0, 1) := by decide +kernel
theorem dX1_at_17 : decode cX1_at 17 = .ok (.ireturn, 1) := by decide +kernel
set_option maxHeartbeats 8000000 in
set_option maxRecDepth 100000 in
theorem x_X1_at (l : Launch) (E : EE) (z0 : Nat) (G : Nat → Nat) (hGz : ∀ q, G q ≠ 0 → z0 ≤ q) (B : AA) (R : RR) (hW : TW G B R) (h0 : Nat) (p0 : Int32) (hG : G h0 = 5) : Met l yX1_at [Cond.code yX1_at cX1_at 2 (some .int)] ({ frames := 1, cells := 0, slots := 0, locals := 20 } : Room) (va_Pc [.ref h0, .int p0] (fun U => TX E G B R U.heap ∧ KS E z0 U)) (va_Qi (fun (r : Int32) (u : Unit) => (C_X1_at G B R h0 p0 r)) (fun u t => True) (fun _ : Nat => False)) 0 0 (fun _ : Nat => False) := by
  refine Met.ofW (cc := cX1_at) (maxL := 2) (ret := (some .int)) (by decide) rfl ?_
  intro p e s m args below meth c s₁ B9 hml hv
  obtain ⟨rfl, hT, hK⟩ := hv
  have hx := B9.exec
  have hb := B9.bytes
  have hr := B9.returns
  have hts : ∀ w ∈ TS, w.before ([.ref h0, .int p0] : List Value).toArray s = true := fun w hw => hK.2.1 w hw _
  have hown : s.vm.findClass RX1 = some m.cls := findClass_of_methodNamed B9.named
  have hlocks := B9.notSynchronized
  have hS : va_S (fun _ : Nat => False) s.heap s.heap [] := va_S.rf
  have hAz : ∀ q, (fun _ : Nat => False) q → z0 ≤ q := fun _ h => h.elim
  have hW_0 := hW
  have hl := lv_entry ([.ref h0, .int p0]) (n := 2) (Nat.le_of_ble_eq_true rfl)
  rw [lg_entry_eq]
  generalize (lg_sl ([.ref h0, .int p0]) ++ List.replicate (2 - (lg_sl ([.ref h0, .int p0])).length) Slot.unset).toArray = ls at hl ⊢
  have hl : lv_has ls 2 [(0, .ref h0), (1, .int p0)] := hl
  refine lv_iload_n hx hb dX1_at_0 rfl (lv_at hl 1 rfl) ?_
  refine rnSN (As := [.int p0]) (rest := []) ⟨hx, hb, hml, hown, hts⟩ (c_X9_isCell l p0) ⟨va_cnB (host := RX9) 1 hts (gd1 co_X9_isCell rfl) rfl rfl rfl (hK.2.1 _ mn_X1_25 #[]) (hts _ in_X9) (by decide +kernel) ⟨Nat.le_of_ble_eq_true rfl, Nat.le_of_ble_eq_true rfl⟩, hts _ st_X9_isCell, trivial⟩ rfl rfl hl.1 rfl (lv_room (Nat.le_of_ble_eq_true rfl)) dX1_at_1 ⟨Nat.le_of_ble_eq_true rfl, Nat.le_of_ble_eq_true rfl⟩ ?_
  refine W.eq (g2 := F0 m 4 ls [.int (bI (0 ≤ p0.toInt ∧ p0.toInt < 32))]) (by rfl) ?_
  refine lv_if_eq (tgt := 16) hx hb dX1_at_4 (by decide) (fun c_1 => ?_) (fun c_1 => ?_)
  · have c_1 := bI_0 c_1
    refine lv_iconst (v := 0) hx hb dX1_at_16 (by decide) ?_
    exact W.iret (v := 0) hx hb hr (fun t ht hW9 => ⟨⟨0, (), rfl, (Or.inl ⟨c_1, rfl⟩), trivial⟩, hS.F ht⟩) hS.2.2 dX1_at_17
  · have c_1 := bI_n c_1
    refine lv_aload_n hx hb dX1_at_7 rfl (lv_at hl 0 rfl) ?_
    have ha_2 := tx_5 hT hG
    have hg_3 : G (R h0 0) = 14 := (tw_5 hW hG).1
    refine va_get (D := DG E) (ci := 1) (v := .ref (R h0 0)) (C := RX1) (T := TX1) (N := 5) hx hb hts iw_X1 hown hK.1 (va_one ha_2) 0 rfl rfl 0 (by decide) (hts _ fl_X1_9) (fun _ h9 => h9) rfl dX1_at_8 ?_
    refine lv_iload_n hx hb dX1_at_11 rfl (lv_at hl 1 rfl) ?_
    have ha_4 := tx_14 hT hg_3
    have hi_5 : vp_in p0 32 := vp_in_iff.mpr (by omega)
    obtain ⟨n_6, hn_6, en_6⟩ := x_nat (x := p0) (by omega)
    refine va_iald (D := DG E) hx hb hK.1 (va_one ha_4) 0 0 rfl rfl hi_5 dX1_at_12 ?_
    refine W.eq (g2 := F0 m 13 ls [.int (B (R h0 0) n_6)]) (by rw [en_6]) ?_
    refine lv_goto (tgt := 17) hx hb dX1_at_13 (by decide) ?_
    exact W.iret (v := (B (R h0 0) n_6)) hx hb hr (fun t ht hW9 => ⟨⟨(B (R h0 0) n_6), (), rfl, (Or.inr ⟨c_1, n_6, hn_6, rfl⟩), trivial⟩, hS.F ht⟩) hS.2.2 dX1_at_17
theorem dX1_put_0 : decode cX1_put 0 = .ok (.iload_n 1, 1) := by decide +kernel
theorem dX1_put_1 : decode cX1_put 1 = .ok (.invokestatic 25, 3) := by decide +kernel
theorem dX1_put_4 : decode cX1_put 4 = .ok (.ifCond .eq 10, 3) := by decide +kernel
theorem dX1_put_7 : decode cX1_put 7 = .ok (.aload_n 0, 1) := by decide +kernel
theorem dX1_put_8 : decode cX1_put 8 = .ok (.getfield 9, 3) := by decide +kernel
theorem dX1_put_11 : decode cX1_put 11 = .ok (.iload_n 1, 1) := by decide +kernel
theorem dX1_put_12 : decode cX1_put 12 = .ok (.iload_n 2, 1) := by decide +kernel
theorem dX1_put_13 : decode cX1_put 13 = .ok (.iastore, 1) := by decide +kernel
theorem dX1_put_14 : decode cX1_put 14 = .ok (.return_, 1) := by decide +kernel
set_option maxHeartbeats 8000000 in
set_option maxRecDepth 100000 in
theorem x_X1_put (l : Launch) (E : EE) (z0 : Nat) (G : Nat → Nat) (hGz : ∀ q, G q ≠ 0 → z0 ≤ q) (B : AA) (R : RR) (hW : TW G B R) (h0 : Nat) (p0 : Int32) (p1 : Int32) (hG : G h0 = 5) : Met l yX1_put [Cond.code yX1_put cX1_put 3 none] ({ frames := 1, cells := 0, slots := 0, locals := 20 } : Room) (va_Pc [.ref h0, .int p0, .int p1] (fun U => TX E G B R U.heap ∧ KS E z0 U)) (va_Qv (fun (u : AA) => (TW G u R) ∧ (Fr G ([14] : List Nat) B u) ∧ (C_X1_put G B R h0 p0 p1 u)) (fun u t => TX E G u R t.heap) (fun q : Nat => G q ∈ ([14] : List Nat))) 0 0 (fun q : Nat => G q ∈ ([14] : List Nat)) := by
  refine Met.ofW (cc := cX1_put) (maxL := 3) (ret := none) (by decide) rfl ?_
  intro p e s m args below meth c s₁ B9 hml hv
  obtain ⟨rfl, hT, hK⟩ := hv
  have hx := B9.exec
  have hb := B9.bytes
  have hr := B9.returns
  have hts : ∀ w ∈ TS, w.before ([.ref h0, .int p0, .int p1] : List Value).toArray s = true := fun w hw => hK.2.1 w hw _
  have hown : s.vm.findClass RX1 = some m.cls := findClass_of_methodNamed B9.named
  have hlocks := B9.notSynchronized
  have hS : va_S (fun q : Nat => G q ∈ ([14] : List Nat)) s.heap s.heap [] := va_S.rf
  have hAz : ∀ q, (fun q : Nat => G q ∈ ([14] : List Nat)) q → z0 ≤ q := zL hGz (by decide)
  have hW_0 := hW
  have hl := lv_entry ([.ref h0, .int p0, .int p1]) (n := 3) (Nat.le_of_ble_eq_true rfl)
  rw [lg_entry_eq]
  generalize (lg_sl ([.ref h0, .int p0, .int p1]) ++ List.replicate (3 - (lg_sl ([.ref h0, .int p0, .int p1])).length) Slot.unset).toArray = ls at hl ⊢
  have hl : lv_has ls 3 [(0, .ref h0), (1, .int p0), (2, .int p1)] := hl
  refine lv_iload_n hx hb dX1_put_0 rfl (lv_at hl 1 rfl) ?_
  refine rnSN (As := [.int p0]) (rest := []) ⟨hx, hb, hml, hown, hts⟩ (c_X9_isCell l p0) ⟨va_cnB (host := RX9) 1 hts (gd1 co_X9_isCell rfl) rfl rfl rfl (hK.2.1 _ mn_X1_25 #[]) (hts _ in_X9) (by decide +kernel) ⟨Nat.le_of_ble_eq_true rfl, Nat.le_of_ble_eq_true rfl⟩, hts _ st_X9_isCell, trivial⟩ rfl rfl hl.1 rfl (lv_room (Nat.le_of_ble_eq_true rfl)) dX1_put_1 ⟨Nat.le_of_ble_eq_true rfl, Nat.le_of_ble_eq_true rfl⟩ ?_
  refine W.eq (g2 := F0 m 4 ls [.int (bI (0 ≤ p0.toInt ∧ p0.toInt < 32))]) (by rfl) ?_
  refine lv_if_eq (tgt := 14) hx hb dX1_put_4 (by decide) (fun c_1 => ?_) (fun c_1 => ?_)
  · have c_1 := bI_0 c_1
    exact W.vret hx hb hr (fun t ht hW9 => ⟨⟨B, rfl, ⟨hW, Fr.rf, (Or.inl ⟨c_1, rfl⟩)⟩, (by show TX E G B R t.heap; rw [ht]; exact hT)⟩, hS.F ht⟩) hS.2.2 dX1_put_14
  · have c_1 := bI_n c_1
    refine lv_aload_n hx hb dX1_put_7 rfl (lv_at hl 0 rfl) ?_
    have ha_2 := tx_5 hT hG
    have hg_3 : G (R h0 0) = 14 := (tw_5 hW hG).1
    refine va_get (D := DG E) (ci := 1) (v := .ref (R h0 0)) (C := RX1) (T := TX1) (N := 5) hx hb hts iw_X1 hown hK.1 (va_one ha_2) 0 rfl rfl 0 (by decide) (hts _ fl_X1_9) (fun _ h9 => h9) rfl dX1_put_8 ?_
    refine lv_iload_n hx hb dX1_put_11 rfl (lv_at hl 1 rfl) ?_
    refine lv_iload_n hx hb dX1_put_12 rfl (lv_at hl 2 rfl) ?_
    have ha_4 := tx_14 hT hg_3
    have hi_5 : vp_in p0 32 := vp_in_iff.mpr (by omega)
    obtain ⟨n_6, hn_6, en_6⟩ := x_nat (x := p0) (by omega)
    refine rr_iast (D := DG E) hx hb hK.1 0 ha_4 hS (by show G (R h0 0) ∈ ([14] : List Nat); rw [hg_3]; decide) rfl hi_5 dX1_put_13 (fun H locs hn ho hz hS => ?_)
    rw [en_6] at hn
    obtain ⟨B_7, eB_7⟩ : ∃ z : AA, z = uA B (R h0 0) (upd (B (R h0 0)) n_6 p1) := ⟨_, rfl⟩
    have sB_7 : B_7 (R h0 0) n_6 = p1 := by rw [eB_7, uA_s]; exact upd_s
    have nB_7 : ∀ k, k ≠ n_6 → B_7 (R h0 0) k = B (R h0 0) k := fun k hk => by rw [eB_7, uA_s]; exact upd_n hk
    have fB_7 : ∀ c, G c ≠ 14 → B_7 c = B c := fun c hc => by rw [eB_7]; exact uA_n (fun e => hc (by rw [e]; exact hg_3))
    have hT : TX E G B_7 R H := by rw [eB_7]; exact hT.w (by rw [hg_3]; exact hn) ho
    have hWB_7 : TW G B_7 R := by rw [eB_7]; exact hW_0.w (by rw [hg_3]; exact trivial)
    have hW := hWB_7
    exact W.vret hx hb hr (fun t ht hW9 => ⟨⟨B_7, rfl, ⟨hW, (Fr.w Fr.rf hg_3 (by decide) eB_7), (Or.inr ⟨c_1, n_6, hn_6, B_7, eB_7, rfl⟩)⟩, (by show TX E G B_7 R t.heap; rw [ht]; exact hT)⟩, hS.F ht⟩) hS.2.2 dX1_put_14
theorem dX1_allows_0 : decode cX1_allows 0 = .ok (.iload_n 1, 1) := by decide +kernel
theorem dX1_allows_1 : decode cX1_allows 1 = .ok (.invokestatic 29, 3) := by decide +kernel
theorem dX1_allows_4 : decode cX1_allows 4 = .ok (.ifCond .eq 23, 3) := by decide +kernel
theorem dX1_allows_7 : decode cX1_allows 7 = .ok (.aload_n 0, 1) := by decide +kernel
theorem dX1_allows_8 : decode cX1_allows 8 = .ok (.getfield 17, 3) := by decide +kernel
theorem dX1_allows_11 : decode cX1_allows 11 = .ok (.iload_n 1, 1) := by decide +kernel
theorem dX1_allows_12 : decode cX1_allows 12 = .ok (.aaload, 1) := by decide +kernel
theorem dX1_allows_13 : decode cX1_allows 13 = .ok (.iload_n 2, 1) := by decide +kernel
theorem dX1_allows_14 : decode cX1_allows 14 = .ok (.iload_n 3, 1) := by decide +kernel
theorem dX1_allows_15 : decode cX1_allows 15 = .ok (.iload 4, 2) := by decide +kernel
theorem dX1_allows_17 : decode cX1_allows 17 = .ok (.invokevirtual 32, 3) := by decide +kernel
theorem dX1_allows_20 : decode cX1_allows 20 = .ok (.ifCond .eq 7, 3) := by decide +kernel
theorem dX1_allows_23 : decode cX1_allows 23 = .ok (.iconst 1, 1) := by decide +kernel
theorem dX1_allows_24 : decode cX1_allows 24 = .ok (.goto 4, 3) := by decide +kernel
theorem dX1_allows_27 : decode cX1_allows 27 = .ok (.iconst 0, 1) := by decide +kernel
theorem dX1_allows_28 : decode cX1_allows 28 = .ok (.ireturn, 1) := by decide +kernel
set_option maxHeartbeats 8000000 in
set_option maxRecDepth 100000 in
theorem x_X1_allows (l : Launch) (E : EE) (z0 : Nat) (G : Nat → Nat) (hGz : ∀ q, G q ≠ 0 → z0 ≤ q) (B : AA) (R : RR) (hW : TW G B R) (h0 : Nat) (p0 : Int32) (p1 : Int32) (p2 : Int32) (p3 : Int32) (hG : G h0 = 5) : Met l yX1_allows [Cond.code yX1_allows cX1_allows 5 (some .boolean)] ({ frames := 1, cells := 0, slots := 0, locals := 23 } : Room) (va_Pc [.ref h0, .int p0, .int p1, .int p2, .int p3] (fun U => TX E G B R U.heap ∧ KS E z0 U)) (va_Qi (fun (r : Int32) (u : Unit) => (r = 0 ∨ r = 1) ∧ (C_X1_allows G B R h0 p0 p1 p2 p3 r)) (fun u t => True) (fun _ : Nat => False)) 0 0 (fun _ : Nat => False) := by
  refine Met.ofW (cc := cX1_allows) (maxL := 5) (ret := (some .boolean)) (by decide) rfl ?_
  intro p e s m args below meth c s₁ B9 hml hv
  obtain ⟨rfl, hT, hK⟩ := hv
  have hx := B9.exec
  have hb := B9.bytes
  have hr := B9.returns
  have hts : ∀ w ∈ TS, w.before ([.ref h0, .int p0, .int p1, .int p2, .int p3] : List Value).toArray s = true := fun w hw => hK.2.1 w hw _
  have hown : s.vm.findClass RX1 = some m.cls := findClass_of_methodNamed B9.named
  have hlocks := B9.notSynchronized
  have hS : va_S (fun _ : Nat => False) s.heap s.heap [] := va_S.rf
  have hAz : ∀ q, (fun _ : Nat => False) q → z0 ≤ q := fun _ h => h.elim
  have hW_0 := hW
  have hl := lv_entry ([.ref h0, .int p0, .int p1, .int p2, .int p3]) (n := 5) (Nat.le_of_ble_eq_true rfl)
  rw [lg_entry_eq]
  generalize (lg_sl ([.ref h0, .int p0, .int p1, .int p2, .int p3]) ++ List.replicate (5 - (lg_sl ([.ref h0, .int p0, .int p1, .int p2, .int p3])).length) Slot.unset).toArray = ls at hl ⊢
  have hl : lv_has ls 5 [(0, .ref h0), (1, .int p0), (2, .int p1), (3, .int p2), (4, .int p3)] := hl
  refine lv_iload_n hx hb dX1_allows_0 rfl (lv_at hl 1 rfl) ?_
  refine rnSN (As := [.int p0]) (rest := []) ⟨hx, hb, hml, hown, hts⟩ (c_X9_isRegion l p0) ⟨va_cnB (host := RX9) 1 hts (gd1 co_X9_isRegion rfl) rfl rfl rfl (hK.2.1 _ mn_X1_29 #[]) (hts _ in_X9) (by decide +kernel) ⟨Nat.le_of_ble_eq_true rfl, Nat.le_of_ble_eq_true rfl⟩, hts _ st_X9_isRegion, trivial⟩ rfl rfl hl.1 rfl (lv_room (Nat.le_of_ble_eq_true rfl)) dX1_allows_1 ⟨Nat.le_of_ble_eq_true rfl, Nat.le_of_ble_eq_true rfl⟩ ?_
  refine W.eq (g2 := F0 m 4 ls [.int (bI (0 ≤ p0.toInt ∧ p0.toInt < 6))]) (by rfl) ?_
  refine lv_if_eq (tgt := 27) hx hb dX1_allows_4 (by decide) (fun c_1 => ?_) (fun c_1 => ?_)
  · have c_1 := bI_0 c_1
    refine lv_iconst (v := 0) hx hb dX1_allows_27 (by decide) ?_
    exact W.zret (v := 0) (ty := .boolean) hx hb hr rfl (fun t ht hW9 => ⟨⟨0, (), rfl, ⟨(by decide), (Or.inl ⟨c_1, rfl⟩)⟩, trivial⟩, hS.F ht⟩) hS.2.2 dX1_allows_28
  · have c_1 := bI_n c_1
    refine lv_aload_n hx hb dX1_allows_7 rfl (lv_at hl 0 rfl) ?_
    have ha_2 := tx_5 hT hG
    have hg_3 : G (R h0 1) = 6 := (tw_5 hW hG).2.1
    refine va_get (D := DG E) (ci := 1) (v := .ref (R h0 1)) (C := RX1) (T := TX1) (N := 5) hx hb hts iw_X1 hown hK.1 (va_one ha_2) 0 rfl rfl 1 (by decide) (hts _ fl_X1_17) (fun _ h9 => h9) rfl dX1_allows_8 ?_
    refine lv_iload_n hx hb dX1_allows_11 rfl (lv_at hl 1 rfl) ?_
    have ha_4 := tx_6 hT hg_3
    have hi_5 : vp_in p0 6 := vp_in_iff.mpr (by omega)
    obtain ⟨n_6, hn_6, en_6⟩ := x_nat (x := p0) (by omega)
    have hg_7 : G (R (R h0 1) n_6) = 7 := (tw_6 hW hg_3) n_6 (by omega)
    refine va_aldq (D := DG E) hx hb hK.1 (va_one ha_4) 0 4 rfl rfl hi_5 dX1_allows_12 ?_
    refine W.eq (g2 := F0 m 13 ls [.ref (R (R h0 1) n_6)]) (by rw [en_6]; rfl) ?_
    refine lv_iload_n hx hb dX1_allows_13 rfl (lv_at hl 2 rfl) ?_
    refine lv_iload_n hx hb dX1_allows_14 rfl (lv_at hl 3 rfl) ?_
    refine lv_iload hx hb dX1_allows_15 (lv_at hl 4 rfl) ?_
    have ha_8 := tx_7 hT hg_7
    refine va_calli (rnV (fun H => TX E G B R H) (As := [.int p1, .int p2, .int p3]) (rest := []) ⟨hx, hb, hml, hown, hts⟩ (x_X6_allows l E z0 G hGz B R hW (R (R h0 1) n_6) p1 p2 p3 hg_7) (cwV 3 hts (gdV ml_X1_32 im_X6_allows se_X6_X6_allows in_X6 co_X6_allows rfl) rfl rfl rfl (by decide +kernel) ⟨Nat.le_of_ble_eq_true rfl, Nat.le_of_ble_eq_true rfl⟩) hT (fun U hU hW => hK.go hW hS hAz hU) (va_recv hK.1 (va_one ha_8) (ci := 6) (q0 := 0) rfl rfl) rfl rfl hl.1 rfl (lv_room (Nat.le_of_ble_eq_true rfl)) dX1_allows_17 ⟨Nat.le_of_ble_eq_true rfl, Nat.le_of_ble_eq_true rfl⟩) hS (fun q _ h => h.elim) (fun q h => h.elim) (fun r_9 _ t H locs ht hvm hwr_9 hB hz hk hS => ?_)
    have hT : TX E G B R H := hT.kept (fun q hq => hk q hq (fun h => h))
    have hbr_9 : r_9 = 0 ∨ r_9 = 1 := hwr_9.1
    have hCr_9 : C_X6_allows G B R (R (R h0 1) n_6) p1 p2 p3 r_9 := hwr_9.2
    have hzr_9 := s_rng hbr_9
    refine lv_if_eq (tgt := 27) hx hb dX1_allows_20 (by decide) (fun c_10 => ?_) (fun c_10 => ?_)
    · simp only [lt_I, le_I, eq_I, i_0, i_1, i_2, i_3, i_4, i_5, i_6, i_7, i_8, i_10, i_12, i_16, i_20, i_23, i_24, i_31, i_32, i_63, i_64, i_m1] at c_10
      refine lv_iconst (v := 0) hx hb dX1_allows_27 (by decide) ?_
      exact W.zret (v := 0) (ty := .boolean) hx hb hr rfl (fun t ht hW9 => ⟨⟨0, (), rfl, ⟨(by decide), (Or.inr (Or.inl ⟨c_1, n_6, hn_6, r_9, hCr_9, c_10, rfl⟩))⟩, trivial⟩, hS.F ht⟩) hS.2.2 dX1_allows_28
    · simp only [lt_I, le_I, eq_I, i_0, i_1, i_2, i_3, i_4, i_5, i_6, i_7, i_8, i_10, i_12, i_16, i_20, i_23, i_24, i_31, i_32, i_63, i_64, i_m1] at c_10
      refine lv_iconst (v := 1) hx hb dX1_allows_23 (by decide) ?_
      refine lv_goto (tgt := 28) hx hb dX1_allows_24 (by decide) ?_
      exact W.zret (v := 1) (ty := .boolean) hx hb hr rfl (fun t ht hW9 => ⟨⟨1, (), rfl, ⟨(by decide), (Or.inr (Or.inr ⟨c_1, n_6, hn_6, r_9, hCr_9, c_10, rfl⟩))⟩, trivial⟩, hS.F ht⟩) hS.2.2 dX1_allows_28
theorem dX1_complete_0 : decode cX1_complete 0 = .ok (.aload_n 0, 1) := by decide +kernel
theorem dX1_complete_1 : decode cX1_complete 1 = .ok (.getfield 36, 3) := by decide +kernel
theorem dX1_complete_4 : decode cX1_complete 4 = .ok (.bipush 16, 2) := by decide +kernel
theorem dX1_complete_6 : decode cX1_complete 6 = .ok (.if_icmp .ne 4, 3) := by decide +kernel
theorem dX1_complete_9 : decode cX1_complete 9 = .ok (.return_, 1) := by decide +kernel
theorem dX1_complete_10 : decode cX1_complete 10 = .ok (.aload_n 0, 1) := by decide +kernel
theorem dX1_complete_11 : decode cX1_complete 11 = .ok (.getfield 40, 3) := by decide +kernel
theorem dX1_complete_14 : decode cX1_complete 14 = .ok (.aload_n 0, 1) := by decide +kernel
theorem dX1_complete_15 : decode cX1_complete 15 = .ok (.getfield 36, 3) := by decide +kernel
theorem dX1_complete_18 : decode cX1_complete 18 = .ok (.iadd, 1) := by decide +kernel
theorem dX1_complete_19 : decode cX1_complete 19 = .ok (.bipush 16, 2) := by decide +kernel
theorem dX1_complete_21 : decode cX1_complete 21 = .ok (.irem, 1) := by decide +kernel
theorem dX1_complete_22 : decode cX1_complete 22 = .ok (.iconst 5, 1) := by decide +kernel
theorem dX1_complete_23 : decode cX1_complete 23 = .ok (.imul, 1) := by decide +kernel
theorem dX1_complete_24 : decode cX1_complete 24 = .ok (.istore 4, 2) := by decide +kernel
theorem dX1_complete_26 : decode cX1_complete 26 = .ok (.aload_n 0, 1) := by decide +kernel
theorem dX1_complete_27 : decode cX1_complete 27 = .ok (.getfield 21, 3) := by decide +kernel
theorem dX1_complete_30 : decode cX1_complete 30 = .ok (.iload 4, 2) := by decide +kernel
theorem dX1_complete_32 : decode cX1_complete 32 = .ok (.iload_n 1, 1) := by decide +kernel
theorem dX1_complete_33 : decode cX1_complete 33 = .ok (.iastore, 1) := by decide +kernel
theorem dX1_complete_34 : decode cX1_complete 34 = .ok (.aload_n 0, 1) := by decide +kernel
theorem dX1_complete_35 : decode cX1_complete 35 = .ok (.getfield 21, 3) := by decide +kernel
theorem dX1_complete_38 : decode cX1_complete 38 = .ok (.iload 4, 2) := by decide +kernel
theorem dX1_complete_40 : decode cX1_complete 40 = .ok (.iconst 1, 1) := by decide +kernel
theorem dX1_complete_41 : decode cX1_complete 41 = .ok (.iadd, 1) := by decide +kernel
theorem dX1_complete_42 : decode cX1_complete 42 = .ok (.aload_n 2, 1) := by decide +kernel
theorem dX1_complete_43 : decode cX1_complete 43 = .ok (.getfield 43, 3) := by decide +kernel
theorem dX1_complete_46 : decode cX1_complete 46 = .ok (.iastore, 1) := by decide +kernel
theorem dX1_complete_47 : decode cX1_complete 47 = .ok (.aload_n 0, 1) := by decide +kernel
theorem dX1_complete_48 : decode cX1_complete 48 = .ok (.getfield 21, 3) := by decide +kernel
theorem dX1_complete_51 : decode cX1_complete 51 = .ok (.iload 4, 2) := by decide +kernel
theorem dX1_complete_53 : decode cX1_complete 53 = .ok (.iconst 2, 1) := by decide +kernel
theorem dX1_complete_54 : decode cX1_complete 54 = .ok (.iadd, 1) := by decide +kernel
theorem dX1_complete_55 : decode cX1_complete 55 = .ok (.aload_n 2, 1) := by decide +kernel
theorem dX1_complete_56 : decode cX1_complete 56 = .ok (.getfield 48, 3) := by decide +kernel
theorem dX1_complete_59 : decode cX1_complete 59 = .ok (.iastore, 1) := by decide +kernel
theorem dX1_complete_60 : decode cX1_complete 60 = .ok (.aload_n 0, 1) := by decide +kernel
theorem dX1_complete_61 : decode cX1_complete 61 = .ok (.getfield 21, 3) := by decide +kernel
theorem dX1_complete_64 : decode cX1_complete 64 = .ok (.iload 4, 2) := by decide +kernel
theorem dX1_complete_66 : decode cX1_complete 66 = .ok (.iconst 3, 1) := by decide +kernel
theorem dX1_complete_67 : decode cX1_complete 67 = .ok (.iadd, 1) := by decide +kernel
theorem dX1_complete_68 : decode cX1_complete 68 = .ok (.iload_n 3, 1) := by decide +kernel
theorem dX1_complete_69 : decode cX1_complete 69 = .ok (.iastore, 1) := by decide +kernel
theorem dX1_complete_70 : decode cX1_complete 70 = .ok (.aload_n 0, 1) := by decide +kernel
theorem dX1_complete_71 : decode cX1_complete 71 = .ok (.getfield 21, 3) := by decide +kernel
theorem dX1_complete_74 : decode cX1_complete 74 = .ok (.iload 4, 2) := by decide +kernel
theorem dX1_complete_76 : decode cX1_complete 76 = .ok (.iconst 4, 1) := by decide +kernel
theorem dX1_complete_77 : decode cX1_complete 77 = .ok (.iadd, 1) := by decide +kernel
theorem dX1_complete_78 : decode cX1_complete 78 = .ok (.aload_n 2, 1) := by decide +kernel
theorem dX1_complete_79 : decode cX1_complete 79 = .ok (.getfield 43, 3) := by decide +kernel
theorem dX1_complete_82 : decode cX1_complete 82 = .ok (.iconst 4, 1) := by decide +kernel
theorem dX1_complete_83 : decode cX1_complete 83 = .ok (.if_icmp .ne 10, 3) := by decide +kernel
theorem dX1_complete_86 : decode cX1_complete 86 = .ok (.aload_n 2, 1) := by decide +kernel
theorem dX1_complete_87 : decode cX1_complete 87 = .ok (.getfield 51, 3) := by decide +kernel
theorem dX1_complete_90 : decode cX1_complete 90 = .ok (.goto 7, 3) := by decide +kernel
theorem dX1_complete_93 : decode cX1_complete 93 = .ok (.aload_n 2, 1) := by decide +kernel
theorem dX1_complete_94 : decode cX1_complete 94 = .ok (.getfield 54, 3) := by decide +kernel
theorem dX1_complete_97 : decode cX1_complete 97 = .ok (.iastore, 1) := by decide +kernel
theorem dX1_complete_98 : decode cX1_complete 98 = .ok (.aload_n 0, 1) := by decide +kernel
theorem dX1_complete_99 : decode cX1_complete 99 = .ok (.dup, 1) := by decide +kernel
theorem dX1_complete_100 : decode cX1_complete 100 = .ok (.getfield 36, 3) := by decide +kernel
theorem dX1_complete_103 : decode cX1_complete 103 = .ok (.iconst 1, 1) := by decide +kernel
theorem dX1_complete_104 : decode cX1_complete 104 = .ok (.iadd, 1) := by decide +kernel
theorem dX1_complete_105 : decode cX1_complete 105 = .ok (.putfield 36, 3) := by decide +kernel
theorem dX1_complete_108 : decode cX1_complete 108 = .ok (.return_, 1) := by decide +kernel
set_option maxHeartbeats 8000000 in
set_option maxRecDepth 100000 in
theorem x_X1_complete (l : Launch) (E : EE) (z0 : Nat) (G : Nat → Nat) (hGz : ∀ q, G q ≠ 0 → z0 ≤ q) (B : AA) (R : RR) (hW : TW G B R) (h0 : Nat) (p0 : Int32) (p1 : Nat) (p2 : Int32) (hG : G h0 = 5) (hG1 : G p1 = 13) : Met l yX1_complete [Cond.code yX1_complete cX1_complete 5 none] ({ frames := 0, cells := 0, slots := 0, locals := 0 } : Room) (va_Pc [.ref h0, .int p0, .ref p1, .int p2] (fun U => TX E G B R U.heap ∧ KS E z0 U)) (va_Qv (fun (u : AA) => (TW G u R) ∧ (Fr G ([5, 15] : List Nat) B u) ∧ (C_X1_complete G B R h0 p0 p1 p2 u)) (fun u t => TX E G u R t.heap) (fun q : Nat => G q ∈ ([5, 15] : List Nat))) 0 0 (fun q : Nat => G q ∈ ([5, 15] : List Nat)) := by
  refine Met.ofW (cc := cX1_complete) (maxL := 5) (ret := none) (by decide) rfl ?_
  intro p e s m args below meth c s₁ B9 hml hv
  obtain ⟨rfl, hT, hK⟩ := hv
  have hx := B9.exec
  have hb := B9.bytes
  have hr := B9.returns
  have hts : ∀ w ∈ TS, w.before ([.ref h0, .int p0, .ref p1, .int p2] : List Value).toArray s = true := fun w hw => hK.2.1 w hw _
  have hown : s.vm.findClass RX1 = some m.cls := findClass_of_methodNamed B9.named
  have hlocks := B9.notSynchronized
  have hS : va_S (fun q : Nat => G q ∈ ([5, 15] : List Nat)) s.heap s.heap [] := va_S.rf
  have hAz : ∀ q, (fun q : Nat => G q ∈ ([5, 15] : List Nat)) q → z0 ≤ q := zL hGz (by decide)
  have hW_0 := hW
  have hl := lv_entry ([.ref h0, .int p0, .ref p1, .int p2]) (n := 5) (Nat.le_of_ble_eq_true rfl)
  rw [lg_entry_eq]
  generalize (lg_sl ([.ref h0, .int p0, .ref p1, .int p2]) ++ List.replicate (5 - (lg_sl ([.ref h0, .int p0, .ref p1, .int p2])).length) Slot.unset).toArray = ls at hl ⊢
  have hl : lv_has ls 5 [(0, .ref h0), (1, .int p0), (2, .ref p1), (3, .int p2)] := hl
  refine lv_aload_n hx hb dX1_complete_0 rfl (lv_at hl 0 rfl) ?_
  have ha_1 := tx_5 hT hG
  have hb_2 := (tw_5 hW_0 hG).2.2.2.2
  refine va_get (D := DG E) (ci := 1) (v := .int (B h0 4)) (C := RX1) (T := TX1) (N := 5) hx hb hts iw_X1 hown hK.1 (va_one ha_1) 0 rfl rfl 4 (by decide) (hts _ fl_X1_36) (fun _ h9 => h9) rfl dX1_complete_1 ?_
  refine lv_bipush (v := 16) hx hb dX1_complete_4 (by decide) ?_
  refine lv_icmp_ne (tgt := 10) hx hb dX1_complete_6 (by decide) (fun c_3 => ?_) (fun c_3 => ?_)
  · simp only [lt_I, le_I, eq_I, i_0, i_1, i_2, i_3, i_4, i_5, i_6, i_7, i_8, i_10, i_12, i_16, i_20, i_23, i_24, i_31, i_32, i_63, i_64, i_m1] at c_3
    refine lv_aload_n hx hb dX1_complete_10 rfl (lv_at hl 0 rfl) ?_
    have hb_4 := (tw_5 hW_0 hG).2.2.2.1
    refine va_get (D := DG E) (ci := 1) (v := .int (B h0 3)) (C := RX1) (T := TX1) (N := 5) hx hb hts iw_X1 hown hK.1 (va_one ha_1) 0 rfl rfl 3 (by decide) (hts _ fl_X1_40) (fun _ h9 => h9) rfl dX1_complete_11 ?_
    refine lv_aload_n hx hb dX1_complete_14 rfl (lv_at hl 0 rfl) ?_
    refine va_get (D := DG E) (ci := 1) (v := .int (B h0 4)) (C := RX1) (T := TX1) (N := 5) hx hb hts iw_X1 hown hK.1 (va_one ha_1) 0 rfl rfl 4 (by decide) (hts _ fl_X1_36) (fun _ h9 => h9) rfl dX1_complete_15 ?_
    refine lv_iadd hx hb dX1_complete_18 ?_
    refine lv_topi (fun x_5 ex_5 => ?_)
    have fx_5 : x_5.toInt = (B h0 3).toInt + (B h0 4).toInt := by have h9 := s_add (x := (B h0 3)) (y := (B h0 4)) (by omega) (by omega); rw [ex_5]; exact h9
    refine lv_bipush (v := 16) hx hb dX1_complete_19 (by decide) ?_
    refine lv_irem hx hb dX1_complete_21 (by decide) ?_
    refine lv_topi (fun x_6 ex_6 => ?_)
    have fx_6 : x_6.toInt = x_5.toInt % 16 := by have h9 := s_rem (x := x_5) 16 (by decide) (by decide) (by omega); rw [ex_6]; exact h9
    refine lv_iconst (v := 5) hx hb dX1_complete_22 (by decide) ?_
    refine lv_imul hx hb dX1_complete_23 ?_
    refine lv_topi (fun x_7 ex_7 => ?_)
    have fx_7 : x_7.toInt = x_6.toInt * 5 := by rw [ex_7]; exact s_mulR i_5 (by omega) (by omega)
    refine lv_istore (lv' := [(4, .int x_7), (0, .ref h0), (1, .int p0), (2, .ref p1), (3, .int p2)]) hx hb dX1_complete_24 hl (by decide) rfl (fun ls hl => ?_)
    refine lv_aload_n hx hb dX1_complete_26 rfl (lv_at hl 1 rfl) ?_
    have hg_8 : G (R h0 2) = 15 := (tw_5 hW hG).2.2.1
    refine va_get (D := DG E) (ci := 1) (v := .ref (R h0 2)) (C := RX1) (T := TX1) (N := 5) hx hb hts iw_X1 hown hK.1 (va_one ha_1) 0 rfl rfl 2 (by decide) (hts _ fl_X1_21) (fun _ h9 => h9) rfl dX1_complete_27 ?_
    refine lv_iload hx hb dX1_complete_30 (lv_at hl 0 rfl) ?_
    refine lv_iload_n hx hb dX1_complete_32 rfl (lv_at hl 2 rfl) ?_
    have ha_9 := tx_15 hT hg_8
    have hi_10 : vp_in x_7 80 := vp_in_iff.mpr (by omega)
    obtain ⟨n_11, hn_11, en_11⟩ := x_nat (x := x_7) (by omega)
    refine rr_iast (D := DG E) hx hb hK.1 0 ha_9 hS (by show G (R h0 2) ∈ ([5, 15] : List Nat); rw [hg_8]; decide) rfl hi_10 dX1_complete_33 (fun H locs hn ho hz hS => ?_)
    rw [en_11] at hn
    obtain ⟨B_12, eB_12⟩ : ∃ z : AA, z = uA B (R h0 2) (upd (B (R h0 2)) n_11 p0) := ⟨_, rfl⟩
    have sB_12 : B_12 (R h0 2) n_11 = p0 := by rw [eB_12, uA_s]; exact upd_s
    have nB_12 : ∀ k, k ≠ n_11 → B_12 (R h0 2) k = B (R h0 2) k := fun k hk => by rw [eB_12, uA_s]; exact upd_n hk
    have fB_12 : ∀ c, G c ≠ 15 → B_12 c = B c := fun c hc => by rw [eB_12]; exact uA_n (fun e => hc (by rw [e]; exact hg_8))
    have hT : TX E G B_12 R H := by rw [eB_12]; exact hT.w (by rw [hg_8]; exact hn) ho
    have hWB_12 : TW G B_12 R := by rw [eB_12]; exact hW_0.w (by rw [hg_8]; exact trivial)
    have hW := hWB_12
    refine lv_aload_n hx hb dX1_complete_34 rfl (lv_at hl 1 rfl) ?_
    have ha_13 := tx_5 hT hG
    refine va_get (D := DG E) (ci := 1) (v := .ref (R h0 2)) (C := RX1) (T := TX1) (N := 5) hx hb hts iw_X1 hown hK.1 (va_one ha_13) 0 rfl rfl 2 (by decide) (hts _ fl_X1_21) (fun _ h9 => h9) rfl dX1_complete_35 ?_
    refine lv_iload hx hb dX1_complete_38 (lv_at hl 0 rfl) ?_
    refine lv_iconst (v := 1) hx hb dX1_complete_40 (by decide) ?_
    refine lv_iadd hx hb dX1_complete_41 ?_
    refine lv_topi (fun x_14 ex_14 => ?_)
    have fx_14 : x_14.toInt = x_7.toInt + 1 := by have h9 := s_add (x := x_7) (y := 1) (by rw [i_1]; omega) (by rw [i_1]; omega); rw [i_1] at h9; rw [ex_14]; exact h9
    refine lv_aload_n hx hb dX1_complete_42 rfl (lv_at hl 3 rfl) ?_
    have ha_15 := tx_13 hT hG1
    have l_16 : B_12 p1 0 = (B p1 0) := (congrFun (fB_12 p1 (by rw [hG1]; decide)) 0)
    refine va_get (D := DG E) (ci := 4) (v := .int (B_12 p1 0)) (C := RX4) (T := TX4) (N := 10) hx hb hts iw_X4 hown hK.1 (va_one ha_15) 0 rfl rfl 0 (by decide) (hts _ fl_X1_43) (fun _ h9 => h9) rfl dX1_complete_43 ?_
    refine W.eq (g2 := F0 m 46 ls [.int (B p1 0), .int x_14, .ref (R h0 2)]) (by rw [l_16]) ?_
    have ha_17 := tx_15 hT hg_8
    have hi_18 : vp_in x_14 80 := vp_in_iff.mpr (by omega)
    obtain ⟨n_19, hn_19, en_19⟩ := x_nat (x := x_14) (by omega)
    refine rr_iast (D := DG E) hx hb hK.1 0 ha_17 hS (by show G (R h0 2) ∈ ([5, 15] : List Nat); rw [hg_8]; decide) rfl hi_18 dX1_complete_46 (fun H locs hn ho hz hS => ?_)
    rw [en_19] at hn
    obtain ⟨B_20, eB_20⟩ : ∃ z : AA, z = uA B_12 (R h0 2) (upd (B_12 (R h0 2)) n_19 (B p1 0)) := ⟨_, rfl⟩
    have sB_20 : B_20 (R h0 2) n_19 = (B p1 0) := by rw [eB_20, uA_s]; exact upd_s
    have nB_20 : ∀ k, k ≠ n_19 → B_20 (R h0 2) k = B_12 (R h0 2) k := fun k hk => by rw [eB_20, uA_s]; exact upd_n hk
    have fB_20 : ∀ c, G c ≠ 15 → B_20 c = B_12 c := fun c hc => by rw [eB_20]; exact uA_n (fun e => hc (by rw [e]; exact hg_8))
    have hT : TX E G B_20 R H := by rw [eB_20]; exact hT.w (by rw [hg_8]; exact hn) ho
    have hWB_20 : TW G B_20 R := by rw [eB_20]; exact hWB_12.w (by rw [hg_8]; exact trivial)
    have hW := hWB_20
    refine lv_aload_n hx hb dX1_complete_47 rfl (lv_at hl 1 rfl) ?_
    have ha_21 := tx_5 hT hG
    refine va_get (D := DG E) (ci := 1) (v := .ref (R h0 2)) (C := RX1) (T := TX1) (N := 5) hx hb hts iw_X1 hown hK.1 (va_one ha_21) 0 rfl rfl 2 (by decide) (hts _ fl_X1_21) (fun _ h9 => h9) rfl dX1_complete_48 ?_
    refine lv_iload hx hb dX1_complete_51 (lv_at hl 0 rfl) ?_
    refine lv_iconst (v := 2) hx hb dX1_complete_53 (by decide) ?_
    refine lv_iadd hx hb dX1_complete_54 ?_
    refine lv_topi (fun x_22 ex_22 => ?_)
    have fx_22 : x_22.toInt = x_7.toInt + 2 := by have h9 := s_add (x := x_7) (y := 2) (by rw [i_2]; omega) (by rw [i_2]; omega); rw [i_2] at h9; rw [ex_22]; exact h9
    refine lv_aload_n hx hb dX1_complete_55 rfl (lv_at hl 3 rfl) ?_
    have ha_23 := tx_13 hT hG1
    have l_24 : B_20 p1 1 = (B p1 1) := ((congrFun (fB_20 p1 (by rw [hG1]; decide)) 1)).trans ((congrFun (fB_12 p1 (by rw [hG1]; decide)) 1))
    refine va_get (D := DG E) (ci := 4) (v := .int (B_20 p1 1)) (C := RX4) (T := TX4) (N := 10) hx hb hts iw_X4 hown hK.1 (va_one ha_23) 0 rfl rfl 1 (by decide) (hts _ fl_X1_48) (fun _ h9 => h9) rfl dX1_complete_56 ?_
    refine W.eq (g2 := F0 m 59 ls [.int (B p1 1), .int x_22, .ref (R h0 2)]) (by rw [l_24]) ?_
    have ha_25 := tx_15 hT hg_8
    have hi_26 : vp_in x_22 80 := vp_in_iff.mpr (by omega)
    obtain ⟨n_27, hn_27, en_27⟩ := x_nat (x := x_22) (by omega)
    refine rr_iast (D := DG E) hx hb hK.1 0 ha_25 hS (by show G (R h0 2) ∈ ([5, 15] : List Nat); rw [hg_8]; decide) rfl hi_26 dX1_complete_59 (fun H locs hn ho hz hS => ?_)
    rw [en_27] at hn
    obtain ⟨B_28, eB_28⟩ : ∃ z : AA, z = uA B_20 (R h0 2) (upd (B_20 (R h0 2)) n_27 (B p1 1)) := ⟨_, rfl⟩
    have sB_28 : B_28 (R h0 2) n_27 = (B p1 1) := by rw [eB_28, uA_s]; exact upd_s
    have nB_28 : ∀ k, k ≠ n_27 → B_28 (R h0 2) k = B_20 (R h0 2) k := fun k hk => by rw [eB_28, uA_s]; exact upd_n hk
    have fB_28 : ∀ c, G c ≠ 15 → B_28 c = B_20 c := fun c hc => by rw [eB_28]; exact uA_n (fun e => hc (by rw [e]; exact hg_8))
    have hT : TX E G B_28 R H := by rw [eB_28]; exact hT.w (by rw [hg_8]; exact hn) ho
    have hWB_28 : TW G B_28 R := by rw [eB_28]; exact hWB_20.w (by rw [hg_8]; exact trivial)
    have hW := hWB_28
    refine lv_aload_n hx hb dX1_complete_60 rfl (lv_at hl 1 rfl) ?_
    have ha_29 := tx_5 hT hG
    refine va_get (D := DG E) (ci := 1) (v := .ref (R h0 2)) (C := RX1) (T := TX1) (N := 5) hx hb hts iw_X1 hown hK.1 (va_one ha_29) 0 rfl rfl 2 (by decide) (hts _ fl_X1_21) (fun _ h9 => h9) rfl dX1_complete_61 ?_
    refine lv_iload hx hb dX1_complete_64 (lv_at hl 0 rfl) ?_
    refine lv_iconst (v := 3) hx hb dX1_complete_66 (by decide) ?_
    refine lv_iadd hx hb dX1_complete_67 ?_
    refine lv_topi (fun x_30 ex_30 => ?_)
    have fx_30 : x_30.toInt = x_7.toInt + 3 := by have h9 := s_add (x := x_7) (y := 3) (by rw [i_3]; omega) (by rw [i_3]; omega); rw [i_3] at h9; rw [ex_30]; exact h9
    refine lv_iload_n hx hb dX1_complete_68 rfl (lv_at hl 4 rfl) ?_
    have ha_31 := tx_15 hT hg_8
    have hi_32 : vp_in x_30 80 := vp_in_iff.mpr (by omega)
    obtain ⟨n_33, hn_33, en_33⟩ := x_nat (x := x_30) (by omega)
    refine rr_iast (D := DG E) hx hb hK.1 0 ha_31 hS (by show G (R h0 2) ∈ ([5, 15] : List Nat); rw [hg_8]; decide) rfl hi_32 dX1_complete_69 (fun H locs hn ho hz hS => ?_)
    rw [en_33] at hn
    obtain ⟨B_34, eB_34⟩ : ∃ z : AA, z = uA B_28 (R h0 2) (upd (B_28 (R h0 2)) n_33 p2) := ⟨_, rfl⟩
    have sB_34 : B_34 (R h0 2) n_33 = p2 := by rw [eB_34, uA_s]; exact upd_s
    have nB_34 : ∀ k, k ≠ n_33 → B_34 (R h0 2) k = B_28 (R h0 2) k := fun k hk => by rw [eB_34, uA_s]; exact upd_n hk
    have fB_34 : ∀ c, G c ≠ 15 → B_34 c = B_28 c := fun c hc => by rw [eB_34]; exact uA_n (fun e => hc (by rw [e]; exact hg_8))
    have hT : TX E G B_34 R H := by rw [eB_34]; exact hT.w (by rw [hg_8]; exact hn) ho
    have hWB_34 : TW G B_34 R := by rw [eB_34]; exact hWB_28.w (by rw [hg_8]; exact trivial)
    have hW := hWB_34
    refine lv_aload_n hx hb dX1_complete_70 rfl (lv_at hl 1 rfl) ?_
    have ha_35 := tx_5 hT hG
    refine va_get (D := DG E) (ci := 1) (v := .ref (R h0 2)) (C := RX1) (T := TX1) (N := 5) hx hb hts iw_X1 hown hK.1 (va_one ha_35) 0 rfl rfl 2 (by decide) (hts _ fl_X1_21) (fun _ h9 => h9) rfl dX1_complete_71 ?_
    refine lv_iload hx hb dX1_complete_74 (lv_at hl 0 rfl) ?_
    refine lv_iconst (v := 4) hx hb dX1_complete_76 (by decide) ?_
    refine lv_iadd hx hb dX1_complete_77 ?_
    refine lv_topi (fun x_36 ex_36 => ?_)
    have fx_36 : x_36.toInt = x_7.toInt + 4 := by have h9 := s_add (x := x_7) (y := 4) (by rw [i_4]; omega) (by rw [i_4]; omega); rw [i_4] at h9; rw [ex_36]; exact h9
    refine lv_aload_n hx hb dX1_complete_78 rfl (lv_at hl 3 rfl) ?_
    have ha_37 := tx_13 hT hG1
    have l_38 : B_34 p1 0 = (B p1 0) := ((congrFun (fB_34 p1 (by rw [hG1]; decide)) 0)).trans (((congrFun (fB_28 p1 (by rw [hG1]; decide)) 0)).trans (((congrFun (fB_20 p1 (by rw [hG1]; decide)) 0)).trans ((congrFun (fB_12 p1 (by rw [hG1]; decide)) 0))))
    refine va_get (D := DG E) (ci := 4) (v := .int (B_34 p1 0)) (C := RX4) (T := TX4) (N := 10) hx hb hts iw_X4 hown hK.1 (va_one ha_37) 0 rfl rfl 0 (by decide) (hts _ fl_X1_43) (fun _ h9 => h9) rfl dX1_complete_79 ?_
    refine W.eq (g2 := F0 m 82 ls [.int (B p1 0), .int x_36, .ref (R h0 2)]) (by rw [l_38]) ?_
    refine lv_iconst (v := 4) hx hb dX1_complete_82 (by decide) ?_
    refine lv_icmp_ne (tgt := 93) hx hb dX1_complete_83 (by decide) (fun c_39 => ?_) (fun c_39 => ?_)
    · simp only [lt_I, le_I, eq_I, i_0, i_1, i_2, i_3, i_4, i_5, i_6, i_7, i_8, i_10, i_12, i_16, i_20, i_23, i_24, i_31, i_32, i_63, i_64, i_m1] at c_39
      refine lv_aload_n hx hb dX1_complete_93 rfl (lv_at hl 3 rfl) ?_
      have l_40 : B_34 p1 3 = (B p1 3) := ((congrFun (fB_34 p1 (by rw [hG1]; decide)) 3)).trans (((congrFun (fB_28 p1 (by rw [hG1]; decide)) 3)).trans (((congrFun (fB_20 p1 (by rw [hG1]; decide)) 3)).trans ((congrFun (fB_12 p1 (by rw [hG1]; decide)) 3))))
      have hb_41 := (tw_13 hW_0 hG1)
      refine va_get (D := DG E) (ci := 4) (v := .int (B_34 p1 3)) (C := RX4) (T := TX4) (N := 10) hx hb hts iw_X4 hown hK.1 (va_one ha_37) 0 rfl rfl 3 (by decide) (hts _ fl_X1_54) (fun _ h9 => h9) rfl dX1_complete_94 ?_
      refine W.eq (g2 := F0 m 97 ls [.int (B p1 3), .int x_36, .ref (R h0 2)]) (by rw [l_40]) ?_
      have ha_42 := tx_15 hT hg_8
      have hi_43 : vp_in x_36 80 := vp_in_iff.mpr (by omega)
      obtain ⟨n_44, hn_44, en_44⟩ := x_nat (x := x_36) (by omega)
      refine rr_iast (D := DG E) hx hb hK.1 0 ha_42 hS (by show G (R h0 2) ∈ ([5, 15] : List Nat); rw [hg_8]; decide) rfl hi_43 dX1_complete_97 (fun H locs hn ho hz hS => ?_)
      rw [en_44] at hn
      obtain ⟨B_45, eB_45⟩ : ∃ z : AA, z = uA B_34 (R h0 2) (upd (B_34 (R h0 2)) n_44 (B p1 3)) := ⟨_, rfl⟩
      have sB_45 : B_45 (R h0 2) n_44 = (B p1 3) := by rw [eB_45, uA_s]; exact upd_s
      have nB_45 : ∀ k, k ≠ n_44 → B_45 (R h0 2) k = B_34 (R h0 2) k := fun k hk => by rw [eB_45, uA_s]; exact upd_n hk
      have fB_45 : ∀ c, G c ≠ 15 → B_45 c = B_34 c := fun c hc => by rw [eB_45]; exact uA_n (fun e => hc (by rw [e]; exact hg_8))
      have hT : TX E G B_45 R H := by rw [eB_45]; exact hT.w (by rw [hg_8]; exact hn) ho
      have hWB_45 : TW G B_45 R := by rw [eB_45]; exact hWB_34.w (by rw [hg_8]; exact trivial)
      have hW := hWB_45
      refine lv_aload_n hx hb dX1_complete_98 rfl (lv_at hl 1 rfl) ?_
      refine lv_dup hx hb dX1_complete_99 rfl ?_
      have ha_46 := tx_5 hT hG
      have l_47 : B_45 h0 4 = (B h0 4) := ((congrFun (fB_45 h0 (by rw [hG]; decide)) 4)).trans (((congrFun (fB_34 h0 (by rw [hG]; decide)) 4)).trans (((congrFun (fB_28 h0 (by rw [hG]; decide)) 4)).trans (((congrFun (fB_20 h0 (by rw [hG]; decide)) 4)).trans ((congrFun (fB_12 h0 (by rw [hG]; decide)) 4)))))
      refine va_get (D := DG E) (ci := 1) (v := .int (B_45 h0 4)) (C := RX1) (T := TX1) (N := 5) hx hb hts iw_X1 hown hK.1 (va_one ha_46) 0 rfl rfl 4 (by decide) (hts _ fl_X1_36) (fun _ h9 => h9) rfl dX1_complete_100 ?_
      refine W.eq (g2 := F0 m 103 ls [.int (B h0 4), .ref h0]) (by rw [l_47]) ?_
      refine lv_iconst (v := 1) hx hb dX1_complete_103 (by decide) ?_
      refine lv_iadd hx hb dX1_complete_104 ?_
      refine lv_topi (fun x_48 ex_48 => ?_)
      have fx_48 : x_48.toInt = (B h0 4).toInt + 1 := by have h9 := s_add (x := (B h0 4)) (y := 1) (by rw [i_1]; omega) (by rw [i_1]; omega); rw [i_1] at h9; rw [ex_48]; exact h9
      have h9_49 := tw_5 hWB_45 hG
      refine rr_put (D := DG E) (ci := 1) (v := .int x_48) (ty := .int) (C := RX1) (T := TX1) (N := 5) hx hb hts iw_X1 tyX1 tyX1_ok nmX1 hown hK.1 ha_46 hS (by show G h0 ∈ ([5, 15] : List Nat); rw [hG]; decide) rfl 4 (by decide) (hts _ fl_X1_36) (fun _ h9 => h9) rfl (by decide +kernel) rfl rfl (Nat.le_of_ble_eq_true rfl) dX1_complete_105 (fun H locs hn ho hz hS => ?_)
      obtain ⟨B_50, eB_50⟩ : ∃ z : AA, z = uA B_45 h0 (upd (B_45 h0) 4 x_48) := ⟨_, rfl⟩
      have sB_50 : B_50 h0 4 = x_48 := by rw [eB_50, uA_s]; exact upd_s
      have nB_50 : ∀ k, k ≠ 4 → B_50 h0 k = B_45 h0 k := fun k hk => by rw [eB_50, uA_s]; exact upd_n hk
      have fB_50 : ∀ c, G c ≠ 5 → B_50 c = B_45 c := fun c hc => by rw [eB_50]; exact uA_n (fun e => hc (by rw [e]; exact hG))
      have hT : TX E G B_50 R H := by rw [eB_50]; exact hT.w (by rw [hG]; exact hn) ho
      have hWB_50 : TW G B_50 R := by rw [eB_50]; exact hWB_45.w (by rw [hG]; exact ⟨h9_49.1, h9_49.2.1, h9_49.2.2.1, h9_49.2.2.2.1, (show 0 ≤ (x_48 : Int32).toInt ∧ (x_48 : Int32).toInt ≤ 16 from by omega)⟩)
      have hW := hWB_50
      exact W.vret hx hb hr (fun t ht hW9 => ⟨⟨B_50, rfl, ⟨hW, (Fr.w (Fr.w (Fr.w (Fr.w (Fr.w (Fr.w Fr.rf hg_8 (by decide) eB_12) hg_8 (by decide) eB_20) hg_8 (by decide) eB_28) hg_8 (by decide) eB_34) hg_8 (by decide) eB_45) hG (by decide) eB_50), (Or.inl ⟨c_3, x_5, ex_5, fx_5, x_6, ex_6, fx_6, x_7, ex_7, fx_7, n_11, hn_11, B_12, eB_12, x_14, ex_14, fx_14, n_19, hn_19, B_20, eB_20, x_22, ex_22, fx_22, n_27, hn_27, B_28, eB_28, x_30, ex_30, fx_30, n_33, hn_33, B_34, eB_34, x_36, ex_36, fx_36, c_39, n_44, hn_44, B_45, eB_45, x_48, ex_48, fx_48, B_50, eB_50, rfl⟩)⟩, (by show TX E G B_50 R t.heap; rw [ht]; exact hT)⟩, hS.F ht⟩) hS.2.2 dX1_complete_108
    · simp only [lt_I, le_I, eq_I, i_0, i_1, i_2, i_3, i_4, i_5, i_6, i_7, i_8, i_10, i_12, i_16, i_20, i_23, i_24, i_31, i_32, i_63, i_64, i_m1] at c_39
      refine lv_aload_n hx hb dX1_complete_86 rfl (lv_at hl 3 rfl) ?_
      have l_51 : B_34 p1 9 = (B p1 9) := ((congrFun (fB_34 p1 (by rw [hG1]; decide)) 9)).trans (((congrFun (fB_28 p1 (by rw [hG1]; decide)) 9)).trans (((congrFun (fB_20 p1 (by rw [hG1]; decide)) 9)).trans ((congrFun (fB_12 p1 (by rw [hG1]; decide)) 9))))
      refine va_get (D := DG E) (ci := 4) (v := .int (B_34 p1 9)) (C := RX4) (T := TX4) (N := 10) hx hb hts iw_X4 hown hK.1 (va_one ha_37) 0 rfl rfl 9 (by decide) (hts _ fl_X1_51) (fun _ h9 => h9) rfl dX1_complete_87 ?_
      refine W.eq (g2 := F0 m 90 ls [.int (B p1 9), .int x_36, .ref (R h0 2)]) (by rw [l_51]) ?_
      refine lv_goto (tgt := 97) hx hb dX1_complete_90 (by decide) ?_
      have ha_52 := tx_15 hT hg_8
      have hi_53 : vp_in x_36 80 := vp_in_iff.mpr (by omega)
      obtain ⟨n_54, hn_54, en_54⟩ := x_nat (x := x_36) (by omega)
      refine rr_iast (D := DG E) hx hb hK.1 0 ha_52 hS (by show G (R h0 2) ∈ ([5, 15] : List Nat); rw [hg_8]; decide) rfl hi_53 dX1_complete_97 (fun H locs hn ho hz hS => ?_)
      rw [en_54] at hn
      obtain ⟨B_55, eB_55⟩ : ∃ z : AA, z = uA B_34 (R h0 2) (upd (B_34 (R h0 2)) n_54 (B p1 9)) := ⟨_, rfl⟩
      have sB_55 : B_55 (R h0 2) n_54 = (B p1 9) := by rw [eB_55, uA_s]; exact upd_s
      have nB_55 : ∀ k, k ≠ n_54 → B_55 (R h0 2) k = B_34 (R h0 2) k := fun k hk => by rw [eB_55, uA_s]; exact upd_n hk
      have fB_55 : ∀ c, G c ≠ 15 → B_55 c = B_34 c := fun c hc => by rw [eB_55]; exact uA_n (fun e => hc (by rw [e]; exact hg_8))
      have hT : TX E G B_55 R H := by rw [eB_55]; exact hT.w (by rw [hg_8]; exact hn) ho
      have hWB_55 : TW G B_55 R := by rw [eB_55]; exact hWB_34.w (by rw [hg_8]; exact trivial)
      have hW := hWB_55
      refine lv_aload_n hx hb dX1_complete_98 rfl (lv_at hl 1 rfl) ?_
      refine lv_dup hx hb dX1_complete_99 rfl ?_
      have ha_56 := tx_5 hT hG
      have l_57 : B_55 h0 4 = (B h0 4) := ((congrFun (fB_55 h0 (by rw [hG]; decide)) 4)).trans (((congrFun (fB_34 h0 (by rw [hG]; decide)) 4)).trans (((congrFun (fB_28 h0 (by rw [hG]; decide)) 4)).trans (((congrFun (fB_20 h0 (by rw [hG]; decide)) 4)).trans ((congrFun (fB_12 h0 (by rw [hG]; decide)) 4)))))
      refine va_get (D := DG E) (ci := 1) (v := .int (B_55 h0 4)) (C := RX1) (T := TX1) (N := 5) hx hb hts iw_X1 hown hK.1 (va_one ha_56) 0 rfl rfl 4 (by decide) (hts _ fl_X1_36) (fun _ h9 => h9) rfl dX1_complete_100 ?_
      refine W.eq (g2 := F0 m 103 ls [.int (B h0 4), .ref h0]) (by rw [l_57]) ?_
      refine lv_iconst (v := 1) hx hb dX1_complete_103 (by decide) ?_
      refine lv_iadd hx hb dX1_complete_104 ?_
      refine lv_topi (fun x_58 ex_58 => ?_)
      have fx_58 : x_58.toInt = (B h0 4).toInt + 1 := by have h9 := s_add (x := (B h0 4)) (y := 1) (by rw [i_1]; omega) (by rw [i_1]; omega); rw [i_1] at h9; rw [ex_58]; exact h9
      have h9_59 := tw_5 hWB_55 hG
      refine rr_put (D := DG E) (ci := 1) (v := .int x_58) (ty := .int) (C := RX1) (T := TX1) (N := 5) hx hb hts iw_X1 tyX1 tyX1_ok nmX1 hown hK.1 ha_56 hS (by show G h0 ∈ ([5, 15] : List Nat); rw [hG]; decide) rfl 4 (by decide) (hts _ fl_X1_36) (fun _ h9 => h9) rfl (by decide +kernel) rfl rfl (Nat.le_of_ble_eq_true rfl) dX1_complete_105 (fun H locs hn ho hz hS => ?_)
      obtain ⟨B_60, eB_60⟩ : ∃ z : AA, z = uA B_55 h0 (upd (B_55 h0) 4 x_58) := ⟨_, rfl⟩
      have sB_60 : B_60 h0 4 = x_58 := by rw [eB_60, uA_s]; exact upd_s
      have nB_60 : ∀ k, k ≠ 4 → B_60 h0 k = B_55 h0 k := fun k hk => by rw [eB_60, uA_s]; exact upd_n hk
      have fB_60 : ∀ c, G c ≠ 5 → B_60 c = B_55 c := fun c hc => by rw [eB_60]; exact uA_n (fun e => hc (by rw [e]; exact hG))
      have hT : TX E G B_60 R H := by rw [eB_60]; exact hT.w (by rw [hG]; exact hn) ho
      have hWB_60 : TW G B_60 R := by rw [eB_60]; exact hWB_55.w (by rw [hG]; exact ⟨h9_59.1, h9_59.2.1, h9_59.2.2.1, h9_59.2.2.2.1, (show 0 ≤ (x_58 : Int32).toInt ∧ (x_58 : Int32).toInt ≤ 16 from by omega)⟩)
      have hW := hWB_60
      exact W.vret hx hb hr (fun t ht hW9 => ⟨⟨B_60, rfl, ⟨hW, (Fr.w (Fr.w (Fr.w (Fr.w (Fr.w (Fr.w Fr.rf hg_8 (by decide) eB_12) hg_8 (by decide) eB_20) hg_8 (by decide) eB_28) hg_8 (by decide) eB_34) hg_8 (by decide) eB_55) hG (by decide) eB_60), (Or.inr (Or.inl ⟨c_3, x_5, ex_5, fx_5, x_6, ex_6, fx_6, x_7, ex_7, fx_7, n_11, hn_11, B_12, eB_12, x_14, ex_14, fx_14, n_19, hn_19, B_20, eB_20, x_22, ex_22, fx_22, n_27, hn_27, B_28, eB_28, x_30, ex_30, fx_30, n_33, hn_33, B_34, eB_34, x_36, ex_36, fx_36, c_39, n_54, hn_54, B_55, eB_55, x_58, ex_58, fx_58, B_60, eB_60, rfl⟩))⟩, (by show TX E G B_60 R t.heap; rw [ht]; exact hT)⟩, hS.F ht⟩) hS.2.2 dX1_complete_108
  · simp only [lt_I, le_I, eq_I, i_0, i_1, i_2, i_3, i_4, i_5, i_6, i_7, i_8, i_10, i_12, i_16, i_20, i_23, i_24, i_31, i_32, i_63, i_64, i_m1] at c_3
    exact W.vret hx hb hr (fun t ht hW9 => ⟨⟨B, rfl, ⟨hW, Fr.rf, (Or.inr (Or.inr ⟨c_3, rfl⟩))⟩, (by show TX E G B R t.heap; rw [ht]; exact hT)⟩, hS.F ht⟩) hS.2.2 dX1_complete_9
theorem dX1_tellFirst_0 : decode cX1_tellFirst 0 = .ok (.aload_n 0, 1) := by decide +kernel
theorem dX1_tellFirst_1 : decode cX1_tellFirst 1 = .ok (.getfield 21, 3) := by decide +kernel
theorem dX1_tellFirst_4 : decode cX1_tellFirst 4 = .ok (.aload_n 0, 1) := by decide +kernel
theorem dX1_tellFirst_5 : decode cX1_tellFirst 5 = .ok (.getfield 40, 3) := by decide +kernel
theorem dX1_tellFirst_8 : decode cX1_tellFirst 8 = .ok (.iconst 5, 1) := by decide +kernel
theorem dX1_tellFirst_9 : decode cX1_tellFirst 9 = .ok (.imul, 1) := by decide +kernel
theorem dX1_tellFirst_10 : decode cX1_tellFirst 10 = .ok (.iload_n 1, 1) := by decide +kernel
theorem dX1_tellFirst_11 : decode cX1_tellFirst 11 = .ok (.iadd, 1) := by decide +kernel
theorem dX1_tellFirst_12 : decode cX1_tellFirst 12 = .ok (.iaload, 1) := by decide +kernel
theorem dX1_tellFirst_13 : decode cX1_tellFirst 13 = .ok (.ireturn, 1) := by decide +kernel
set_option maxHeartbeats 8000000 in
set_option maxRecDepth 100000 in
theorem x_X1_tellFirst (l : Launch) (E : EE) (z0 : Nat) (G : Nat → Nat) (hGz : ∀ q, G q ≠ 0 → z0 ≤ q) (B : AA) (R : RR) (hW : TW G B R) (h0 : Nat) (p0 : Int32) (hG : G h0 = 5) (hy0 : 0 ≤ p0.toInt ∧ p0.toInt ≤ 4) : Met l yX1_tellFirst [Cond.code yX1_tellFirst cX1_tellFirst 2 (some .int)] ({ frames := 0, cells := 0, slots := 0, locals := 0 } : Room) (va_Pc [.ref h0, .int p0] (fun U => TX E G B R U.heap ∧ KS E z0 U)) (va_Qi (fun (r : Int32) (u : Unit) => (C_X1_tellFirst G B R h0 p0 r)) (fun u t => True) (fun _ : Nat => False)) 0 0 (fun _ : Nat => False) := by
  refine Met.ofW (cc := cX1_tellFirst) (maxL := 2) (ret := (some .int)) (by decide) rfl ?_
  intro p e s m args below meth c s₁ B9 hml hv
  obtain ⟨rfl, hT, hK⟩ := hv
  have hx := B9.exec
  have hb := B9.bytes
  have hr := B9.returns
  have hts : ∀ w ∈ TS, w.before ([.ref h0, .int p0] : List Value).toArray s = true := fun w hw => hK.2.1 w hw _
  have hown : s.vm.findClass RX1 = some m.cls := findClass_of_methodNamed B9.named
  have hlocks := B9.notSynchronized
  have hS : va_S (fun _ : Nat => False) s.heap s.heap [] := va_S.rf
  have hAz : ∀ q, (fun _ : Nat => False) q → z0 ≤ q := fun _ h => h.elim
  have hW_0 := hW
  have hl := lv_entry ([.ref h0, .int p0]) (n := 2) (Nat.le_of_ble_eq_true rfl)
  rw [lg_entry_eq]
  generalize (lg_sl ([.ref h0, .int p0]) ++ List.replicate (2 - (lg_sl ([.ref h0, .int p0])).length) Slot.unset).toArray = ls at hl ⊢
  have hl : lv_has ls 2 [(0, .ref h0), (1, .int p0)] := hl
  refine lv_aload_n hx hb dX1_tellFirst_0 rfl (lv_at hl 0 rfl) ?_
  have ha_1 := tx_5 hT hG
  have hg_2 : G (R h0 2) = 15 := (tw_5 hW hG).2.2.1
  refine va_get (D := DG E) (ci := 1) (v := .ref (R h0 2)) (C := RX1) (T := TX1) (N := 5) hx hb hts iw_X1 hown hK.1 (va_one ha_1) 0 rfl rfl 2 (by decide) (hts _ fl_X1_21) (fun _ h9 => h9) rfl dX1_tellFirst_1 ?_
  refine lv_aload_n hx hb dX1_tellFirst_4 rfl (lv_at hl 0 rfl) ?_
  have hb_3 := (tw_5 hW_0 hG).2.2.2.1
  refine va_get (D := DG E) (ci := 1) (v := .int (B h0 3)) (C := RX1) (T := TX1) (N := 5) hx hb hts iw_X1 hown hK.1 (va_one ha_1) 0 rfl rfl 3 (by decide) (hts _ fl_X1_40) (fun _ h9 => h9) rfl dX1_tellFirst_5 ?_
  refine lv_iconst (v := 5) hx hb dX1_tellFirst_8 (by decide) ?_
  refine lv_imul hx hb dX1_tellFirst_9 ?_
  refine lv_topi (fun x_4 ex_4 => ?_)
  have fx_4 : x_4.toInt = (B h0 3).toInt * 5 := by rw [ex_4]; exact s_mulR i_5 (by omega) (by omega)
  refine lv_iload_n hx hb dX1_tellFirst_10 rfl (lv_at hl 1 rfl) ?_
  refine lv_iadd hx hb dX1_tellFirst_11 ?_
  refine lv_topi (fun x_5 ex_5 => ?_)
  have fx_5 : x_5.toInt = x_4.toInt + p0.toInt := by have h9 := s_add (x := x_4) (y := p0) (by omega) (by omega); rw [ex_5]; exact h9
  have ha_6 := tx_15 hT hg_2
  have hi_7 : vp_in x_5 80 := vp_in_iff.mpr (by omega)
  obtain ⟨n_8, hn_8, en_8⟩ := x_nat (x := x_5) (by omega)
  refine va_iald (D := DG E) hx hb hK.1 (va_one ha_6) 0 0 rfl rfl hi_7 dX1_tellFirst_12 ?_
  refine W.eq (g2 := F0 m 13 ls [.int (B (R h0 2) n_8)]) (by rw [en_8]) ?_
  exact W.iret (v := (B (R h0 2) n_8)) hx hb hr (fun t ht hW9 => ⟨⟨(B (R h0 2) n_8), (), rfl, ⟨x_4, ex_4, fx_4, x_5, ex_5, fx_5, n_8, hn_8, rfl⟩, trivial⟩, hS.F ht⟩) hS.2.2 dX1_tellFirst_13
theorem dX1_dropFirst_0 : decode cX1_dropFirst 0 = .ok (.aload_n 0, 1) := by decide +kernel
theorem dX1_dropFirst_1 : decode cX1_dropFirst 1 = .ok (.aload_n 0, 1) := by decide +kernel
theorem dX1_dropFirst_2 : decode cX1_dropFirst 2 = .ok (.getfield 40, 3) := by decide +kernel
theorem dX1_dropFirst_5 : decode cX1_dropFirst 5 = .ok (.iconst 1, 1) := by decide +kernel
theorem dX1_dropFirst_6 : decode cX1_dropFirst 6 = .ok (.iadd, 1) := by decide +kernel
theorem dX1_dropFirst_7 : decode cX1_dropFirst 7 = .ok (.bipush 16, 2) := by decide +kernel
theorem dX1_dropFirst_9 : decode cX1_dropFirst 9 = .ok (.irem, 1) := by decide +kernel
theorem dX1_dropFirst_10 : decode cX1_dropFirst 10 = .ok (.putfield 40, 3) := by decide +kernel
theorem dX1_dropFirst_13 : decode cX1_dropFirst 13 = .ok (.aload_n 0, 1) := by decide +kernel
theorem dX1_dropFirst_14 : decode cX1_dropFirst 14 = .ok (.dup, 1) := by decide +kernel
theorem dX1_dropFirst_15 : decode cX1_dropFirst 15 = .ok (.getfield 36, 3) := by decide +kernel
theorem dX1_dropFirst_18 : decode cX1_dropFirst 18 = .ok (.iconst 1, 1) := by decide +kernel
theorem dX1_dropFirst_19 : decode cX1_dropFirst 19 = .ok (.isub, 1) := by decide +kernel
theorem dX1_dropFirst_20 : decode cX1_dropFirst 20 = .ok (.putfield 36, 3) := by decide +kernel
theorem dX1_dropFirst_23 : decode cX1_dropFirst 23 = .ok (.return_, 1) := by decide +kernel
set_option maxHeartbeats 8000000 in
set_option maxRecDepth 100000 in
theorem x_X1_dropFirst (l : Launch) (E : EE) (z0 : Nat) (G : Nat → Nat) (hGz : ∀ q, G q ≠ 0 → z0 ≤ q) (B : AA) (R : RR) (hW : TW G B R) (h0 : Nat) (hG : G h0 = 5) (hy0 : 1 ≤ (B h0 4).toInt) : Met l yX1_dropFirst [Cond.code yX1_dropFirst cX1_dropFirst 1 none] ({ frames := 0, cells := 0, slots := 0, locals := 0 } : Room) (va_Pc [.ref h0] (fun U => TX E G B R U.heap ∧ KS E z0 U)) (va_Qv (fun (u : AA) => (TW G u R) ∧ (Fr G ([5] : List Nat) B u) ∧ (C_X1_dropFirst G B R h0 u)) (fun u t => TX E G u R t.heap) (fun q : Nat => G q ∈ ([5] : List Nat))) 0 0 (fun q : Nat => G q ∈ ([5] : List Nat)) := by
  refine Met.ofW (cc := cX1_dropFirst) (maxL := 1) (ret := none) (by decide) rfl ?_
  intro p e s m args below meth c s₁ B9 hml hv
  obtain ⟨rfl, hT, hK⟩ := hv
  have hx := B9.exec
  have hb := B9.bytes
  have hr := B9.returns
  have hts : ∀ w ∈ TS, w.before ([.ref h0] : List Value).toArray s = true := fun w hw => hK.2.1 w hw _
  have hown : s.vm.findClass RX1 = some m.cls := findClass_of_methodNamed B9.named
  have hlocks := B9.notSynchronized
  have hS : va_S (fun q : Nat => G q ∈ ([5] : List Nat)) s.heap s.heap [] := va_S.rf
  have hAz : ∀ q, (fun q : Nat => G q ∈ ([5] : List Nat)) q → z0 ≤ q := zL hGz (by decide)
  have hW_0 := hW
  have hl := lv_entry ([.ref h0]) (n := 1) (Nat.le_of_ble_eq_true rfl)
  rw [lg_entry_eq]
  generalize (lg_sl ([.ref h0]) ++ List.replicate (1 - (lg_sl ([.ref h0])).length) Slot.unset).toArray = ls at hl ⊢
  have hl : lv_has ls 1 [(0, .ref h0)] := hl
  refine lv_aload_n hx hb dX1_dropFirst_0 rfl (lv_at hl 0 rfl) ?_
  refine lv_aload_n hx hb dX1_dropFirst_1 rfl (lv_at hl 0 rfl) ?_
  have ha_1 := tx_5 hT hG
  have hb_2 := (tw_5 hW_0 hG).2.2.2.1
  refine va_get (D := DG E) (ci := 1) (v := .int (B h0 3)) (C := RX1) (T := TX1) (N := 5) hx hb hts iw_X1 hown hK.1 (va_one ha_1) 0 rfl rfl 3 (by decide) (hts _ fl_X1_40) (fun _ h9 => h9) rfl dX1_dropFirst_2 ?_
  refine lv_iconst (v := 1) hx hb dX1_dropFirst_5 (by decide) ?_
  refine lv_iadd hx hb dX1_dropFirst_6 ?_
  refine lv_topi (fun x_3 ex_3 => ?_)
  have fx_3 : x_3.toInt = (B h0 3).toInt + 1 := by have h9 := s_add (x := (B h0 3)) (y := 1) (by rw [i_1]; omega) (by rw [i_1]; omega); rw [i_1] at h9; rw [ex_3]; exact h9
  refine lv_bipush (v := 16) hx hb dX1_dropFirst_7 (by decide) ?_
  refine lv_irem hx hb dX1_dropFirst_9 (by decide) ?_
  refine lv_topi (fun x_4 ex_4 => ?_)
  have fx_4 : x_4.toInt = x_3.toInt % 16 := by have h9 := s_rem (x := x_3) 16 (by decide) (by decide) (by omega); rw [ex_4]; exact h9
  have h9_5 := tw_5 hW_0 hG
  refine rr_put (D := DG E) (ci := 1) (v := .int x_4) (ty := .int) (C := RX1) (T := TX1) (N := 5) hx hb hts iw_X1 tyX1 tyX1_ok nmX1 hown hK.1 ha_1 hS (by show G h0 ∈ ([5] : List Nat); rw [hG]; decide) rfl 3 (by decide) (hts _ fl_X1_40) (fun _ h9 => h9) rfl (by decide +kernel) rfl rfl (Nat.le_of_ble_eq_true rfl) dX1_dropFirst_10 (fun H locs hn ho hz hS => ?_)
  obtain ⟨B_6, eB_6⟩ : ∃ z : AA, z = uA B h0 (upd (B h0) 3 x_4) := ⟨_, rfl⟩
  have sB_6 : B_6 h0 3 = x_4 := by rw [eB_6, uA_s]; exact upd_s
  have nB_6 : ∀ k, k ≠ 3 → B_6 h0 k = B h0 k := fun k hk => by rw [eB_6, uA_s]; exact upd_n hk
  have fB_6 : ∀ c, G c ≠ 5 → B_6 c = B c := fun c hc => by rw [eB_6]; exact uA_n (fun e => hc (by rw [e]; exact hG))
  have hT : TX E G B_6 R H := by rw [eB_6]; exact hT.w (by rw [hG]; exact hn) ho
  have hWB_6 : TW G B_6 R := by rw [eB_6]; exact hW_0.w (by rw [hG]; exact ⟨h9_5.1, h9_5.2.1, h9_5.2.2.1, (show 0 ≤ (x_4 : Int32).toInt ∧ (x_4 : Int32).toInt ≤ 15 from by omega), h9_5.2.2.2.2⟩)
  have hW := hWB_6
  refine lv_aload_n hx hb dX1_dropFirst_13 rfl (lv_at hl 0 rfl) ?_
  refine lv_dup hx hb dX1_dropFirst_14 rfl ?_
  have ha_7 := tx_5 hT hG
  have l_8 : B_6 h0 4 = (B h0 4) := (nB_6 4 (by decide))
  have hb_9 := (tw_5 hW_0 hG).2.2.2.2
  refine va_get (D := DG E) (ci := 1) (v := .int (B_6 h0 4)) (C := RX1) (T := TX1) (N := 5) hx hb hts iw_X1 hown hK.1 (va_one ha_7) 0 rfl rfl 4 (by decide) (hts _ fl_X1_36) (fun _ h9 => h9) rfl dX1_dropFirst_15 ?_
  refine W.eq (g2 := F0 m 18 ls [.int (B h0 4), .ref h0]) (by rw [l_8]) ?_
  refine lv_iconst (v := 1) hx hb dX1_dropFirst_18 (by decide) ?_
  refine lv_isub hx hb dX1_dropFirst_19 ?_
  refine lv_topi (fun x_10 ex_10 => ?_)
  have fx_10 : x_10.toInt = (B h0 4).toInt - 1 := by have h9 := s_sub (x := (B h0 4)) (y := 1) (by rw [i_1]; omega) (by rw [i_1]; omega); rw [i_1] at h9; rw [ex_10]; exact h9
  have h9_11 := tw_5 hWB_6 hG
  refine rr_put (D := DG E) (ci := 1) (v := .int x_10) (ty := .int) (C := RX1) (T := TX1) (N := 5) hx hb hts iw_X1 tyX1 tyX1_ok nmX1 hown hK.1 ha_7 hS (by show G h0 ∈ ([5] : List Nat); rw [hG]; decide) rfl 4 (by decide) (hts _ fl_X1_36) (fun _ h9 => h9) rfl (by decide +kernel) rfl rfl (Nat.le_of_ble_eq_true rfl) dX1_dropFirst_20 (fun H locs hn ho hz hS => ?_)
  obtain ⟨B_12, eB_12⟩ : ∃ z : AA, z = uA B_6 h0 (upd (B_6 h0) 4 x_10) := ⟨_, rfl⟩
  have sB_12 : B_12 h0 4 = x_10 := by rw [eB_12, uA_s]; exact upd_s
  have nB_12 : ∀ k, k ≠ 4 → B_12 h0 k = B_6 h0 k := fun k hk => by rw [eB_12, uA_s]; exact upd_n hk
  have fB_12 : ∀ c, G c ≠ 5 → B_12 c = B_6 c := fun c hc => by rw [eB_12]; exact uA_n (fun e => hc (by rw [e]; exact hG))
  have hT : TX E G B_12 R H := by rw [eB_12]; exact hT.w (by rw [hG]; exact hn) ho
  have hWB_12 : TW G B_12 R := by rw [eB_12]; exact hWB_6.w (by rw [hG]; exact ⟨h9_11.1, h9_11.2.1, h9_11.2.2.1, h9_11.2.2.2.1, (show 0 ≤ (x_10 : Int32).toInt ∧ (x_10 : Int32).toInt ≤ 16 from by omega)⟩)
  have hW := hWB_12
  exact W.vret hx hb hr (fun t ht hW9 => ⟨⟨B_12, rfl, ⟨hW, (Fr.w (Fr.w Fr.rf hG (by decide) eB_6) hG (by decide) eB_12), ⟨x_3, ex_3, fx_3, x_4, ex_4, fx_4, B_6, eB_6, x_10, ex_10, fx_10, B_12, eB_12, rfl⟩⟩, (by show TX E G B_12 R t.heap; rw [ht]; exact hT)⟩, hS.F ht⟩) hS.2.2 dX1_dropFirst_23
theorem dX2_become_0 : decode cX2_become 0 = .ok (.aload_n 0, 1) := by decide +kernel
theorem dX2_become_1 : decode cX2_become 1 = .ok (.iload_n 1, 1) := by decide +kernel
theorem dX2_become_2 : decode cX2_become 2 = .ok (.putfield 15, 3) := by decide +kernel
theorem dX2_become_5 : decode cX2_become 5 = .ok (.aload_n 0, 1) := by decide +kernel
theorem dX2_become_6 : decode cX2_become 6 = .ok (.iload_n 2, 1) := by decide +kernel
theorem dX2_become_7 : decode cX2_become 7 = .ok (.putfield 19, 3) := by decide +kernel
theorem dX2_become_10 : decode cX2_become 10 = .ok (.aload_n 0, 1) := by decide +kernel
theorem dX2_become_11 : decode cX2_become 11 = .ok (.iload_n 3, 1) := by decide +kernel
theorem dX2_become_12 : decode cX2_become 12 = .ok (.putfield 22, 3) := by decide +kernel
theorem dX2_become_15 : decode cX2_become 15 = .ok (.aload_n 0, 1) := by decide +kernel
theorem dX2_become_16 : decode cX2_become 16 = .ok (.iconst 0, 1) := by decide +kernel
theorem dX2_become_17 : decode cX2_become 17 = .ok (.putfield 25, 3) := by decide +kernel
theorem dX2_become_20 : decode cX2_become 20 = .ok (.aload_n 0, 1) := by decide +kernel
theorem dX2_become_21 : decode cX2_become 21 = .ok (.iconst (-1), 1) := by decide +kernel
theorem dX2_become_22 : decode cX2_become 22 = .ok (.putfield 28, 3) := by decide +kernel
theorem dX2_become_25 : decode cX2_become 25 = .ok (.aload_n 0, 1) := by decide +kernel
theorem dX2_become_26 : decode cX2_become 26 = .ok (.iconst (-1), 1) := by decide +kernel
theorem dX2_become_27 : decode cX2_become 27 = .ok (.putfield 31, 3) := by decide +kernel
theorem dX2_become_30 : decode cX2_become 30 = .ok (.aload_n 0, 1) := by decide +kernel
theorem dX2_become_31 : decode cX2_become 31 = .ok (.iconst 0, 1) := by decide +kernel
theorem dX2_become_32 : decode cX2_become 32 = .ok (.putfield 34, 3) := by decide +kernel
theorem dX2_become_35 : decode cX2_become 35 = .ok (.return_, 1) := by decide +kernel
set_option maxHeartbeats 8000000 in
set_option maxRecDepth 100000 in
theorem x_X2_become (l : Launch) (E : EE) (z0 : Nat) (G : Nat → Nat) (hGz : ∀ q, G q ≠ 0 → z0 ≤ q) (B : AA) (R : RR) (hW : TW G B R) (h0 : Nat) (p0 : Int32) (p1 : Int32) (p2 : Int32) (hG : G h0 = 31) (hy0 : 0 ≤ p0.toInt ∧ p0.toInt ≤ 3) : Met l yX2_become [Cond.code yX2_become cX2_become 4 none] ({ frames := 0, cells := 0, slots := 0, locals := 0 } : Room) (va_Pc [.ref h0, .int p0, .int p1, .int p2] (fun U => TX E G B R U.heap ∧ KS E z0 U)) (va_Qv (fun (u : AA) => (TW G u R) ∧ (Fr G ([31] : List Nat) B u) ∧ (C_X2_become G B R h0 p0 p1 p2 u)) (fun u t => TX E G u R t.heap) (fun q : Nat => G q ∈ ([31] : List Nat))) 0 0 (fun q : Nat => G q ∈ ([31] : List Nat)) := by
  refine Met.ofW (cc := cX2_become) (maxL := 4) (ret := none) (by decide) rfl ?_
  intro p e s m args below meth c s₁ B9 hml hv
  obtain ⟨rfl, hT, hK⟩ := hv
  have hx := B9.exec
  have hb := B9.bytes
  have hr := B9.returns
  have hts : ∀ w ∈ TS, w.before ([.ref h0, .int p0, .int p1, .int p2] : List Value).toArray s = true := fun w hw => hK.2.1 w hw _
  have hown : s.vm.findClass RX2 = some m.cls := findClass_of_methodNamed B9.named
  have hlocks := B9.notSynchronized
  have hS : va_S (fun q : Nat => G q ∈ ([31] : List Nat)) s.heap s.heap [] := va_S.rf
  have hAz : ∀ q, (fun q : Nat => G q ∈ ([31] : List Nat)) q → z0 ≤ q := zL hGz (by decide)
  have hW_0 := hW
  have hl := lv_entry ([.ref h0, .int p0, .int p1, .int p2]) (n := 4) (Nat.le_of_ble_eq_true rfl)
  rw [lg_entry_eq]
  generalize (lg_sl ([.ref h0, .int p0, .int p1, .int p2]) ++ List.replicate (4 - (lg_sl ([.ref h0, .int p0, .int p1, .int p2])).length) Slot.unset).toArray = ls at hl ⊢
  have hl : lv_has ls 4 [(0, .ref h0), (1, .int p0), (2, .int p1), (3, .int p2)] := hl
  refine lv_aload_n hx hb dX2_become_0 rfl (lv_at hl 0 rfl) ?_
  refine lv_iload_n hx hb dX2_become_1 rfl (lv_at hl 1 rfl) ?_
  have ha_1 := tx_31 hT hG
  have h9_2 := tw_31 hW_0 hG
  refine rr_put (D := DG E) (ci := 2) (v := .int p0) (ty := .int) (C := RX2) (T := TX2) (N := 8) hx hb hts iw_X2 tyX2 tyX2_ok nmX2 hown hK.1 ha_1 hS (by show G h0 ∈ ([31] : List Nat); rw [hG]; decide) rfl 0 (by decide) (hts _ fl_X2_15) (fun _ h9 => h9) rfl (by decide +kernel) rfl rfl (Nat.le_of_ble_eq_true rfl) dX2_become_2 (fun H locs hn ho hz hS => ?_)
  obtain ⟨B_3, eB_3⟩ : ∃ z : AA, z = uA B h0 (upd (B h0) 0 p0) := ⟨_, rfl⟩
  have sB_3 : B_3 h0 0 = p0 := by rw [eB_3, uA_s]; exact upd_s
  have nB_3 : ∀ k, k ≠ 0 → B_3 h0 k = B h0 k := fun k hk => by rw [eB_3, uA_s]; exact upd_n hk
  have fB_3 : ∀ c, G c ≠ 31 → B_3 c = B c := fun c hc => by rw [eB_3]; exact uA_n (fun e => hc (by rw [e]; exact hG))
  have hT : TX E G B_3 R H := by rw [eB_3]; exact hT.w (by rw [hG]; exact hn) ho
  have hWB_3 : TW G B_3 R := by rw [eB_3]; exact hW_0.w (by rw [hG]; exact ⟨(show 0 ≤ (p0 : Int32).toInt ∧ (p0 : Int32).toInt ≤ 3 from by omega), h9_2.2.1, h9_2.2.2⟩)
  have hW := hWB_3
  refine lv_aload_n hx hb dX2_become_5 rfl (lv_at hl 0 rfl) ?_
  refine lv_iload_n hx hb dX2_become_6 rfl (lv_at hl 2 rfl) ?_
  have ha_4 := tx_31 hT hG
  refine rr_put (D := DG E) (ci := 2) (v := .int p1) (ty := .int) (C := RX2) (T := TX2) (N := 8) hx hb hts iw_X2 tyX2 tyX2_ok nmX2 hown hK.1 ha_4 hS (by show G h0 ∈ ([31] : List Nat); rw [hG]; decide) rfl 1 (by decide) (hts _ fl_X2_19) (fun _ h9 => h9) rfl (by decide +kernel) rfl rfl (Nat.le_of_ble_eq_true rfl) dX2_become_7 (fun H locs hn ho hz hS => ?_)
  obtain ⟨B_5, eB_5⟩ : ∃ z : AA, z = uA B_3 h0 (upd (B_3 h0) 1 p1) := ⟨_, rfl⟩
  have sB_5 : B_5 h0 1 = p1 := by rw [eB_5, uA_s]; exact upd_s
  have nB_5 : ∀ k, k ≠ 1 → B_5 h0 k = B_3 h0 k := fun k hk => by rw [eB_5, uA_s]; exact upd_n hk
  have fB_5 : ∀ c, G c ≠ 31 → B_5 c = B_3 c := fun c hc => by rw [eB_5]; exact uA_n (fun e => hc (by rw [e]; exact hG))
  have hT : TX E G B_5 R H := by rw [eB_5]; exact hT.w (by rw [hG]; exact hn) ho
  have hWB_5 : TW G B_5 R := by rw [eB_5]; exact hWB_3.w (by rw [hG]; exact tw_31 hWB_3 hG)
  have hW := hWB_5
  refine lv_aload_n hx hb dX2_become_10 rfl (lv_at hl 0 rfl) ?_
  refine lv_iload_n hx hb dX2_become_11 rfl (lv_at hl 3 rfl) ?_
  have ha_6 := tx_31 hT hG
  refine rr_put (D := DG E) (ci := 2) (v := .int p2) (ty := .int) (C := RX2) (T := TX2) (N := 8) hx hb hts iw_X2 tyX2 tyX2_ok nmX2 hown hK.1 ha_6 hS (by show G h0 ∈ ([31] : List Nat); rw [hG]; decide) rfl 2 (by decide) (hts _ fl_X2_22) (fun _ h9 => h9) rfl (by decide +kernel) rfl rfl (Nat.le_of_ble_eq_true rfl) dX2_become_12 (fun H locs hn ho hz hS => ?_)
  obtain ⟨B_7, eB_7⟩ : ∃ z : AA, z = uA B_5 h0 (upd (B_5 h0) 2 p2) := ⟨_, rfl⟩
  have sB_7 : B_7 h0 2 = p2 := by rw [eB_7, uA_s]; exact upd_s
  have nB_7 : ∀ k, k ≠ 2 → B_7 h0 k = B_5 h0 k := fun k hk => by rw [eB_7, uA_s]; exact upd_n hk
  have fB_7 : ∀ c, G c ≠ 31 → B_7 c = B_5 c := fun c hc => by rw [eB_7]; exact uA_n (fun e => hc (by rw [e]; exact hG))
  have hT : TX E G B_7 R H := by rw [eB_7]; exact hT.w (by rw [hG]; exact hn) ho
  have hWB_7 : TW G B_7 R := by rw [eB_7]; exact hWB_5.w (by rw [hG]; exact tw_31 hWB_5 hG)
  have hW := hWB_7
  refine lv_aload_n hx hb dX2_become_15 rfl (lv_at hl 0 rfl) ?_
  refine lv_iconst (v := 0) hx hb dX2_become_16 (by decide) ?_
  have ha_8 := tx_31 hT hG
  have h9_9 := tw_31 hWB_7 hG
  refine rr_put (D := DG E) (ci := 2) (v := .int 0) (ty := .int) (C := RX2) (T := TX2) (N := 8) hx hb hts iw_X2 tyX2 tyX2_ok nmX2 hown hK.1 ha_8 hS (by show G h0 ∈ ([31] : List Nat); rw [hG]; decide) rfl 3 (by decide) (hts _ fl_X2_25) (fun _ h9 => h9) rfl (by decide +kernel) rfl rfl (Nat.le_of_ble_eq_true rfl) dX2_become_17 (fun H locs hn ho hz hS => ?_)
  obtain ⟨B_10, eB_10⟩ : ∃ z : AA, z = uA B_7 h0 (upd (B_7 h0) 3 0) := ⟨_, rfl⟩
  have sB_10 : B_10 h0 3 = 0 := by rw [eB_10, uA_s]; exact upd_s
  have nB_10 : ∀ k, k ≠ 3 → B_10 h0 k = B_7 h0 k := fun k hk => by rw [eB_10, uA_s]; exact upd_n hk
  have fB_10 : ∀ c, G c ≠ 31 → B_10 c = B_7 c := fun c hc => by rw [eB_10]; exact uA_n (fun e => hc (by rw [e]; exact hG))
  have hT : TX E G B_10 R H := by rw [eB_10]; exact hT.w (by rw [hG]; exact hn) ho
  have hWB_10 : TW G B_10 R := by rw [eB_10]; exact hWB_7.w (by rw [hG]; exact ⟨h9_9.1, (show (0 : Int32).toInt ≤ 12 from by decide), h9_9.2.2⟩)
  have hW := hWB_10
  refine lv_aload_n hx hb dX2_become_20 rfl (lv_at hl 0 rfl) ?_
  refine lv_iconst (v := (-1)) hx hb dX2_become_21 (by decide) ?_
  have ha_11 := tx_31 hT hG
  refine rr_put (D := DG E) (ci := 2) (v := .int (-1)) (ty := .int) (C := RX2) (T := TX2) (N := 8) hx hb hts iw_X2 tyX2 tyX2_ok nmX2 hown hK.1 ha_11 hS (by show G h0 ∈ ([31] : List Nat); rw [hG]; decide) rfl 4 (by decide) (hts _ fl_X2_28) (fun _ h9 => h9) rfl (by decide +kernel) rfl rfl (Nat.le_of_ble_eq_true rfl) dX2_become_22 (fun H locs hn ho hz hS => ?_)
  obtain ⟨B_12, eB_12⟩ : ∃ z : AA, z = uA B_10 h0 (upd (B_10 h0) 4 (-1)) := ⟨_, rfl⟩
  have sB_12 : B_12 h0 4 = (-1) := by rw [eB_12, uA_s]; exact upd_s
  have nB_12 : ∀ k, k ≠ 4 → B_12 h0 k = B_10 h0 k := fun k hk => by rw [eB_12, uA_s]; exact upd_n hk
  have fB_12 : ∀ c, G c ≠ 31 → B_12 c = B_10 c := fun c hc => by rw [eB_12]; exact uA_n (fun e => hc (by rw [e]; exact hG))
  have hT : TX E G B_12 R H := by rw [eB_12]; exact hT.w (by rw [hG]; exact hn) ho
  have hWB_12 : TW G B_12 R := by rw [eB_12]; exact hWB_10.w (by rw [hG]; exact tw_31 hWB_10 hG)
  have hW := hWB_12
  refine lv_aload_n hx hb dX2_become_25 rfl (lv_at hl 0 rfl) ?_
  refine lv_iconst (v := (-1)) hx hb dX2_become_26 (by decide) ?_
  have ha_13 := tx_31 hT hG
  refine rr_put (D := DG E) (ci := 2) (v := .int (-1)) (ty := .int) (C := RX2) (T := TX2) (N := 8) hx hb hts iw_X2 tyX2 tyX2_ok nmX2 hown hK.1 ha_13 hS (by show G h0 ∈ ([31] : List Nat); rw [hG]; decide) rfl 5 (by decide) (hts _ fl_X2_31) (fun _ h9 => h9) rfl (by decide +kernel) rfl rfl (Nat.le_of_ble_eq_true rfl) dX2_become_27 (fun H locs hn ho hz hS => ?_)
  obtain ⟨B_14, eB_14⟩ : ∃ z : AA, z = uA B_12 h0 (upd (B_12 h0) 5 (-1)) := ⟨_, rfl⟩
  have sB_14 : B_14 h0 5 = (-1) := by rw [eB_14, uA_s]; exact upd_s
  have nB_14 : ∀ k, k ≠ 5 → B_14 h0 k = B_12 h0 k := fun k hk => by rw [eB_14, uA_s]; exact upd_n hk
  have fB_14 : ∀ c, G c ≠ 31 → B_14 c = B_12 c := fun c hc => by rw [eB_14]; exact uA_n (fun e => hc (by rw [e]; exact hG))
  have hT : TX E G B_14 R H := by rw [eB_14]; exact hT.w (by rw [hG]; exact hn) ho
  have hWB_14 : TW G B_14 R := by rw [eB_14]; exact hWB_12.w (by rw [hG]; exact tw_31 hWB_12 hG)
  have hW := hWB_14
  refine lv_aload_n hx hb dX2_become_30 rfl (lv_at hl 0 rfl) ?_
  refine lv_iconst (v := 0) hx hb dX2_become_31 (by decide) ?_
  have ha_15 := tx_31 hT hG
  refine rr_put (D := DG E) (ci := 2) (v := .int 0) (ty := .int) (C := RX2) (T := TX2) (N := 8) hx hb hts iw_X2 tyX2 tyX2_ok nmX2 hown hK.1 ha_15 hS (by show G h0 ∈ ([31] : List Nat); rw [hG]; decide) rfl 6 (by decide) (hts _ fl_X2_34) (fun _ h9 => h9) rfl (by decide +kernel) rfl rfl (Nat.le_of_ble_eq_true rfl) dX2_become_32 (fun H locs hn ho hz hS => ?_)
  obtain ⟨B_16, eB_16⟩ : ∃ z : AA, z = uA B_14 h0 (upd (B_14 h0) 6 0) := ⟨_, rfl⟩
  have sB_16 : B_16 h0 6 = 0 := by rw [eB_16, uA_s]; exact upd_s
  have nB_16 : ∀ k, k ≠ 6 → B_16 h0 k = B_14 h0 k := fun k hk => by rw [eB_16, uA_s]; exact upd_n hk
  have fB_16 : ∀ c, G c ≠ 31 → B_16 c = B_14 c := fun c hc => by rw [eB_16]; exact uA_n (fun e => hc (by rw [e]; exact hG))
  have hT : TX E G B_16 R H := by rw [eB_16]; exact hT.w (by rw [hG]; exact hn) ho
  have hWB_16 : TW G B_16 R := by rw [eB_16]; exact hWB_14.w (by rw [hG]; exact tw_31 hWB_14 hG)
  have hW := hWB_16
  exact W.vret hx hb hr (fun t ht hW9 => ⟨⟨B_16, rfl, ⟨hW, (Fr.w (Fr.w (Fr.w (Fr.w (Fr.w (Fr.w (Fr.w Fr.rf hG (by decide) eB_3) hG (by decide) eB_5) hG (by decide) eB_7) hG (by decide) eB_10) hG (by decide) eB_12) hG (by decide) eB_14) hG (by decide) eB_16), ⟨B_3, eB_3, B_5, eB_5, B_7, eB_7, B_10, eB_10, B_12, eB_12, B_14, eB_14, B_16, eB_16, rfl⟩⟩, (by show TX E G B_16 R t.heap; rw [ht]; exact hT)⟩, hS.F ht⟩) hS.2.2 dX2_become_35
theorem dX2_becomeLike_0 : decode cX2_becomeLike 0 = .ok (.aload_n 0, 1) := by decide +kernel
theorem dX2_becomeLike_1 : decode cX2_becomeLike 1 = .ok (.aload_n 1, 1) := by decide +kernel
theorem dX2_becomeLike_2 : decode cX2_becomeLike 2 = .ok (.getfield 15, 3) := by decide +kernel
theorem dX2_becomeLike_5 : decode cX2_becomeLike 5 = .ok (.aload_n 1, 1) := by decide +kernel
theorem dX2_becomeLike_6 : decode cX2_becomeLike 6 = .ok (.getfield 19, 3) := by decide +kernel
theorem dX2_becomeLike_9 : decode cX2_becomeLike 9 = .ok (.aload_n 1, 1) := by decide +kernel
theorem dX2_becomeLike_10 : decode cX2_becomeLike 10 = .ok (.getfield 22, 3) := by decide +kernel
theorem dX2_becomeLike_13 : decode cX2_becomeLike 13 = .ok (.invokevirtual 37, 3) := by decide +kernel
theorem dX2_becomeLike_16 : decode cX2_becomeLike 16 = .ok (.aload_n 0, 1) := by decide +kernel
theorem dX2_becomeLike_17 : decode cX2_becomeLike 17 = .ok (.aload_n 1, 1) := by decide +kernel
theorem dX2_becomeLike_18 : decode cX2_becomeLike 18 = .ok (.getfield 25, 3) := by decide +kernel
theorem dX2_becomeLike_21 : decode cX2_becomeLike 21 = .ok (.putfield 25, 3) := by decide +kernel
theorem dX2_becomeLike_24 : decode cX2_becomeLike 24 = .ok (.aload_n 0, 1) := by decide +kernel
theorem dX2_becomeLike_25 : decode cX2_becomeLike 25 = .ok (.aload_n 1, 1) := by decide +kernel
theorem dX2_becomeLike_26 : decode cX2_becomeLike 26 = .ok (.getfield 28, 3) := by decide +kernel
theorem dX2_becomeLike_29 : decode cX2_becomeLike 29 = .ok (.putfield 28, 3) := by decide +kernel
theorem dX2_becomeLike_32 : decode cX2_becomeLike 32 = .ok (.aload_n 0, 1) := by decide +kernel
theorem dX2_becomeLike_33 : decode cX2_becomeLike 33 = .ok (.aload_n 1, 1) := by decide +kernel
theorem dX2_becomeLike_34 : decode cX2_becomeLike 34 = .ok (.getfield 31, 3) := by decide +kernel
theorem dX2_becomeLike_37 : decode cX2_becomeLike 37 = .ok (.putfield 31, 3) := by decide +kernel
theorem dX2_becomeLike_40 : decode cX2_becomeLike 40 = .ok (.aload_n 0, 1) := by decide +kernel
theorem dX2_becomeLike_41 : decode cX2_becomeLike 41 = .ok (.aload_n 1, 1) := by decide +kernel
theorem dX2_becomeLike_42 : decode cX2_becomeLike 42 = .ok (.getfield 34, 3) := by decide +kernel
theorem dX2_becomeLike_45 : decode cX2_becomeLike 45 = .ok (.putfield 34, 3) := by decide +kernel
theorem dX2_becomeLike_48 : decode cX2_becomeLike 48 = .ok (.iconst 0, 1) := by decide +kernel
theorem dX2_becomeLike_49 : decode cX2_becomeLike 49 = .ok (.istore_n 2, 1) := by decide +kernel
theorem dX2_becomeLike_50 : decode cX2_becomeLike 50 = .ok (.iload_n 2, 1) := by decide +kernel
theorem dX2_becomeLike_51 : decode cX2_becomeLike 51 = .ok (.iconst 4, 1) := by decide +kernel
theorem dX2_becomeLike_52 : decode cX2_becomeLike 52 = .ok (.if_icmp .ge 21, 3) := by decide +kernel
theorem dX2_becomeLike_55 : decode cX2_becomeLike 55 = .ok (.aload_n 0, 1) := by decide +kernel
theorem dX2_becomeLike_56 : decode cX2_becomeLike 56 = .ok (.getfield 9, 3) := by decide +kernel
theorem dX2_becomeLike_59 : decode cX2_becomeLike 59 = .ok (.iload_n 2, 1) := by decide +kernel
theorem dX2_becomeLike_60 : decode cX2_becomeLike 60 = .ok (.aload_n 1, 1) := by decide +kernel
theorem dX2_becomeLike_61 : decode cX2_becomeLike 61 = .ok (.getfield 9, 3) := by decide +kernel
theorem dX2_becomeLike_64 : decode cX2_becomeLike 64 = .ok (.iload_n 2, 1) := by decide +kernel
theorem dX2_becomeLike_65 : decode cX2_becomeLike 65 = .ok (.iaload, 1) := by decide +kernel
theorem dX2_becomeLike_66 : decode cX2_becomeLike 66 = .ok (.iastore, 1) := by decide +kernel
theorem dX2_becomeLike_67 : decode cX2_becomeLike 67 = .ok (.iinc 2 1, 3) := by decide +kernel
theorem dX2_becomeLike_70 : decode cX2_becomeLike 70 = .ok (.goto (-20), 3) := by decide +kernel
theorem dX2_becomeLike_73 : decode cX2_becomeLike 73 = .ok (.return_, 1) := by decide +kernel
set_option maxHeartbeats 8000000 in
set_option maxRecDepth 100000 in
theorem x_X2_becomeLike (l : Launch) (E : EE) (z0 : Nat) (G : Nat → Nat) (hGz : ∀ q, G q ≠ 0 → z0 ≤ q) (B : AA) (R : RR) (hW : TW G B R) (h0 : Nat) (p0 : Nat) (hG : G h0 = 31) (hG0 : G p0 = 31) : Met l yX2_becomeLike [Cond.code yX2_becomeLike cX2_becomeLike 3 none] ({ frames := 1, cells := 0, slots := 0, locals := 23 } : Room) (va_Pc [.ref h0, .ref p0] (fun U => TX E G B R U.heap ∧ KS E z0 U)) (va_Qv (fun (u : AA) => (TW G u R) ∧ (Fr G ([31, 32] : List Nat) B u) ∧ (C_X2_becomeLike G B R h0 p0 u)) (fun u t => TX E G u R t.heap) (fun q : Nat => G q ∈ ([31, 32] : List Nat))) 0 0 (fun q : Nat => G q ∈ ([31, 32] : List Nat)) := by
  refine Met.ofW (cc := cX2_becomeLike) (maxL := 3) (ret := none) (by decide) rfl ?_
  intro p e s m args below meth c s₁ B9 hml hv
  obtain ⟨rfl, hT, hK⟩ := hv
  have hx := B9.exec
  have hb := B9.bytes
  have hr := B9.returns
  have hts : ∀ w ∈ TS, w.before ([.ref h0, .ref p0] : List Value).toArray s = true := fun w hw => hK.2.1 w hw _
  have hown : s.vm.findClass RX2 = some m.cls := findClass_of_methodNamed B9.named
  have hlocks := B9.notSynchronized
  have hS : va_S (fun q : Nat => G q ∈ ([31, 32] : List Nat)) s.heap s.heap [] := va_S.rf
  have hAz : ∀ q, (fun q : Nat => G q ∈ ([31, 32] : List Nat)) q → z0 ≤ q := zL hGz (by decide)
  have hW_0 := hW
  have hl := lv_entry ([.ref h0, .ref p0]) (n := 3) (Nat.le_of_ble_eq_true rfl)
  rw [lg_entry_eq]
  generalize (lg_sl ([.ref h0, .ref p0]) ++ List.replicate (3 - (lg_sl ([.ref h0, .ref p0])).length) Slot.unset).toArray = ls at hl ⊢
  have hl : lv_has ls 3 [(0, .ref h0), (1, .ref p0)] := hl
  refine lv_aload_n hx hb dX2_becomeLike_0 rfl (lv_at hl 0 rfl) ?_
  refine lv_aload_n hx hb dX2_becomeLike_1 rfl (lv_at hl 1 rfl) ?_
  have ha_1 := tx_31 hT hG0
  have hb_2 := (tw_31 hW_0 hG0).1
  refine va_get (D := DG E) (ci := 2) (v := .int (B p0 0)) (C := RX2) (T := TX2) (N := 8) hx hb hts iw_X2 hown hK.1 (va_one ha_1) 0 rfl rfl 0 (by decide) (hts _ fl_X2_15) (fun _ h9 => h9) rfl dX2_becomeLike_2 ?_
  refine lv_aload_n hx hb dX2_becomeLike_5 rfl (lv_at hl 1 rfl) ?_
  refine va_get (D := DG E) (ci := 2) (v := .int (B p0 1)) (C := RX2) (T := TX2) (N := 8) hx hb hts iw_X2 hown hK.1 (va_one ha_1) 0 rfl rfl 1 (by decide) (hts _ fl_X2_19) (fun _ h9 => h9) rfl dX2_becomeLike_6 ?_
  refine lv_aload_n hx hb dX2_becomeLike_9 rfl (lv_at hl 1 rfl) ?_
  refine va_get (D := DG E) (ci := 2) (v := .int (B p0 2)) (C := RX2) (T := TX2) (N := 8) hx hb hts iw_X2 hown hK.1 (va_one ha_1) 0 rfl rfl 2 (by decide) (hts _ fl_X2_22) (fun _ h9 => h9) rfl dX2_becomeLike_10 ?_
  have ha_3 := tx_31 hT hG
  refine va_callv (rnV (fun H => TX E G B R H) (As := [.int (B p0 0), .int (B p0 1), .int (B p0 2)]) (rest := []) ⟨hx, hb, hml, hown, hts⟩ (x_X2_become l E z0 G hGz B R hW h0 (B p0 0) (B p0 1) (B p0 2) hG (show 0 ≤ (B p0 0).toInt ∧ (B p0 0).toInt ≤ 3 from by first | decide | omega)) (cwV 3 hts (gdV ml_X2_37 im_X2_become se_X2_X2_become in_X2 co_X2_become rfl) rfl rfl rfl (by decide +kernel) ⟨Nat.le_of_ble_eq_true rfl, Nat.le_of_ble_eq_true rfl⟩) hT (fun U hU hW => hK.go hW hS hAz hU) (va_recv hK.1 (va_one ha_3) (ci := 2) (q0 := 0) rfl rfl) rfl rfl hl.1 rfl (lv_room (Nat.le_of_ble_eq_true rfl)) dX2_becomeLike_13 ⟨Nat.le_of_ble_eq_true rfl, Nat.le_of_ble_eq_true rfl⟩) hS (fun q _ h => mL (L' := [31]) (L := [31, 32]) (by decide) h) (fun q h => mL (L' := [31]) (L := [31, 32]) (by decide) h) (fun U_5 t H locs ht hvm hwr_4 hB hz hk hS => ?_)
  have hT : TX E G U_5 R H := by rw [ht] at hB; exact hB
  have hWr_4 : TW G U_5 R := hwr_4.1
  have hW := hWr_4
  have hFr_4 : Fr G [31] B U_5 := hwr_4.2.1
  have hCr_4 : C_X2_become G B R h0 (B p0 0) (B p0 1) (B p0 2) U_5 := hwr_4.2.2
  refine lv_aload_n hx hb dX2_becomeLike_16 rfl (lv_at hl 0 rfl) ?_
  refine lv_aload_n hx hb dX2_becomeLike_17 rfl (lv_at hl 1 rfl) ?_
  have ha_6 := tx_31 hT hG0
  have hb_7 := (tw_31 hWr_4 hG0).2.1
  refine va_get (D := DG E) (ci := 2) (v := .int (U_5 p0 3)) (C := RX2) (T := TX2) (N := 8) hx hb hts iw_X2 hown hK.1 (va_one ha_6) 0 rfl rfl 3 (by decide) (hts _ fl_X2_25) (fun _ h9 => h9) rfl dX2_becomeLike_18 ?_
  have ha_8 := tx_31 hT hG
  have h9_9 := tw_31 hWr_4 hG
  refine rr_put (D := DG E) (ci := 2) (v := .int (U_5 p0 3)) (ty := .int) (C := RX2) (T := TX2) (N := 8) hx hb hts iw_X2 tyX2 tyX2_ok nmX2 hown hK.1 ha_8 hS (by show G h0 ∈ ([31, 32] : List Nat); rw [hG]; decide) rfl 3 (by decide) (hts _ fl_X2_25) (fun _ h9 => h9) rfl (by decide +kernel) rfl rfl (Nat.le_of_ble_eq_true rfl) dX2_becomeLike_21 (fun H locs hn ho hz hS => ?_)
  obtain ⟨B_10, eB_10⟩ : ∃ z : AA, z = uA U_5 h0 (upd (U_5 h0) 3 (U_5 p0 3)) := ⟨_, rfl⟩
  have sB_10 : B_10 h0 3 = (U_5 p0 3) := by rw [eB_10, uA_s]; exact upd_s
  have nB_10 : ∀ k, k ≠ 3 → B_10 h0 k = U_5 h0 k := fun k hk => by rw [eB_10, uA_s]; exact upd_n hk
  have fB_10 : ∀ c, G c ≠ 31 → B_10 c = U_5 c := fun c hc => by rw [eB_10]; exact uA_n (fun e => hc (by rw [e]; exact hG))
  have hT : TX E G B_10 R H := by rw [eB_10]; exact hT.w (by rw [hG]; exact hn) ho
  have hWB_10 : TW G B_10 R := by rw [eB_10]; exact hWr_4.w (by rw [hG]; exact ⟨h9_9.1, (show ((U_5 p0 3) : Int32).toInt ≤ 12 from by omega), h9_9.2.2⟩)
  have hW := hWB_10
  refine lv_aload_n hx hb dX2_becomeLike_24 rfl (lv_at hl 0 rfl) ?_
  refine lv_aload_n hx hb dX2_becomeLike_25 rfl (lv_at hl 1 rfl) ?_
  have ha_11 := tx_31 hT hG0
  refine va_get (D := DG E) (ci := 2) (v := .int (B_10 p0 4)) (C := RX2) (T := TX2) (N := 8) hx hb hts iw_X2 hown hK.1 (va_one ha_11) 0 rfl rfl 4 (by decide) (hts _ fl_X2_28) (fun _ h9 => h9) rfl dX2_becomeLike_26 ?_
  have ha_12 := tx_31 hT hG
  refine rr_put (D := DG E) (ci := 2) (v := .int (B_10 p0 4)) (ty := .int) (C := RX2) (T := TX2) (N := 8) hx hb hts iw_X2 tyX2 tyX2_ok nmX2 hown hK.1 ha_12 hS (by show G h0 ∈ ([31, 32] : List Nat); rw [hG]; decide) rfl 4 (by decide) (hts _ fl_X2_28) (fun _ h9 => h9) rfl (by decide +kernel) rfl rfl (Nat.le_of_ble_eq_true rfl) dX2_becomeLike_29 (fun H locs hn ho hz hS => ?_)
  obtain ⟨B_13, eB_13⟩ : ∃ z : AA, z = uA B_10 h0 (upd (B_10 h0) 4 (B_10 p0 4)) := ⟨_, rfl⟩
  have sB_13 : B_13 h0 4 = (B_10 p0 4) := by rw [eB_13, uA_s]; exact upd_s
  have nB_13 : ∀ k, k ≠ 4 → B_13 h0 k = B_10 h0 k := fun k hk => by rw [eB_13, uA_s]; exact upd_n hk
  have fB_13 : ∀ c, G c ≠ 31 → B_13 c = B_10 c := fun c hc => by rw [eB_13]; exact uA_n (fun e => hc (by rw [e]; exact hG))
  have hT : TX E G B_13 R H := by rw [eB_13]; exact hT.w (by rw [hG]; exact hn) ho
  have hWB_13 : TW G B_13 R := by rw [eB_13]; exact hWB_10.w (by rw [hG]; exact tw_31 hWB_10 hG)
  have hW := hWB_13
  refine lv_aload_n hx hb dX2_becomeLike_32 rfl (lv_at hl 0 rfl) ?_
  refine lv_aload_n hx hb dX2_becomeLike_33 rfl (lv_at hl 1 rfl) ?_
  have ha_14 := tx_31 hT hG0
  refine va_get (D := DG E) (ci := 2) (v := .int (B_13 p0 5)) (C := RX2) (T := TX2) (N := 8) hx hb hts iw_X2 hown hK.1 (va_one ha_14) 0 rfl rfl 5 (by decide) (hts _ fl_X2_31) (fun _ h9 => h9) rfl dX2_becomeLike_34 ?_
  have ha_15 := tx_31 hT hG
  refine rr_put (D := DG E) (ci := 2) (v := .int (B_13 p0 5)) (ty := .int) (C := RX2) (T := TX2) (N := 8) hx hb hts iw_X2 tyX2 tyX2_ok nmX2 hown hK.1 ha_15 hS (by show G h0 ∈ ([31, 32] : List Nat); rw [hG]; decide) rfl 5 (by decide) (hts _ fl_X2_31) (fun _ h9 => h9) rfl (by decide +kernel) rfl rfl (Nat.le_of_ble_eq_true rfl) dX2_becomeLike_37 (fun H locs hn ho hz hS => ?_)
  obtain ⟨B_16, eB_16⟩ : ∃ z : AA, z = uA B_13 h0 (upd (B_13 h0) 5 (B_13 p0 5)) := ⟨_, rfl⟩
  have sB_16 : B_16 h0 5 = (B_13 p0 5) := by rw [eB_16, uA_s]; exact upd_s
  have nB_16 : ∀ k, k ≠ 5 → B_16 h0 k = B_13 h0 k := fun k hk => by rw [eB_16, uA_s]; exact upd_n hk
  have fB_16 : ∀ c, G c ≠ 31 → B_16 c = B_13 c := fun c hc => by rw [eB_16]; exact uA_n (fun e => hc (by rw [e]; exact hG))
  have hT : TX E G B_16 R H := by rw [eB_16]; exact hT.w (by rw [hG]; exact hn) ho
  have hWB_16 : TW G B_16 R := by rw [eB_16]; exact hWB_13.w (by rw [hG]; exact tw_31 hWB_13 hG)
  have hW := hWB_16
  refine lv_aload_n hx hb dX2_becomeLike_40 rfl (lv_at hl 0 rfl) ?_
  refine lv_aload_n hx hb dX2_becomeLike_41 rfl (lv_at hl 1 rfl) ?_
  have ha_17 := tx_31 hT hG0
  refine va_get (D := DG E) (ci := 2) (v := .int (B_16 p0 6)) (C := RX2) (T := TX2) (N := 8) hx hb hts iw_X2 hown hK.1 (va_one ha_17) 0 rfl rfl 6 (by decide) (hts _ fl_X2_34) (fun _ h9 => h9) rfl dX2_becomeLike_42 ?_
  have ha_18 := tx_31 hT hG
  refine rr_put (D := DG E) (ci := 2) (v := .int (B_16 p0 6)) (ty := .int) (C := RX2) (T := TX2) (N := 8) hx hb hts iw_X2 tyX2 tyX2_ok nmX2 hown hK.1 ha_18 hS (by show G h0 ∈ ([31, 32] : List Nat); rw [hG]; decide) rfl 6 (by decide) (hts _ fl_X2_34) (fun _ h9 => h9) rfl (by decide +kernel) rfl rfl (Nat.le_of_ble_eq_true rfl) dX2_becomeLike_45 (fun H locs hn ho hz hS => ?_)
  obtain ⟨B_19, eB_19⟩ : ∃ z : AA, z = uA B_16 h0 (upd (B_16 h0) 6 (B_16 p0 6)) := ⟨_, rfl⟩
  have sB_19 : B_19 h0 6 = (B_16 p0 6) := by rw [eB_19, uA_s]; exact upd_s
  have nB_19 : ∀ k, k ≠ 6 → B_19 h0 k = B_16 h0 k := fun k hk => by rw [eB_19, uA_s]; exact upd_n hk
  have fB_19 : ∀ c, G c ≠ 31 → B_19 c = B_16 c := fun c hc => by rw [eB_19]; exact uA_n (fun e => hc (by rw [e]; exact hG))
  have hT : TX E G B_19 R H := by rw [eB_19]; exact hT.w (by rw [hG]; exact hn) ho
  have hWB_19 : TW G B_19 R := by rw [eB_19]; exact hWB_16.w (by rw [hG]; exact tw_31 hWB_16 hG)
  have hW := hWB_19
  refine lv_iconst (v := 0) hx hb dX2_becomeLike_48 (by decide) ?_
  refine lv_istore_n (lv' := [(2, .int 0), (0, .ref h0), (1, .ref p0)]) hx hb dX2_becomeLike_49 rfl hl (by decide) rfl (fun ls hl => ?_)
  refine lv_iload_n hx hb dX2_becomeLike_50 rfl (lv_at hl 0 rfl) ?_
  refine lv_iconst (v := 4) hx hb dX2_becomeLike_51 (by decide) ?_
  refine lv_icmp_ge (tgt := 73) hx hb dX2_becomeLike_52 (by decide) (fun c_20 => absurd c_20 (by decide)) (fun c_20 => ?_)
  refine lv_aload_n hx hb dX2_becomeLike_55 rfl (lv_at hl 1 rfl) ?_
  have ha_21 := tx_31 hT hG
  have hg_22 : G (R h0 7) = 32 := (tw_31 hW hG).2.2
  refine va_get (D := DG E) (ci := 2) (v := .ref (R h0 7)) (C := RX2) (T := TX2) (N := 8) hx hb hts iw_X2 hown hK.1 (va_one ha_21) 0 rfl rfl 7 (by decide) (hts _ fl_X2_9) (fun _ h9 => h9) rfl dX2_becomeLike_56 ?_
  refine lv_iload_n hx hb dX2_becomeLike_59 rfl (lv_at hl 0 rfl) ?_
  refine lv_aload_n hx hb dX2_becomeLike_60 rfl (lv_at hl 2 rfl) ?_
  have ha_23 := tx_31 hT hG0
  have hg_24 : G (R p0 7) = 32 := (tw_31 hW hG0).2.2
  refine va_get (D := DG E) (ci := 2) (v := .ref (R p0 7)) (C := RX2) (T := TX2) (N := 8) hx hb hts iw_X2 hown hK.1 (va_one ha_23) 0 rfl rfl 7 (by decide) (hts _ fl_X2_9) (fun _ h9 => h9) rfl dX2_becomeLike_61 ?_
  refine lv_iload_n hx hb dX2_becomeLike_64 rfl (lv_at hl 0 rfl) ?_
  have ha_25 := tx_32 hT hg_24
  have l_26 : B_19 (R p0 7) 0 = (B (R p0 7) 0) := ((congrFun (fB_19 (R p0 7) (by rw [hg_24]; decide)) 0)).trans (((congrFun (fB_16 (R p0 7) (by rw [hg_24]; decide)) 0)).trans (((congrFun (fB_13 (R p0 7) (by rw [hg_24]; decide)) 0)).trans (((congrFun (fB_10 (R p0 7) (by rw [hg_24]; decide)) 0)).trans ((congrFun (hFr_4 (R p0 7) (by rw [hg_24]; decide)) 0)))))
  refine va_iald (D := DG E) hx hb hK.1 (va_one ha_25) 0 0 rfl rfl (show vp_in (0) 4 from vp_in_iff.mpr ⟨by decide, by decide⟩) dX2_becomeLike_65 ?_
  refine W.eq (g2 := F0 m 66 ls [.int (B (R p0 7) 0), .int 0, .ref (R h0 7)]) (congrArg (fun z => F0 m 66 ls (.int z :: [.int 0, .ref (R h0 7)])) l_26) ?_
  have ha_27 := tx_32 hT hg_22
  refine rr_iast (D := DG E) hx hb hK.1 0 ha_27 hS (by show G (R h0 7) ∈ ([31, 32] : List Nat); rw [hg_22]; decide) rfl (show vp_in (0) 4 from vp_in_iff.mpr ⟨by decide, by decide⟩) dX2_becomeLike_66 (fun H locs hn ho hz hS => ?_)
  obtain ⟨B_28, eB_28⟩ : ∃ z : AA, z = uA B_19 (R h0 7) (upd (B_19 (R h0 7)) 0 (B (R p0 7) 0)) := ⟨_, rfl⟩
  have sB_28 : B_28 (R h0 7) 0 = (B (R p0 7) 0) := by rw [eB_28, uA_s]; exact upd_s
  have nB_28 : ∀ k, k ≠ 0 → B_28 (R h0 7) k = B_19 (R h0 7) k := fun k hk => by rw [eB_28, uA_s]; exact upd_n hk
  have fB_28 : ∀ c, G c ≠ 32 → B_28 c = B_19 c := fun c hc => by rw [eB_28]; exact uA_n (fun e => hc (by rw [e]; exact hg_22))
  have hT : TX E G B_28 R H := by rw [eB_28]; exact hT.w (by rw [hg_22]; exact hn) ho
  have hWB_28 : TW G B_28 R := by rw [eB_28]; exact hWB_19.w (by rw [hg_22]; exact trivial)
  have hW := hWB_28
  refine lv_iinc (v := 1) (lv' := [(2, .int 1), (0, .ref h0), (1, .ref p0)]) hx hb dX2_becomeLike_67 hl (k := 0) rfl (by decide) (by decide) rfl (fun ls hl => ?_)
  refine lv_goto (tgt := 50) hx hb dX2_becomeLike_70 (by decide) ?_
  refine lv_iload_n hx hb dX2_becomeLike_50 rfl (lv_at hl 0 rfl) ?_
  refine lv_iconst (v := 4) hx hb dX2_becomeLike_51 (by decide) ?_
  refine lv_icmp_ge (tgt := 73) hx hb dX2_becomeLike_52 (by decide) (fun c_29 => absurd c_29 (by decide)) (fun c_29 => ?_)
  refine lv_aload_n hx hb dX2_becomeLike_55 rfl (lv_at hl 1 rfl) ?_
  have ha_30 := tx_31 hT hG
  refine va_get (D := DG E) (ci := 2) (v := .ref (R h0 7)) (C := RX2) (T := TX2) (N := 8) hx hb hts iw_X2 hown hK.1 (va_one ha_30) 0 rfl rfl 7 (by decide) (hts _ fl_X2_9) (fun _ h9 => h9) rfl dX2_becomeLike_56 ?_
  refine lv_iload_n hx hb dX2_becomeLike_59 rfl (lv_at hl 0 rfl) ?_
  refine lv_aload_n hx hb dX2_becomeLike_60 rfl (lv_at hl 2 rfl) ?_
  have ha_31 := tx_31 hT hG0
  refine va_get (D := DG E) (ci := 2) (v := .ref (R p0 7)) (C := RX2) (T := TX2) (N := 8) hx hb hts iw_X2 hown hK.1 (va_one ha_31) 0 rfl rfl 7 (by decide) (hts _ fl_X2_9) (fun _ h9 => h9) rfl dX2_becomeLike_61 ?_
  refine lv_iload_n hx hb dX2_becomeLike_64 rfl (lv_at hl 0 rfl) ?_
  have ha_32 := tx_32 hT hg_24
  refine va_iald (D := DG E) hx hb hK.1 (va_one ha_32) 0 0 rfl rfl (show vp_in (1) 4 from vp_in_iff.mpr ⟨by decide, by decide⟩) dX2_becomeLike_65 ?_
  refine W.eq (g2 := F0 m 66 ls [.int (B_28 (R p0 7) 1), .int 1, .ref (R h0 7)]) (by rfl) ?_
  have ha_33 := tx_32 hT hg_22
  refine rr_iast (D := DG E) hx hb hK.1 0 ha_33 hS (by show G (R h0 7) ∈ ([31, 32] : List Nat); rw [hg_22]; decide) rfl (show vp_in (1) 4 from vp_in_iff.mpr ⟨by decide, by decide⟩) dX2_becomeLike_66 (fun H locs hn ho hz hS => ?_)
  obtain ⟨B_34, eB_34⟩ : ∃ z : AA, z = uA B_28 (R h0 7) (upd (B_28 (R h0 7)) 1 (B_28 (R p0 7) 1)) := ⟨_, rfl⟩
  have sB_34 : B_34 (R h0 7) 1 = (B_28 (R p0 7) 1) := by rw [eB_34, uA_s]; exact upd_s
  have nB_34 : ∀ k, k ≠ 1 → B_34 (R h0 7) k = B_28 (R h0 7) k := fun k hk => by rw [eB_34, uA_s]; exact upd_n hk
  have fB_34 : ∀ c, G c ≠ 32 → B_34 c = B_28 c := fun c hc => by rw [eB_34]; exact uA_n (fun e => hc (by rw [e]; exact hg_22))
  have hT : TX E G B_34 R H := by rw [eB_34]; exact hT.w (by rw [hg_22]; exact hn) ho
  have hWB_34 : TW G B_34 R := by rw [eB_34]; exact hWB_28.w (by rw [hg_22]; exact trivial)
  have hW := hWB_34
  refine lv_iinc (v := 2) (lv' := [(2, .int 2), (0, .ref h0), (1, .ref p0)]) hx hb dX2_becomeLike_67 hl (k := 0) rfl (by decide) (by decide) rfl (fun ls hl => ?_)
  refine lv_goto (tgt := 50) hx hb dX2_becomeLike_70 (by decide) ?_
  refine lv_iload_n hx hb dX2_becomeLike_50 rfl (lv_at hl 0 rfl) ?_
  refine lv_iconst (v := 4) hx hb dX2_becomeLike_51 (by decide) ?_
  refine lv_icmp_ge (tgt := 73) hx hb dX2_becomeLike_52 (by decide) (fun c_35 => absurd c_35 (by decide)) (fun c_35 => ?_)
  refine lv_aload_n hx hb dX2_becomeLike_55 rfl (lv_at hl 1 rfl) ?_
  have ha_36 := tx_31 hT hG
  refine va_get (D := DG E) (ci := 2) (v := .ref (R h0 7)) (C := RX2) (T := TX2) (N := 8) hx hb hts iw_X2 hown hK.1 (va_one ha_36) 0 rfl rfl 7 (by decide) (hts _ fl_X2_9) (fun _ h9 => h9) rfl dX2_becomeLike_56 ?_
  refine lv_iload_n hx hb dX2_becomeLike_59 rfl (lv_at hl 0 rfl) ?_
  refine lv_aload_n hx hb dX2_becomeLike_60 rfl (lv_at hl 2 rfl) ?_
  have ha_37 := tx_31 hT hG0
  refine va_get (D := DG E) (ci := 2) (v := .ref (R p0 7)) (C := RX2) (T := TX2) (N := 8) hx hb hts iw_X2 hown hK.1 (va_one ha_37) 0 rfl rfl 7 (by decide) (hts _ fl_X2_9) (fun _ h9 => h9) rfl dX2_becomeLike_61 ?_
  refine lv_iload_n hx hb dX2_becomeLike_64 rfl (lv_at hl 0 rfl) ?_
  have ha_38 := tx_32 hT hg_24
  refine va_iald (D := DG E) hx hb hK.1 (va_one ha_38) 0 0 rfl rfl (show vp_in (2) 4 from vp_in_iff.mpr ⟨by decide, by decide⟩) dX2_becomeLike_65 ?_
  refine W.eq (g2 := F0 m 66 ls [.int (B_34 (R p0 7) 2), .int 2, .ref (R h0 7)]) (by rfl) ?_
  have ha_39 := tx_32 hT hg_22
  refine rr_iast (D := DG E) hx hb hK.1 0 ha_39 hS (by show G (R h0 7) ∈ ([31, 32] : List Nat); rw [hg_22]; decide) rfl (show vp_in (2) 4 from vp_in_iff.mpr ⟨by decide, by decide⟩) dX2_becomeLike_66 (fun H locs hn ho hz hS => ?_)
  obtain ⟨B_40, eB_40⟩ : ∃ z : AA, z = uA B_34 (R h0 7) (upd (B_34 (R h0 7)) 2 (B_34 (R p0 7) 2)) := ⟨_, rfl⟩
  have sB_40 : B_40 (R h0 7) 2 = (B_34 (R p0 7) 2) := by rw [eB_40, uA_s]; exact upd_s
  have nB_40 : ∀ k, k ≠ 2 → B_40 (R h0 7) k = B_34 (R h0 7) k := fun k hk => by rw [eB_40, uA_s]; exact upd_n hk
  have fB_40 : ∀ c, G c ≠ 32 → B_40 c = B_34 c := fun c hc => by rw [eB_40]; exact uA_n (fun e => hc (by rw [e]; exact hg_22))
  have hT : TX E G B_40 R H := by rw [eB_40]; exact hT.w (by rw [hg_22]; exact hn) ho
  have hWB_40 : TW G B_40 R := by rw [eB_40]; exact hWB_34.w (by rw [hg_22]; exact trivial)
  have hW := hWB_40
  refine lv_iinc (v := 3) (lv' := [(2, .int 3), (0, .ref h0), (1, .ref p0)]) hx hb dX2_becomeLike_67 hl (k := 0) rfl (by decide) (by decide) rfl (fun ls hl => ?_)
  refine lv_goto (tgt := 50) hx hb dX2_becomeLike_70 (by decide) ?_
  refine lv_iload_n hx hb dX2_becomeLike_50 rfl (lv_at hl 0 rfl) ?_
  refine lv_iconst (v := 4) hx hb dX2_becomeLike_51 (by decide) ?_
  refine lv_icmp_ge (tgt := 73) hx hb dX2_becomeLike_52 (by decide) (fun c_41 => absurd c_41 (by decide)) (fun c_41 => ?_)
  refine lv_aload_n hx hb dX2_becomeLike_55 rfl (lv_at hl 1 rfl) ?_
  have ha_42 := tx_31 hT hG
  refine va_get (D := DG E) (ci := 2) (v := .ref (R h0 7)) (C := RX2) (T := TX2) (N := 8) hx hb hts iw_X2 hown hK.1 (va_one ha_42) 0 rfl rfl 7 (by decide) (hts _ fl_X2_9) (fun _ h9 => h9) rfl dX2_becomeLike_56 ?_
  refine lv_iload_n hx hb dX2_becomeLike_59 rfl (lv_at hl 0 rfl) ?_
  refine lv_aload_n hx hb dX2_becomeLike_60 rfl (lv_at hl 2 rfl) ?_
  have ha_43 := tx_31 hT hG0
  refine va_get (D := DG E) (ci := 2) (v := .ref (R p0 7)) (C := RX2) (T := TX2) (N := 8) hx hb hts iw_X2 hown hK.1 (va_one ha_43) 0 rfl rfl 7 (by decide) (hts _ fl_X2_9) (fun _ h9 => h9) rfl dX2_becomeLike_61 ?_
  refine lv_iload_n hx hb dX2_becomeLike_64 rfl (lv_at hl 0 rfl) ?_
  have ha_44 := tx_32 hT hg_24
  refine va_iald (D := DG E) hx hb hK.1 (va_one ha_44) 0 0 rfl rfl (show vp_in (3) 4 from vp_in_iff.mpr ⟨by decide, by decide⟩) dX2_becomeLike_65 ?_
  refine W.eq (g2 := F0 m 66 ls [.int (B_40 (R p0 7) 3), .int 3, .ref (R h0 7)]) (by rfl) ?_
  have ha_45 := tx_32 hT hg_22
  refine rr_iast (D := DG E) hx hb hK.1 0 ha_45 hS (by show G (R h0 7) ∈ ([31, 32] : List Nat); rw [hg_22]; decide) rfl (show vp_in (3) 4 from vp_in_iff.mpr ⟨by decide, by decide⟩) dX2_becomeLike_66 (fun H locs hn ho hz hS => ?_)
  obtain ⟨B_46, eB_46⟩ : ∃ z : AA, z = uA B_40 (R h0 7) (upd (B_40 (R h0 7)) 3 (B_40 (R p0 7) 3)) := ⟨_, rfl⟩
  have sB_46 : B_46 (R h0 7) 3 = (B_40 (R p0 7) 3) := by rw [eB_46, uA_s]; exact upd_s
  have nB_46 : ∀ k, k ≠ 3 → B_46 (R h0 7) k = B_40 (R h0 7) k := fun k hk => by rw [eB_46, uA_s]; exact upd_n hk
  have fB_46 : ∀ c, G c ≠ 32 → B_46 c = B_40 c := fun c hc => by rw [eB_46]; exact uA_n (fun e => hc (by rw [e]; exact hg_22))
  have hT : TX E G B_46 R H := by rw [eB_46]; exact hT.w (by rw [hg_22]; exact hn) ho
  have hWB_46 : TW G B_46 R := by rw [eB_46]; exact hWB_40.w (by rw [hg_22]; exact trivial)
  have hW := hWB_46
  refine lv_iinc (v := 4) (lv' := [(2, .int 4), (0, .ref h0), (1, .ref p0)]) hx hb dX2_becomeLike_67 hl (k := 0) rfl (by decide) (by decide) rfl (fun ls hl => ?_)
  refine lv_goto (tgt := 50) hx hb dX2_becomeLike_70 (by decide) ?_
  refine lv_iload_n hx hb dX2_becomeLike_50 rfl (lv_at hl 0 rfl) ?_
  refine lv_iconst (v := 4) hx hb dX2_becomeLike_51 (by decide) ?_
  refine lv_icmp_ge (tgt := 73) hx hb dX2_becomeLike_52 (by decide) (fun c_47 => ?_) (fun c_47 => absurd c_47 (by decide))
  exact W.vret hx hb hr (fun t ht hW9 => ⟨⟨B_46, rfl, ⟨hW, (Fr.w (Fr.w (Fr.w (Fr.w (Fr.w (Fr.w (Fr.w (Fr.w (Fr.c Fr.rf hFr_4 (by decide)) hG (by decide) eB_10) hG (by decide) eB_13) hG (by decide) eB_16) hG (by decide) eB_19) hg_22 (by decide) eB_28) hg_22 (by decide) eB_34) hg_22 (by decide) eB_40) hg_22 (by decide) eB_46), ⟨U_5, hFr_4, hCr_4, B_10, eB_10, B_13, eB_13, B_16, eB_16, B_19, eB_19, B_28, eB_28, B_34, eB_34, B_40, eB_40, B_46, eB_46, rfl⟩⟩, (by show TX E G B_46 R t.heap; rw [ht]; exact hT)⟩, hS.F ht⟩) hS.2.2 dX2_becomeLike_73
theorem dX2_load_0 : decode cX2_load 0 = .ok (.aload_n 0, 1) := by decide +kernel
theorem dX2_load_1 : decode cX2_load 1 = .ok (.iload_n 3, 1) := by decide +kernel
theorem dX2_load_2 : decode cX2_load 2 = .ok (.iconst 4, 1) := by decide +kernel
theorem dX2_load_3 : decode cX2_load 3 = .ok (.invokestatic 41, 3) := by decide +kernel
theorem dX2_load_6 : decode cX2_load 6 = .ok (.putfield 25, 3) := by decide +kernel
theorem dX2_load_9 : decode cX2_load 9 = .ok (.iconst 0, 1) := by decide +kernel
theorem dX2_load_10 : decode cX2_load 10 = .ok (.istore 4, 2) := by decide +kernel
theorem dX2_load_12 : decode cX2_load 12 = .ok (.iload 4, 2) := by decide +kernel
theorem dX2_load_14 : decode cX2_load 14 = .ok (.aload_n 0, 1) := by decide +kernel
theorem dX2_load_15 : decode cX2_load 15 = .ok (.getfield 25, 3) := by decide +kernel
theorem dX2_load_18 : decode cX2_load 18 = .ok (.if_icmp .ge 24, 3) := by decide +kernel
theorem dX2_load_21 : decode cX2_load 21 = .ok (.aload_n 0, 1) := by decide +kernel
theorem dX2_load_22 : decode cX2_load 22 = .ok (.getfield 9, 3) := by decide +kernel
theorem dX2_load_25 : decode cX2_load 25 = .ok (.iload 4, 2) := by decide +kernel
theorem dX2_load_27 : decode cX2_load 27 = .ok (.aload_n 1, 1) := by decide +kernel
theorem dX2_load_28 : decode cX2_load 28 = .ok (.iload_n 2, 1) := by decide +kernel
theorem dX2_load_29 : decode cX2_load 29 = .ok (.iload 4, 2) := by decide +kernel
theorem dX2_load_31 : decode cX2_load 31 = .ok (.iadd, 1) := by decide +kernel
theorem dX2_load_32 : decode cX2_load 32 = .ok (.invokevirtual 47, 3) := by decide +kernel
theorem dX2_load_35 : decode cX2_load 35 = .ok (.iastore, 1) := by decide +kernel
theorem dX2_load_36 : decode cX2_load 36 = .ok (.iinc 4 1, 3) := by decide +kernel
theorem dX2_load_39 : decode cX2_load 39 = .ok (.goto (-27), 3) := by decide +kernel
theorem dX2_load_42 : decode cX2_load 42 = .ok (.return_, 1) := by decide +kernel
set_option maxHeartbeats 8000000 in
set_option maxRecDepth 100000 in
theorem x_X2_load (l : Launch) (E : EE) (z0 : Nat) (G : Nat → Nat) (hGz : ∀ q, G q ≠ 0 → z0 ≤ q) (B : AA) (R : RR) (hW : TW G B R) (h0 : Nat) (p0 : Nat) (p1 : Int32) (p2 : Int32) (hG : G h0 = 31) (hG0 : G p0 = 5) : Met l yX2_load [Cond.code yX2_load cX2_load 5 none] ({ frames := 2, cells := 0, slots := 0, locals := 41 } : Room) (va_Pc [.ref h0, .ref p0, .int p1, .int p2] (fun U => TX E G B R U.heap ∧ KS E z0 U)) (va_Qv (fun (u : AA) => (TW G u R) ∧ (Fr G ([31, 32] : List Nat) B u) ∧ (C_X2_load G B R h0 p0 p1 p2 u)) (fun u t => TX E G u R t.heap) (fun q : Nat => G q ∈ ([31, 32] : List Nat))) 0 0 (fun q : Nat => G q ∈ ([31, 32] : List Nat)) := by
  refine Met.ofW (cc := cX2_load) (maxL := 5) (ret := none) (by decide) rfl ?_
  intro p e s m args below meth c s₁ B9 hml hv
  obtain ⟨rfl, hT, hK⟩ := hv
  have hx := B9.exec
  have hb := B9.bytes
  have hr := B9.returns
  have hts : ∀ w ∈ TS, w.before ([.ref h0, .ref p0, .int p1, .int p2] : List Value).toArray s = true := fun w hw => hK.2.1 w hw _
  have hown : s.vm.findClass RX2 = some m.cls := findClass_of_methodNamed B9.named
  have hlocks := B9.notSynchronized
  have hS : va_S (fun q : Nat => G q ∈ ([31, 32] : List Nat)) s.heap s.heap [] := va_S.rf
  have hAz : ∀ q, (fun q : Nat => G q ∈ ([31, 32] : List Nat)) q → z0 ≤ q := zL hGz (by decide)
  have hW_0 := hW
  have hl := lv_entry ([.ref h0, .ref p0, .int p1, .int p2]) (n := 5) (Nat.le_of_ble_eq_true rfl)
  rw [lg_entry_eq]
  generalize (lg_sl ([.ref h0, .ref p0, .int p1, .int p2]) ++ List.replicate (5 - (lg_sl ([.ref h0, .ref p0, .int p1, .int p2])).length) Slot.unset).toArray = ls at hl ⊢
  have hl : lv_has ls 5 [(0, .ref h0), (1, .ref p0), (2, .int p1), (3, .int p2)] := hl
  refine lv_aload_n hx hb dX2_load_0 rfl (lv_at hl 0 rfl) ?_
  refine lv_iload_n hx hb dX2_load_1 rfl (lv_at hl 3 rfl) ?_
  refine lv_iconst (v := 4) hx hb dX2_load_2 (by decide) ?_
  refine va_mmin hx hb (by rw [hml]; exact hl.1.symm) hown (hts _ ml_X2_41) (hts _ st_Math_min) (hts _ in_Math) (hts _ co_Math_min) (Nat.le_of_ble_eq_true rfl) (Nat.le_of_ble_eq_true rfl) (Nat.zero_le _) (Nat.zero_le _) dX2_load_3 ?_
  refine lv_topi (fun x_1 ex_1 => ?_)
  have fx_1 := s_min ex_1; rw [i_4] at fx_1
  have ha_2 := tx_31 hT hG
  have h9_3 := tw_31 hW_0 hG
  refine rr_put (D := DG E) (ci := 2) (v := .int x_1) (ty := .int) (C := RX2) (T := TX2) (N := 8) hx hb hts iw_X2 tyX2 tyX2_ok nmX2 hown hK.1 ha_2 hS (by show G h0 ∈ ([31, 32] : List Nat); rw [hG]; decide) rfl 3 (by decide) (hts _ fl_X2_25) (fun _ h9 => h9) rfl (by decide +kernel) rfl rfl (Nat.le_of_ble_eq_true rfl) dX2_load_6 (fun H locs hn ho hz hS => ?_)
  obtain ⟨B_4, eB_4⟩ : ∃ z : AA, z = uA B h0 (upd (B h0) 3 x_1) := ⟨_, rfl⟩
  have sB_4 : B_4 h0 3 = x_1 := by rw [eB_4, uA_s]; exact upd_s
  have nB_4 : ∀ k, k ≠ 3 → B_4 h0 k = B h0 k := fun k hk => by rw [eB_4, uA_s]; exact upd_n hk
  have fB_4 : ∀ c, G c ≠ 31 → B_4 c = B c := fun c hc => by rw [eB_4]; exact uA_n (fun e => hc (by rw [e]; exact hG))
  have hT : TX E G B_4 R H := by rw [eB_4]; exact hT.w (by rw [hG]; exact hn) ho
  have hWB_4 : TW G B_4 R := by rw [eB_4]; exact hW_0.w (by rw [hG]; exact ⟨h9_3.1, (show (x_1 : Int32).toInt ≤ 12 from by omega), h9_3.2.2⟩)
  have hW := hWB_4
  refine lv_iconst (v := 0) hx hb dX2_load_9 (by decide) ?_
  refine lv_istore (lv' := [(4, .int 0), (0, .ref h0), (1, .ref p0), (2, .int p1), (3, .int p2)]) hx hb dX2_load_10 hl (by decide) rfl (fun ls hl => ?_)
  refine lv_iload hx hb dX2_load_12 (lv_at hl 0 rfl) ?_
  refine lv_aload_n hx hb dX2_load_14 rfl (lv_at hl 1 rfl) ?_
  have ha_5 := tx_31 hT hG
  have l_6 : B_4 h0 3 = x_1 := sB_4
  refine va_get (D := DG E) (ci := 2) (v := .int (B_4 h0 3)) (C := RX2) (T := TX2) (N := 8) hx hb hts iw_X2 hown hK.1 (va_one ha_5) 0 rfl rfl 3 (by decide) (hts _ fl_X2_25) (fun _ h9 => h9) rfl dX2_load_15 ?_
  refine W.eq (g2 := F0 m 18 ls [.int x_1, .int 0]) (by rw [l_6]) ?_
  refine lv_icmp_ge (tgt := 42) hx hb dX2_load_18 (by decide) (fun c_7 => ?_) (fun c_7 => ?_)
  · simp only [lt_I, le_I, eq_I, i_0, i_1, i_2, i_3, i_4, i_5, i_6, i_7, i_8, i_10, i_12, i_16, i_20, i_23, i_24, i_31, i_32, i_63, i_64, i_m1] at c_7
    exact W.vret hx hb hr (fun t ht hW9 => ⟨⟨B_4, rfl, ⟨hW, (Fr.w Fr.rf hG (by decide) eB_4), (Or.inl ⟨x_1, ex_1, B_4, eB_4, c_7, rfl⟩)⟩, (by show TX E G B_4 R t.heap; rw [ht]; exact hT)⟩, hS.F ht⟩) hS.2.2 dX2_load_42
  · simp only [lt_I, le_I, eq_I, i_0, i_1, i_2, i_3, i_4, i_5, i_6, i_7, i_8, i_10, i_12, i_16, i_20, i_23, i_24, i_31, i_32, i_63, i_64, i_m1] at c_7
    refine lv_aload_n hx hb dX2_load_21 rfl (lv_at hl 1 rfl) ?_
    have hg_8 : G (R h0 7) = 32 := (tw_31 hW hG).2.2
    refine va_get (D := DG E) (ci := 2) (v := .ref (R h0 7)) (C := RX2) (T := TX2) (N := 8) hx hb hts iw_X2 hown hK.1 (va_one ha_5) 0 rfl rfl 7 (by decide) (hts _ fl_X2_9) (fun _ h9 => h9) rfl dX2_load_22 ?_
    refine lv_iload hx hb dX2_load_25 (lv_at hl 0 rfl) ?_
    refine lv_aload_n hx hb dX2_load_27 rfl (lv_at hl 2 rfl) ?_
    refine lv_iload_n hx hb dX2_load_28 rfl (lv_at hl 3 rfl) ?_
    refine lv_iload hx hb dX2_load_29 (lv_at hl 0 rfl) ?_
    refine lv_iadd hx hb dX2_load_31 ?_
    refine lv_topi (fun x_9 ex_9 => ?_)
    have ha_10 := tx_5 hT hG0
    refine va_calli (rnV (fun H => TX E G B_4 R H) (As := [.int x_9]) (rest := [.int 0, .ref (R h0 7)]) ⟨hx, hb, hml, hown, hts⟩ (x_X1_at l E z0 G hGz B_4 R hW p0 x_9 hG0) (cwV 1 hts (gdV ml_X2_47 im_X1_at se_X1_X1_at in_X1 co_X1_at rfl) rfl rfl rfl (by decide +kernel) ⟨Nat.le_of_ble_eq_true rfl, Nat.le_of_ble_eq_true rfl⟩) hT (fun U hU hW => hK.go hW hS hAz hU) (va_recv hK.1 (va_one ha_10) (ci := 1) (q0 := 0) rfl rfl) rfl rfl hl.1 rfl (lv_room (Nat.le_of_ble_eq_true rfl)) dX2_load_32 ⟨Nat.le_of_ble_eq_true rfl, Nat.le_of_ble_eq_true rfl⟩) hS (fun q _ h => h.elim) (fun q h => h.elim) (fun r_11 _ t H locs ht hvm hwr_11 hB hz hk hS => ?_)
    have hT : TX E G B_4 R H := hT.kept (fun q hq => hk q hq (fun h => h))
    have hCr_11 : C_X1_at G B_4 R p0 x_9 r_11 := hwr_11
    have ha_12 := tx_32 hT hg_8
    refine rr_iast (D := DG E) hx hb hK.1 0 ha_12 hS (by show G (R h0 7) ∈ ([31, 32] : List Nat); rw [hg_8]; decide) rfl (show vp_in (0) 4 from vp_in_iff.mpr ⟨by decide, by decide⟩) dX2_load_35 (fun H locs hn ho hz hS => ?_)
    obtain ⟨B_13, eB_13⟩ : ∃ z : AA, z = uA B_4 (R h0 7) (upd (B_4 (R h0 7)) 0 r_11) := ⟨_, rfl⟩
    have sB_13 : B_13 (R h0 7) 0 = r_11 := by rw [eB_13, uA_s]; exact upd_s
    have nB_13 : ∀ k, k ≠ 0 → B_13 (R h0 7) k = B_4 (R h0 7) k := fun k hk => by rw [eB_13, uA_s]; exact upd_n hk
    have fB_13 : ∀ c, G c ≠ 32 → B_13 c = B_4 c := fun c hc => by rw [eB_13]; exact uA_n (fun e => hc (by rw [e]; exact hg_8))
    have hT : TX E G B_13 R H := by rw [eB_13]; exact hT.w (by rw [hg_8]; exact hn) ho
    have hWB_13 : TW G B_13 R := by rw [eB_13]; exact hWB_4.w (by rw [hg_8]; exact trivial)
    have hW := hWB_13
    refine lv_iinc (v := 1) (lv' := [(4, .int 1), (0, .ref h0), (1, .ref p0), (2, .int p1), (3, .int p2)]) hx hb dX2_load_36 hl (k := 0) rfl (by decide) (by decide) rfl (fun ls hl => ?_)
    refine lv_goto (tgt := 12) hx hb dX2_load_39 (by decide) ?_
    refine lv_iload hx hb dX2_load_12 (lv_at hl 0 rfl) ?_
    refine lv_aload_n hx hb dX2_load_14 rfl (lv_at hl 1 rfl) ?_
    have ha_14 := tx_31 hT hG
    have l_15 : B_13 h0 3 = x_1 := ((congrFun (fB_13 h0 (by rw [hG]; decide)) 3)).trans (sB_4)
    refine va_get (D := DG E) (ci := 2) (v := .int (B_13 h0 3)) (C := RX2) (T := TX2) (N := 8) hx hb hts iw_X2 hown hK.1 (va_one ha_14) 0 rfl rfl 3 (by decide) (hts _ fl_X2_25) (fun _ h9 => h9) rfl dX2_load_15 ?_
    refine W.eq (g2 := F0 m 18 ls [.int x_1, .int 1]) (by rw [l_15]) ?_
    refine lv_icmp_ge (tgt := 42) hx hb dX2_load_18 (by decide) (fun c_16 => ?_) (fun c_16 => ?_)
    · simp only [lt_I, le_I, eq_I, i_0, i_1, i_2, i_3, i_4, i_5, i_6, i_7, i_8, i_10, i_12, i_16, i_20, i_23, i_24, i_31, i_32, i_63, i_64, i_m1] at c_16
      exact W.vret hx hb hr (fun t ht hW9 => ⟨⟨B_13, rfl, ⟨hW, (Fr.w (Fr.w Fr.rf hG (by decide) eB_4) hg_8 (by decide) eB_13), (Or.inr (Or.inl ⟨x_1, ex_1, B_4, eB_4, c_7, x_9, ex_9, r_11, hCr_11, B_13, eB_13, c_16, rfl⟩))⟩, (by show TX E G B_13 R t.heap; rw [ht]; exact hT)⟩, hS.F ht⟩) hS.2.2 dX2_load_42
    · simp only [lt_I, le_I, eq_I, i_0, i_1, i_2, i_3, i_4, i_5, i_6, i_7, i_8, i_10, i_12, i_16, i_20, i_23, i_24, i_31, i_32, i_63, i_64, i_m1] at c_16
      refine lv_aload_n hx hb dX2_load_21 rfl (lv_at hl 1 rfl) ?_
      refine va_get (D := DG E) (ci := 2) (v := .ref (R h0 7)) (C := RX2) (T := TX2) (N := 8) hx hb hts iw_X2 hown hK.1 (va_one ha_14) 0 rfl rfl 7 (by decide) (hts _ fl_X2_9) (fun _ h9 => h9) rfl dX2_load_22 ?_
      refine lv_iload hx hb dX2_load_25 (lv_at hl 0 rfl) ?_
      refine lv_aload_n hx hb dX2_load_27 rfl (lv_at hl 2 rfl) ?_
      refine lv_iload_n hx hb dX2_load_28 rfl (lv_at hl 3 rfl) ?_
      refine lv_iload hx hb dX2_load_29 (lv_at hl 0 rfl) ?_
      refine lv_iadd hx hb dX2_load_31 ?_
      refine lv_topi (fun x_17 ex_17 => ?_)
      have ha_18 := tx_5 hT hG0
      refine va_calli (rnV (fun H => TX E G B_13 R H) (As := [.int x_17]) (rest := [.int 1, .ref (R h0 7)]) ⟨hx, hb, hml, hown, hts⟩ (x_X1_at l E z0 G hGz B_13 R hW p0 x_17 hG0) (cwV 1 hts (gdV ml_X2_47 im_X1_at se_X1_X1_at in_X1 co_X1_at rfl) rfl rfl rfl (by decide +kernel) ⟨Nat.le_of_ble_eq_true rfl, Nat.le_of_ble_eq_true rfl⟩) hT (fun U hU hW => hK.go hW hS hAz hU) (va_recv hK.1 (va_one ha_18) (ci := 1) (q0 := 0) rfl rfl) rfl rfl hl.1 rfl (lv_room (Nat.le_of_ble_eq_true rfl)) dX2_load_32 ⟨Nat.le_of_ble_eq_true rfl, Nat.le_of_ble_eq_true rfl⟩) hS (fun q _ h => h.elim) (fun q h => h.elim) (fun r_19 _ t H locs ht hvm hwr_19 hB hz hk hS => ?_)
      have hT : TX E G B_13 R H := hT.kept (fun q hq => hk q hq (fun h => h))
      have hCr_19 : C_X1_at G B_13 R p0 x_17 r_19 := hwr_19
      have ha_20 := tx_32 hT hg_8
      refine rr_iast (D := DG E) hx hb hK.1 0 ha_20 hS (by show G (R h0 7) ∈ ([31, 32] : List Nat); rw [hg_8]; decide) rfl (show vp_in (1) 4 from vp_in_iff.mpr ⟨by decide, by decide⟩) dX2_load_35 (fun H locs hn ho hz hS => ?_)
      obtain ⟨B_21, eB_21⟩ : ∃ z : AA, z = uA B_13 (R h0 7) (upd (B_13 (R h0 7)) 1 r_19) := ⟨_, rfl⟩
      have sB_21 : B_21 (R h0 7) 1 = r_19 := by rw [eB_21, uA_s]; exact upd_s
      have nB_21 : ∀ k, k ≠ 1 → B_21 (R h0 7) k = B_13 (R h0 7) k := fun k hk => by rw [eB_21, uA_s]; exact upd_n hk
      have fB_21 : ∀ c, G c ≠ 32 → B_21 c = B_13 c := fun c hc => by rw [eB_21]; exact uA_n (fun e => hc (by rw [e]; exact hg_8))
      have hT : TX E G B_21 R H := by rw [eB_21]; exact hT.w (by rw [hg_8]; exact hn) ho
      have hWB_21 : TW G B_21 R := by rw [eB_21]; exact hWB_13.w (by rw [hg_8]; exact trivial)
      have hW := hWB_21
      refine lv_iinc (v := 2) (lv' := [(4, .int 2), (0, .ref h0), (1, .ref p0), (2, .int p1), (3, .int p2)]) hx hb dX2_load_36 hl (k := 0) rfl (by decide) (by decide) rfl (fun ls hl => ?_)
      refine lv_goto (tgt := 12) hx hb dX2_load_39 (by decide) ?_
      refine lv_iload hx hb dX2_load_12 (lv_at hl 0 rfl) ?_
      refine lv_aload_n hx hb dX2_load_14 rfl (lv_at hl 1 rfl) ?_
      have ha_22 := tx_31 hT hG
      have l_23 : B_21 h0 3 = x_1 := ((congrFun (fB_21 h0 (by rw [hG]; decide)) 3)).trans (((congrFun (fB_13 h0 (by rw [hG]; decide)) 3)).trans (sB_4))
      refine va_get (D := DG E) (ci := 2) (v := .int (B_21 h0 3)) (C := RX2) (T := TX2) (N := 8) hx hb hts iw_X2 hown hK.1 (va_one ha_22) 0 rfl rfl 3 (by decide) (hts _ fl_X2_25) (fun _ h9 => h9) rfl dX2_load_15 ?_
      refine W.eq (g2 := F0 m 18 ls [.int x_1, .int 2]) (by rw [l_23]) ?_
      refine lv_icmp_ge (tgt := 42) hx hb dX2_load_18 (by decide) (fun c_24 => ?_) (fun c_24 => ?_)
      · simp only [lt_I, le_I, eq_I, i_0, i_1, i_2, i_3, i_4, i_5, i_6, i_7, i_8, i_10, i_12, i_16, i_20, i_23, i_24, i_31, i_32, i_63, i_64, i_m1] at c_24
        exact W.vret hx hb hr (fun t ht hW9 => ⟨⟨B_21, rfl, ⟨hW, (Fr.w (Fr.w (Fr.w Fr.rf hG (by decide) eB_4) hg_8 (by decide) eB_13) hg_8 (by decide) eB_21), (Or.inr (Or.inr (Or.inl ⟨x_1, ex_1, B_4, eB_4, c_7, x_9, ex_9, r_11, hCr_11, B_13, eB_13, c_16, x_17, ex_17, r_19, hCr_19, B_21, eB_21, c_24, rfl⟩)))⟩, (by show TX E G B_21 R t.heap; rw [ht]; exact hT)⟩, hS.F ht⟩) hS.2.2 dX2_load_42
      · simp only [lt_I, le_I, eq_I, i_0, i_1, i_2, i_3, i_4, i_5, i_6, i_7, i_8, i_10, i_12, i_16, i_20, i_23, i_24, i_31, i_32, i_63, i_64, i_m1] at c_24
        refine lv_aload_n hx hb dX2_load_21 rfl (lv_at hl 1 rfl) ?_
        refine va_get (D := DG E) (ci := 2) (v := .ref (R h0 7)) (C := RX2) (T := TX2) (N := 8) hx hb hts iw_X2 hown hK.1 (va_one ha_22) 0 rfl rfl 7 (by decide) (hts _ fl_X2_9) (fun _ h9 => h9) rfl dX2_load_22 ?_
        refine lv_iload hx hb dX2_load_25 (lv_at hl 0 rfl) ?_
        refine lv_aload_n hx hb dX2_load_27 rfl (lv_at hl 2 rfl) ?_
        refine lv_iload_n hx hb dX2_load_28 rfl (lv_at hl 3 rfl) ?_
        refine lv_iload hx hb dX2_load_29 (lv_at hl 0 rfl) ?_
        refine lv_iadd hx hb dX2_load_31 ?_
        refine lv_topi (fun x_25 ex_25 => ?_)
        have ha_26 := tx_5 hT hG0
        refine va_calli (rnV (fun H => TX E G B_21 R H) (As := [.int x_25]) (rest := [.int 2, .ref (R h0 7)]) ⟨hx, hb, hml, hown, hts⟩ (x_X1_at l E z0 G hGz B_21 R hW p0 x_25 hG0) (cwV 1 hts (gdV ml_X2_47 im_X1_at se_X1_X1_at in_X1 co_X1_at rfl) rfl rfl rfl (by decide +kernel) ⟨Nat.le_of_ble_eq_true rfl, Nat.le_of_ble_eq_true rfl⟩) hT (fun U hU hW => hK.go hW hS hAz hU) (va_recv hK.1 (va_one ha_26) (ci := 1) (q0 := 0) rfl rfl) rfl rfl hl.1 rfl (lv_room (Nat.le_of_ble_eq_true rfl)) dX2_load_32 ⟨Nat.le_of_ble_eq_true rfl, Nat.le_of_ble_eq_true rfl⟩) hS (fun q _ h => h.elim) (fun q h => h.elim) (fun r_27 _ t H locs ht hvm hwr_27 hB hz hk hS => ?_)
        have hT : TX E G B_21 R H := hT.kept (fun q hq => hk q hq (fun h => h))
        have hCr_27 : C_X1_at G B_21 R p0 x_25 r_27 := hwr_27
        have ha_28 := tx_32 hT hg_8
        refine rr_iast (D := DG E) hx hb hK.1 0 ha_28 hS (by show G (R h0 7) ∈ ([31, 32] : List Nat); rw [hg_8]; decide) rfl (show vp_in (2) 4 from vp_in_iff.mpr ⟨by decide, by decide⟩) dX2_load_35 (fun H locs hn ho hz hS => ?_)
        obtain ⟨B_29, eB_29⟩ : ∃ z : AA, z = uA B_21 (R h0 7) (upd (B_21 (R h0 7)) 2 r_27) := ⟨_, rfl⟩
        have sB_29 : B_29 (R h0 7) 2 = r_27 := by rw [eB_29, uA_s]; exact upd_s
        have nB_29 : ∀ k, k ≠ 2 → B_29 (R h0 7) k = B_21 (R h0 7) k := fun k hk => by rw [eB_29, uA_s]; exact upd_n hk
        have fB_29 : ∀ c, G c ≠ 32 → B_29 c = B_21 c := fun c hc => by rw [eB_29]; exact uA_n (fun e => hc (by rw [e]; exact hg_8))
        have hT : TX E G B_29 R H := by rw [eB_29]; exact hT.w (by rw [hg_8]; exact hn) ho
        have hWB_29 : TW G B_29 R := by rw [eB_29]; exact hWB_21.w (by rw [hg_8]; exact trivial)
        have hW := hWB_29
        refine lv_iinc (v := 3) (lv' := [(4, .int 3), (0, .ref h0), (1, .ref p0), (2, .int p1), (3, .int p2)]) hx hb dX2_load_36 hl (k := 0) rfl (by decide) (by decide) rfl (fun ls hl => ?_)
        refine lv_goto (tgt := 12) hx hb dX2_load_39 (by decide) ?_
        refine lv_iload hx hb dX2_load_12 (lv_at hl 0 rfl) ?_
        refine lv_aload_n hx hb dX2_load_14 rfl (lv_at hl 1 rfl) ?_
        have ha_30 := tx_31 hT hG
        have l_31 : B_29 h0 3 = x_1 := ((congrFun (fB_29 h0 (by rw [hG]; decide)) 3)).trans (((congrFun (fB_21 h0 (by rw [hG]; decide)) 3)).trans (((congrFun (fB_13 h0 (by rw [hG]; decide)) 3)).trans (sB_4)))
        refine va_get (D := DG E) (ci := 2) (v := .int (B_29 h0 3)) (C := RX2) (T := TX2) (N := 8) hx hb hts iw_X2 hown hK.1 (va_one ha_30) 0 rfl rfl 3 (by decide) (hts _ fl_X2_25) (fun _ h9 => h9) rfl dX2_load_15 ?_
        refine W.eq (g2 := F0 m 18 ls [.int x_1, .int 3]) (by rw [l_31]) ?_
        refine lv_icmp_ge (tgt := 42) hx hb dX2_load_18 (by decide) (fun c_32 => ?_) (fun c_32 => ?_)
        · simp only [lt_I, le_I, eq_I, i_0, i_1, i_2, i_3, i_4, i_5, i_6, i_7, i_8, i_10, i_12, i_16, i_20, i_23, i_24, i_31, i_32, i_63, i_64, i_m1] at c_32
          exact W.vret hx hb hr (fun t ht hW9 => ⟨⟨B_29, rfl, ⟨hW, (Fr.w (Fr.w (Fr.w (Fr.w Fr.rf hG (by decide) eB_4) hg_8 (by decide) eB_13) hg_8 (by decide) eB_21) hg_8 (by decide) eB_29), (Or.inr (Or.inr (Or.inr (Or.inl ⟨x_1, ex_1, B_4, eB_4, c_7, x_9, ex_9, r_11, hCr_11, B_13, eB_13, c_16, x_17, ex_17, r_19, hCr_19, B_21, eB_21, c_24, x_25, ex_25, r_27, hCr_27, B_29, eB_29, c_32, rfl⟩))))⟩, (by show TX E G B_29 R t.heap; rw [ht]; exact hT)⟩, hS.F ht⟩) hS.2.2 dX2_load_42
        · simp only [lt_I, le_I, eq_I, i_0, i_1, i_2, i_3, i_4, i_5, i_6, i_7, i_8, i_10, i_12, i_16, i_20, i_23, i_24, i_31, i_32, i_63, i_64, i_m1] at c_32
          refine lv_aload_n hx hb dX2_load_21 rfl (lv_at hl 1 rfl) ?_
          refine va_get (D := DG E) (ci := 2) (v := .ref (R h0 7)) (C := RX2) (T := TX2) (N := 8) hx hb hts iw_X2 hown hK.1 (va_one ha_30) 0 rfl rfl 7 (by decide) (hts _ fl_X2_9) (fun _ h9 => h9) rfl dX2_load_22 ?_
          refine lv_iload hx hb dX2_load_25 (lv_at hl 0 rfl) ?_
          refine lv_aload_n hx hb dX2_load_27 rfl (lv_at hl 2 rfl) ?_
          refine lv_iload_n hx hb dX2_load_28 rfl (lv_at hl 3 rfl) ?_
          refine lv_iload hx hb dX2_load_29 (lv_at hl 0 rfl) ?_
          refine lv_iadd hx hb dX2_load_31 ?_
          refine lv_topi (fun x_33 ex_33 => ?_)
          have ha_34 := tx_5 hT hG0
          refine va_calli (rnV (fun H => TX E G B_29 R H) (As := [.int x_33]) (rest := [.int 3, .ref (R h0 7)]) ⟨hx, hb, hml, hown, hts⟩ (x_X1_at l E z0 G hGz B_29 R hW p0 x_33 hG0) (cwV 1 hts (gdV ml_X2_47 im_X1_at se_X1_X1_at in_X1 co_X1_at rfl) rfl rfl rfl (by decide +kernel) ⟨Nat.le_of_ble_eq_true rfl, Nat.le_of_ble_eq_true rfl⟩) hT (fun U hU hW => hK.go hW hS hAz hU) (va_recv hK.1 (va_one ha_34) (ci := 1) (q0 := 0) rfl rfl) rfl rfl hl.1 rfl (lv_room (Nat.le_of_ble_eq_true rfl)) dX2_load_32 ⟨Nat.le_of_ble_eq_true rfl, Nat.le_of_ble_eq_true rfl⟩) hS (fun q _ h => h.elim) (fun q h => h.elim) (fun r_35 _ t H locs ht hvm hwr_35 hB hz hk hS => ?_)
          have hT : TX E G B_29 R H := hT.kept (fun q hq => hk q hq (fun h => h))
          have hCr_35 : C_X1_at G B_29 R p0 x_33 r_35 := hwr_35
          have ha_36 := tx_32 hT hg_8
          refine rr_iast (D := DG E) hx hb hK.1 0 ha_36 hS (by show G (R h0 7) ∈ ([31, 32] : List Nat); rw [hg_8]; decide) rfl (show vp_in (3) 4 from vp_in_iff.mpr ⟨by decide, by decide⟩) dX2_load_35 (fun H locs hn ho hz hS => ?_)
          obtain ⟨B_37, eB_37⟩ : ∃ z : AA, z = uA B_29 (R h0 7) (upd (B_29 (R h0 7)) 3 r_35) := ⟨_, rfl⟩
          have sB_37 : B_37 (R h0 7) 3 = r_35 := by rw [eB_37, uA_s]; exact upd_s
          have nB_37 : ∀ k, k ≠ 3 → B_37 (R h0 7) k = B_29 (R h0 7) k := fun k hk => by rw [eB_37, uA_s]; exact upd_n hk
          have fB_37 : ∀ c, G c ≠ 32 → B_37 c = B_29 c := fun c hc => by rw [eB_37]; exact uA_n (fun e => hc (by rw [e]; exact hg_8))
          have hT : TX E G B_37 R H := by rw [eB_37]; exact hT.w (by rw [hg_8]; exact hn) ho
          have hWB_37 : TW G B_37 R := by rw [eB_37]; exact hWB_29.w (by rw [hg_8]; exact trivial)
          have hW := hWB_37
          refine lv_iinc (v := 4) (lv' := [(4, .int 4), (0, .ref h0), (1, .ref p0), (2, .int p1), (3, .int p2)]) hx hb dX2_load_36 hl (k := 0) rfl (by decide) (by decide) rfl (fun ls hl => ?_)
          refine lv_goto (tgt := 12) hx hb dX2_load_39 (by decide) ?_
          refine lv_iload hx hb dX2_load_12 (lv_at hl 0 rfl) ?_
          refine lv_aload_n hx hb dX2_load_14 rfl (lv_at hl 1 rfl) ?_
          have ha_38 := tx_31 hT hG
          have l_39 : B_37 h0 3 = x_1 := ((congrFun (fB_37 h0 (by rw [hG]; decide)) 3)).trans (((congrFun (fB_29 h0 (by rw [hG]; decide)) 3)).trans (((congrFun (fB_21 h0 (by rw [hG]; decide)) 3)).trans (((congrFun (fB_13 h0 (by rw [hG]; decide)) 3)).trans (sB_4))))
          refine va_get (D := DG E) (ci := 2) (v := .int (B_37 h0 3)) (C := RX2) (T := TX2) (N := 8) hx hb hts iw_X2 hown hK.1 (va_one ha_38) 0 rfl rfl 3 (by decide) (hts _ fl_X2_25) (fun _ h9 => h9) rfl dX2_load_15 ?_
          refine W.eq (g2 := F0 m 18 ls [.int x_1, .int 4]) (by rw [l_39]) ?_
          refine lv_icmp_ge (tgt := 42) hx hb dX2_load_18 (by decide) (fun c_40 => ?_) (fun c_40 => by exfalso; simp only [lt_I, le_I, eq_I, i_0, i_1, i_2, i_3, i_4, i_5, i_6, i_7, i_8, i_10, i_12, i_16, i_20, i_23, i_24, i_31, i_32, i_63, i_64, i_m1] at c_40; omega)
          exact W.vret hx hb hr (fun t ht hW9 => ⟨⟨B_37, rfl, ⟨hW, (Fr.w (Fr.w (Fr.w (Fr.w (Fr.w Fr.rf hG (by decide) eB_4) hg_8 (by decide) eB_13) hg_8 (by decide) eB_21) hg_8 (by decide) eB_29) hg_8 (by decide) eB_37), (Or.inr (Or.inr (Or.inr (Or.inr ⟨x_1, ex_1, B_4, eB_4, c_7, x_9, ex_9, r_11, hCr_11, B_13, eB_13, c_16, x_17, ex_17, r_19, hCr_19, B_21, eB_21, c_24, x_25, ex_25, r_27, hCr_27, B_29, eB_29, c_32, x_33, ex_33, r_35, hCr_35, B_37, eB_37, rfl⟩))))⟩, (by show TX E G B_37 R t.heap; rw [ht]; exact hT)⟩, hS.F ht⟩) hS.2.2 dX2_load_42
theorem dX2_unload_0 : decode cX2_unload 0 = .ok (.iconst 0, 1) := by decide +kernel
theorem dX2_unload_1 : decode cX2_unload 1 = .ok (.istore 4, 2) := by decide +kernel
theorem dX2_unload_3 : decode cX2_unload 3 = .ok (.iload 4, 2) := by decide +kernel
theorem dX2_unload_5 : decode cX2_unload 5 = .ok (.aload_n 0, 1) := by decide +kernel
theorem dX2_unload_6 : decode cX2_unload 6 = .ok (.getfield 25, 3) := by decide +kernel
theorem dX2_unload_9 : decode cX2_unload 9 = .ok (.if_icmp .ge 36, 3) := by decide +kernel
theorem dX2_unload_12 : decode cX2_unload 12 = .ok (.iload 4, 2) := by decide +kernel
theorem dX2_unload_14 : decode cX2_unload 14 = .ok (.iload_n 3, 1) := by decide +kernel
theorem dX2_unload_15 : decode cX2_unload 15 = .ok (.if_icmp .ge 30, 3) := by decide +kernel
theorem dX2_unload_18 : decode cX2_unload 18 = .ok (.iload 4, 2) := by decide +kernel
theorem dX2_unload_20 : decode cX2_unload 20 = .ok (.iconst 4, 1) := by decide +kernel
theorem dX2_unload_21 : decode cX2_unload 21 = .ok (.if_icmp .ge 24, 3) := by decide +kernel
theorem dX2_unload_24 : decode cX2_unload 24 = .ok (.aload_n 1, 1) := by decide +kernel
theorem dX2_unload_25 : decode cX2_unload 25 = .ok (.iload_n 2, 1) := by decide +kernel
theorem dX2_unload_26 : decode cX2_unload 26 = .ok (.iload 4, 2) := by decide +kernel
theorem dX2_unload_28 : decode cX2_unload 28 = .ok (.iadd, 1) := by decide +kernel
theorem dX2_unload_29 : decode cX2_unload 29 = .ok (.aload_n 0, 1) := by decide +kernel
theorem dX2_unload_30 : decode cX2_unload 30 = .ok (.getfield 9, 3) := by decide +kernel
theorem dX2_unload_33 : decode cX2_unload 33 = .ok (.iload 4, 2) := by decide +kernel
theorem dX2_unload_35 : decode cX2_unload 35 = .ok (.iaload, 1) := by decide +kernel
theorem dX2_unload_36 : decode cX2_unload 36 = .ok (.invokevirtual 53, 3) := by decide +kernel
theorem dX2_unload_39 : decode cX2_unload 39 = .ok (.iinc 4 1, 3) := by decide +kernel
theorem dX2_unload_42 : decode cX2_unload 42 = .ok (.goto (-39), 3) := by decide +kernel
theorem dX2_unload_45 : decode cX2_unload 45 = .ok (.return_, 1) := by decide +kernel
set_option maxHeartbeats 8000000 in
set_option maxRecDepth 100000 in
theorem x_X2_unload (l : Launch) (E : EE) (z0 : Nat) (G : Nat → Nat) (hGz : ∀ q, G q ≠ 0 → z0 ≤ q) (B : AA) (R : RR) (hW : TW G B R) (h0 : Nat) (p0 : Nat) (p1 : Int32) (p2 : Int32) (hG : G h0 = 31) (hG0 : G p0 = 5) : Met l yX2_unload [Cond.code yX2_unload cX2_unload 5 none] ({ frames := 2, cells := 0, slots := 0, locals := 42 } : Room) (va_Pc [.ref h0, .ref p0, .int p1, .int p2] (fun U => TX E G B R U.heap ∧ KS E z0 U)) (va_Qv (fun (u : AA) => (TW G u R) ∧ (Fr G ([14] : List Nat) B u) ∧ (C_X2_unload G B R h0 p0 p1 p2 u)) (fun u t => TX E G u R t.heap) (fun q : Nat => G q ∈ ([14] : List Nat))) 0 0 (fun q : Nat => G q ∈ ([14] : List Nat)) := by
  refine Met.ofW (cc := cX2_unload) (maxL := 5) (ret := none) (by decide) rfl ?_
  intro p e s m args below meth c s₁ B9 hml hv
  obtain ⟨rfl, hT, hK⟩ := hv
  have hx := B9.exec
  have hb := B9.bytes
  have hr := B9.returns
  have hts : ∀ w ∈ TS, w.before ([.ref h0, .ref p0, .int p1, .int p2] : List Value).toArray s = true := fun w hw => hK.2.1 w hw _
  have hown : s.vm.findClass RX2 = some m.cls := findClass_of_methodNamed B9.named
  have hlocks := B9.notSynchronized
  have hS : va_S (fun q : Nat => G q ∈ ([14] : List Nat)) s.heap s.heap [] := va_S.rf
  have hAz : ∀ q, (fun q : Nat => G q ∈ ([14] : List Nat)) q → z0 ≤ q := zL hGz (by decide)
  have hW_0 := hW
  have hl := lv_entry ([.ref h0, .ref p0, .int p1, .int p2]) (n := 5) (Nat.le_of_ble_eq_true rfl)
  rw [lg_entry_eq]
  generalize (lg_sl ([.ref h0, .ref p0, .int p1, .int p2]) ++ List.replicate (5 - (lg_sl ([.ref h0, .ref p0, .int p1, .int p2])).length) Slot.unset).toArray = ls at hl ⊢
  have hl : lv_has ls 5 [(0, .ref h0), (1, .ref p0), (2, .int p1), (3, .int p2)] := hl
  refine lv_iconst (v := 0) hx hb dX2_unload_0 (by decide) ?_
  refine lv_istore (lv' := [(4, .int 0), (0, .ref h0), (1, .ref p0), (2, .int p1), (3, .int p2)]) hx hb dX2_unload_1 hl (by decide) rfl (fun ls hl => ?_)
  refine lv_iload hx hb dX2_unload_3 (lv_at hl 0 rfl) ?_
  refine lv_aload_n hx hb dX2_unload_5 rfl (lv_at hl 1 rfl) ?_
  have ha_1 := tx_31 hT hG
  have hb_2 := (tw_31 hW_0 hG).2.1
  refine va_get (D := DG E) (ci := 2) (v := .int (B h0 3)) (C := RX2) (T := TX2) (N := 8) hx hb hts iw_X2 hown hK.1 (va_one ha_1) 0 rfl rfl 3 (by decide) (hts _ fl_X2_25) (fun _ h9 => h9) rfl dX2_unload_6 ?_
  refine lv_icmp_ge (tgt := 45) hx hb dX2_unload_9 (by decide) (fun c_3 => ?_) (fun c_3 => ?_)
  · simp only [lt_I, le_I, eq_I, i_0, i_1, i_2, i_3, i_4, i_5, i_6, i_7, i_8, i_10, i_12, i_16, i_20, i_23, i_24, i_31, i_32, i_63, i_64, i_m1] at c_3
    exact W.vret hx hb hr (fun t ht hW9 => ⟨⟨B, rfl, ⟨hW, Fr.rf, (Or.inl ⟨c_3, rfl⟩)⟩, (by show TX E G B R t.heap; rw [ht]; exact hT)⟩, hS.F ht⟩) hS.2.2 dX2_unload_45
  · simp only [lt_I, le_I, eq_I, i_0, i_1, i_2, i_3, i_4, i_5, i_6, i_7, i_8, i_10, i_12, i_16, i_20, i_23, i_24, i_31, i_32, i_63, i_64, i_m1] at c_3
    refine lv_iload hx hb dX2_unload_12 (lv_at hl 0 rfl) ?_
    refine lv_iload_n hx hb dX2_unload_14 rfl (lv_at hl 4 rfl) ?_
    refine lv_icmp_ge (tgt := 45) hx hb dX2_unload_15 (by decide) (fun c_4 => ?_) (fun c_4 => ?_)
    · simp only [lt_I, le_I, eq_I, i_0, i_1, i_2, i_3, i_4, i_5, i_6, i_7, i_8, i_10, i_12, i_16, i_20, i_23, i_24, i_31, i_32, i_63, i_64, i_m1] at c_4
      exact W.vret hx hb hr (fun t ht hW9 => ⟨⟨B, rfl, ⟨hW, Fr.rf, (Or.inr (Or.inl ⟨c_3, c_4, rfl⟩))⟩, (by show TX E G B R t.heap; rw [ht]; exact hT)⟩, hS.F ht⟩) hS.2.2 dX2_unload_45
    · simp only [lt_I, le_I, eq_I, i_0, i_1, i_2, i_3, i_4, i_5, i_6, i_7, i_8, i_10, i_12, i_16, i_20, i_23, i_24, i_31, i_32, i_63, i_64, i_m1] at c_4
      refine lv_iload hx hb dX2_unload_18 (lv_at hl 0 rfl) ?_
      refine lv_iconst (v := 4) hx hb dX2_unload_20 (by decide) ?_
      refine lv_icmp_ge (tgt := 45) hx hb dX2_unload_21 (by decide) (fun c_5 => absurd c_5 (by decide)) (fun c_5 => ?_)
      refine lv_aload_n hx hb dX2_unload_24 rfl (lv_at hl 2 rfl) ?_
      refine lv_iload_n hx hb dX2_unload_25 rfl (lv_at hl 3 rfl) ?_
      refine lv_iload hx hb dX2_unload_26 (lv_at hl 0 rfl) ?_
      refine lv_iadd hx hb dX2_unload_28 ?_
      refine lv_topi (fun x_6 ex_6 => ?_)
      refine lv_aload_n hx hb dX2_unload_29 rfl (lv_at hl 1 rfl) ?_
      have hg_7 : G (R h0 7) = 32 := (tw_31 hW hG).2.2
      refine va_get (D := DG E) (ci := 2) (v := .ref (R h0 7)) (C := RX2) (T := TX2) (N := 8) hx hb hts iw_X2 hown hK.1 (va_one ha_1) 0 rfl rfl 7 (by decide) (hts _ fl_X2_9) (fun _ h9 => h9) rfl dX2_unload_30 ?_
      refine lv_iload hx hb dX2_unload_33 (lv_at hl 0 rfl) ?_
      have ha_8 := tx_32 hT hg_7
      refine va_iald (D := DG E) hx hb hK.1 (va_one ha_8) 0 0 rfl rfl (show vp_in (0) 4 from vp_in_iff.mpr ⟨by decide, by decide⟩) dX2_unload_35 ?_
      refine W.eq (g2 := F0 m 36 ls [.int (B (R h0 7) 0), .int x_6, .ref p0]) (by rfl) ?_
      have ha_9 := tx_5 hT hG0
      refine va_callv (rnV (fun H => TX E G B R H) (As := [.int x_6, .int (B (R h0 7) 0)]) (rest := []) ⟨hx, hb, hml, hown, hts⟩ (x_X1_put l E z0 G hGz B R hW p0 x_6 (B (R h0 7) 0) hG0) (cwV 2 hts (gdV ml_X2_53 im_X1_put se_X1_X1_put in_X1 co_X1_put rfl) rfl rfl rfl (by decide +kernel) ⟨Nat.le_of_ble_eq_true rfl, Nat.le_of_ble_eq_true rfl⟩) hT (fun U hU hW => hK.go hW hS hAz hU) (va_recv hK.1 (va_one ha_9) (ci := 1) (q0 := 0) rfl rfl) rfl rfl hl.1 rfl (lv_room (Nat.le_of_ble_eq_true rfl)) dX2_unload_36 ⟨Nat.le_of_ble_eq_true rfl, Nat.le_of_ble_eq_true rfl⟩) hS (fun q _ h => mL (L' := [14]) (L := [14]) (by decide) h) (fun q h => mL (L' := [14]) (L := [14]) (by decide) h) (fun U_11 t H locs ht hvm hwr_10 hB hz hk hS => ?_)
      have hT : TX E G U_11 R H := by rw [ht] at hB; exact hB
      have hWr_10 : TW G U_11 R := hwr_10.1
      have hW := hWr_10
      have hFr_10 : Fr G [14] B U_11 := hwr_10.2.1
      have hCr_10 : C_X1_put G B R p0 x_6 (B (R h0 7) 0) U_11 := hwr_10.2.2
      refine lv_iinc (v := 1) (lv' := [(4, .int 1), (0, .ref h0), (1, .ref p0), (2, .int p1), (3, .int p2)]) hx hb dX2_unload_39 hl (k := 0) rfl (by decide) (by decide) rfl (fun ls hl => ?_)
      refine lv_goto (tgt := 3) hx hb dX2_unload_42 (by decide) ?_
      refine lv_iload hx hb dX2_unload_3 (lv_at hl 0 rfl) ?_
      refine lv_aload_n hx hb dX2_unload_5 rfl (lv_at hl 1 rfl) ?_
      have ha_12 := tx_31 hT hG
      have l_13 : U_11 h0 3 = (B h0 3) := (congrFun (hFr_10 h0 (by rw [hG]; decide)) 3)
      refine va_get (D := DG E) (ci := 2) (v := .int (U_11 h0 3)) (C := RX2) (T := TX2) (N := 8) hx hb hts iw_X2 hown hK.1 (va_one ha_12) 0 rfl rfl 3 (by decide) (hts _ fl_X2_25) (fun _ h9 => h9) rfl dX2_unload_6 ?_
      refine W.eq (g2 := F0 m 9 ls [.int (B h0 3), .int 1]) (by rw [l_13]) ?_
      refine lv_icmp_ge (tgt := 45) hx hb dX2_unload_9 (by decide) (fun c_14 => ?_) (fun c_14 => ?_)
      · simp only [lt_I, le_I, eq_I, i_0, i_1, i_2, i_3, i_4, i_5, i_6, i_7, i_8, i_10, i_12, i_16, i_20, i_23, i_24, i_31, i_32, i_63, i_64, i_m1] at c_14
        exact W.vret hx hb hr (fun t ht hW9 => ⟨⟨U_11, rfl, ⟨hW, (Fr.c Fr.rf hFr_10 (by decide)), (Or.inr (Or.inr (Or.inl ⟨c_3, c_4, x_6, ex_6, U_11, hFr_10, hCr_10, c_14, rfl⟩)))⟩, (by show TX E G U_11 R t.heap; rw [ht]; exact hT)⟩, hS.F ht⟩) hS.2.2 dX2_unload_45
      · simp only [lt_I, le_I, eq_I, i_0, i_1, i_2, i_3, i_4, i_5, i_6, i_7, i_8, i_10, i_12, i_16, i_20, i_23, i_24, i_31, i_32, i_63, i_64, i_m1] at c_14
        refine lv_iload hx hb dX2_unload_12 (lv_at hl 0 rfl) ?_
        refine lv_iload_n hx hb dX2_unload_14 rfl (lv_at hl 4 rfl) ?_
        refine lv_icmp_ge (tgt := 45) hx hb dX2_unload_15 (by decide) (fun c_15 => ?_) (fun c_15 => ?_)
        · simp only [lt_I, le_I, eq_I, i_0, i_1, i_2, i_3, i_4, i_5, i_6, i_7, i_8, i_10, i_12, i_16, i_20, i_23, i_24, i_31, i_32, i_63, i_64, i_m1] at c_15
          exact W.vret hx hb hr (fun t ht hW9 => ⟨⟨U_11, rfl, ⟨hW, (Fr.c Fr.rf hFr_10 (by decide)), (Or.inr (Or.inr (Or.inr (Or.inl ⟨c_3, c_4, x_6, ex_6, U_11, hFr_10, hCr_10, c_14, c_15, rfl⟩))))⟩, (by show TX E G U_11 R t.heap; rw [ht]; exact hT)⟩, hS.F ht⟩) hS.2.2 dX2_unload_45
        · simp only [lt_I, le_I, eq_I, i_0, i_1, i_2, i_3, i_4, i_5, i_6, i_7, i_8, i_10, i_12, i_16, i_20, i_23, i_24, i_31, i_32, i_63, i_64, i_m1] at c_15
          refine lv_iload hx hb dX2_unload_18 (lv_at hl 0 rfl) ?_
          refine lv_iconst (v := 4) hx hb dX2_unload_20 (by decide) ?_
          refine lv_icmp_ge (tgt := 45) hx hb dX2_unload_21 (by decide) (fun c_16 => absurd c_16 (by decide)) (fun c_16 => ?_)
          refine lv_aload_n hx hb dX2_unload_24 rfl (lv_at hl 2 rfl) ?_
          refine lv_iload_n hx hb dX2_unload_25 rfl (lv_at hl 3 rfl) ?_
          refine lv_iload hx hb dX2_unload_26 (lv_at hl 0 rfl) ?_
          refine lv_iadd hx hb dX2_unload_28 ?_
          refine lv_topi (fun x_17 ex_17 => ?_)
          refine lv_aload_n hx hb dX2_unload_29 rfl (lv_at hl 1 rfl) ?_
          refine va_get (D := DG E) (ci := 2) (v := .ref (R h0 7)) (C := RX2) (T := TX2) (N := 8) hx hb hts iw_X2 hown hK.1 (va_one ha_12) 0 rfl rfl 7 (by decide) (hts _ fl_X2_9) (fun _ h9 => h9) rfl dX2_unload_30 ?_
          refine lv_iload hx hb dX2_unload_33 (lv_at hl 0 rfl) ?_
          have ha_18 := tx_32 hT hg_7
          have l_19 : U_11 (R h0 7) 1 = (B (R h0 7) 1) := (congrFun (hFr_10 (R h0 7) (by rw [hg_7]; decide)) 1)
          refine va_iald (D := DG E) hx hb hK.1 (va_one ha_18) 0 0 rfl rfl (show vp_in (1) 4 from vp_in_iff.mpr ⟨by decide, by decide⟩) dX2_unload_35 ?_
          refine W.eq (g2 := F0 m 36 ls [.int (B (R h0 7) 1), .int x_17, .ref p0]) (congrArg (fun z => F0 m 36 ls (.int z :: [.int x_17, .ref p0])) l_19) ?_
          have ha_20 := tx_5 hT hG0
          refine va_callv (rnV (fun H => TX E G U_11 R H) (As := [.int x_17, .int (B (R h0 7) 1)]) (rest := []) ⟨hx, hb, hml, hown, hts⟩ (x_X1_put l E z0 G hGz U_11 R hW p0 x_17 (B (R h0 7) 1) hG0) (cwV 2 hts (gdV ml_X2_53 im_X1_put se_X1_X1_put in_X1 co_X1_put rfl) rfl rfl rfl (by decide +kernel) ⟨Nat.le_of_ble_eq_true rfl, Nat.le_of_ble_eq_true rfl⟩) hT (fun U hU hW => hK.go hW hS hAz hU) (va_recv hK.1 (va_one ha_20) (ci := 1) (q0 := 0) rfl rfl) rfl rfl hl.1 rfl (lv_room (Nat.le_of_ble_eq_true rfl)) dX2_unload_36 ⟨Nat.le_of_ble_eq_true rfl, Nat.le_of_ble_eq_true rfl⟩) hS (fun q _ h => mL (L' := [14]) (L := [14]) (by decide) h) (fun q h => mL (L' := [14]) (L := [14]) (by decide) h) (fun U_22 t H locs ht hvm hwr_21 hB hz hk hS => ?_)
          have hT : TX E G U_22 R H := by rw [ht] at hB; exact hB
          have hWr_21 : TW G U_22 R := hwr_21.1
          have hW := hWr_21
          have hFr_21 : Fr G [14] U_11 U_22 := hwr_21.2.1
          have hCr_21 : C_X1_put G U_11 R p0 x_17 (B (R h0 7) 1) U_22 := hwr_21.2.2
          refine lv_iinc (v := 2) (lv' := [(4, .int 2), (0, .ref h0), (1, .ref p0), (2, .int p1), (3, .int p2)]) hx hb dX2_unload_39 hl (k := 0) rfl (by decide) (by decide) rfl (fun ls hl => ?_)
          refine lv_goto (tgt := 3) hx hb dX2_unload_42 (by decide) ?_
          refine lv_iload hx hb dX2_unload_3 (lv_at hl 0 rfl) ?_
          refine lv_aload_n hx hb dX2_unload_5 rfl (lv_at hl 1 rfl) ?_
          have ha_23 := tx_31 hT hG
          have l_24 : U_22 h0 3 = (B h0 3) := ((congrFun (hFr_21 h0 (by rw [hG]; decide)) 3)).trans ((congrFun (hFr_10 h0 (by rw [hG]; decide)) 3))
          refine va_get (D := DG E) (ci := 2) (v := .int (U_22 h0 3)) (C := RX2) (T := TX2) (N := 8) hx hb hts iw_X2 hown hK.1 (va_one ha_23) 0 rfl rfl 3 (by decide) (hts _ fl_X2_25) (fun _ h9 => h9) rfl dX2_unload_6 ?_
          refine W.eq (g2 := F0 m 9 ls [.int (B h0 3), .int 2]) (by rw [l_24]) ?_
          refine lv_icmp_ge (tgt := 45) hx hb dX2_unload_9 (by decide) (fun c_25 => ?_) (fun c_25 => ?_)
          · simp only [lt_I, le_I, eq_I, i_0, i_1, i_2, i_3, i_4, i_5, i_6, i_7, i_8, i_10, i_12, i_16, i_20, i_23, i_24, i_31, i_32, i_63, i_64, i_m1] at c_25
            exact W.vret hx hb hr (fun t ht hW9 => ⟨⟨U_22, rfl, ⟨hW, (Fr.c (Fr.c Fr.rf hFr_10 (by decide)) hFr_21 (by decide)), (Or.inr (Or.inr (Or.inr (Or.inr (Or.inl ⟨c_3, c_4, x_6, ex_6, U_11, hFr_10, hCr_10, c_14, c_15, x_17, ex_17, U_22, hFr_21, hCr_21, c_25, rfl⟩)))))⟩, (by show TX E G U_22 R t.heap; rw [ht]; exact hT)⟩, hS.F ht⟩) hS.2.2 dX2_unload_45
          · simp only [lt_I, le_I, eq_I, i_0, i_1, i_2, i_3, i_4, i_5, i_6, i_7, i_8, i_10, i_12, i_16, i_20, i_23, i_24, i_31, i_32, i_63, i_64, i_m1] at c_25
            refine lv_iload hx hb dX2_unload_12 (lv_at hl 0 rfl) ?_
            refine lv_iload_n hx hb dX2_unload_14 rfl (lv_at hl 4 rfl) ?_
            refine lv_icmp_ge (tgt := 45) hx hb dX2_unload_15 (by decide) (fun c_26 => ?_) (fun c_26 => ?_)
            · simp only [lt_I, le_I, eq_I, i_0, i_1, i_2, i_3, i_4, i_5, i_6, i_7, i_8, i_10, i_12, i_16, i_20, i_23, i_24, i_31, i_32, i_63, i_64, i_m1] at c_26
              exact W.vret hx hb hr (fun t ht hW9 => ⟨⟨U_22, rfl, ⟨hW, (Fr.c (Fr.c Fr.rf hFr_10 (by decide)) hFr_21 (by decide)), (Or.inr (Or.inr (Or.inr (Or.inr (Or.inr (Or.inl ⟨c_3, c_4, x_6, ex_6, U_11, hFr_10, hCr_10, c_14, c_15, x_17, ex_17, U_22, hFr_21, hCr_21, c_25, c_26, rfl⟩))))))⟩, (by show TX E G U_22 R t.heap; rw [ht]; exact hT)⟩, hS.F ht⟩) hS.2.2 dX2_unload_45
            · simp only [lt_I, le_I, eq_I, i_0, i_1, i_2, i_3, i_4, i_5, i_6, i_7, i_8, i_10, i_12, i_16, i_20, i_23, i_24, i_31, i_32, i_63, i_64, i_m1] at c_26
              refine lv_iload hx hb dX2_unload_18 (lv_at hl 0 rfl) ?_
              refine lv_iconst (v := 4) hx hb dX2_unload_20 (by decide) ?_
              refine lv_icmp_ge (tgt := 45) hx hb dX2_unload_21 (by decide) (fun c_27 => absurd c_27 (by decide)) (fun c_27 => ?_)
              refine lv_aload_n hx hb dX2_unload_24 rfl (lv_at hl 2 rfl) ?_
              refine lv_iload_n hx hb dX2_unload_25 rfl (lv_at hl 3 rfl) ?_
              refine lv_iload hx hb dX2_unload_26 (lv_at hl 0 rfl) ?_
              refine lv_iadd hx hb dX2_unload_28 ?_
              refine lv_topi (fun x_28 ex_28 => ?_)
              refine lv_aload_n hx hb dX2_unload_29 rfl (lv_at hl 1 rfl) ?_
              refine va_get (D := DG E) (ci := 2) (v := .ref (R h0 7)) (C := RX2) (T := TX2) (N := 8) hx hb hts iw_X2 hown hK.1 (va_one ha_23) 0 rfl rfl 7 (by decide) (hts _ fl_X2_9) (fun _ h9 => h9) rfl dX2_unload_30 ?_
              refine lv_iload hx hb dX2_unload_33 (lv_at hl 0 rfl) ?_
              have ha_29 := tx_32 hT hg_7
              have l_30 : U_22 (R h0 7) 2 = (B (R h0 7) 2) := ((congrFun (hFr_21 (R h0 7) (by rw [hg_7]; decide)) 2)).trans ((congrFun (hFr_10 (R h0 7) (by rw [hg_7]; decide)) 2))
              refine va_iald (D := DG E) hx hb hK.1 (va_one ha_29) 0 0 rfl rfl (show vp_in (2) 4 from vp_in_iff.mpr ⟨by decide, by decide⟩) dX2_unload_35 ?_
              refine W.eq (g2 := F0 m 36 ls [.int (B (R h0 7) 2), .int x_28, .ref p0]) (congrArg (fun z => F0 m 36 ls (.int z :: [.int x_28, .ref p0])) l_30) ?_
              have ha_31 := tx_5 hT hG0
              refine va_callv (rnV (fun H => TX E G U_22 R H) (As := [.int x_28, .int (B (R h0 7) 2)]) (rest := []) ⟨hx, hb, hml, hown, hts⟩ (x_X1_put l E z0 G hGz U_22 R hW p0 x_28 (B (R h0 7) 2) hG0) (cwV 2 hts (gdV ml_X2_53 im_X1_put se_X1_X1_put in_X1 co_X1_put rfl) rfl rfl rfl (by decide +kernel) ⟨Nat.le_of_ble_eq_true rfl, Nat.le_of_ble_eq_true rfl⟩) hT (fun U hU hW => hK.go hW hS hAz hU) (va_recv hK.1 (va_one ha_31) (ci := 1) (q0 := 0) rfl rfl) rfl rfl hl.1 rfl (lv_room (Nat.le_of_ble_eq_true rfl)) dX2_unload_36 ⟨Nat.le_of_ble_eq_true rfl, Nat.le_of_ble_eq_true rfl⟩) hS (fun q _ h => mL (L' := [14]) (L := [14]) (by decide) h) (fun q h => mL (L' := [14]) (L := [14]) (by decide) h) (fun U_33 t H locs ht hvm hwr_32 hB hz hk hS => ?_)
              have hT : TX E G U_33 R H := by rw [ht] at hB; exact hB
              have hWr_32 : TW G U_33 R := hwr_32.1
              have hW := hWr_32
              have hFr_32 : Fr G [14] U_22 U_33 := hwr_32.2.1
              have hCr_32 : C_X1_put G U_22 R p0 x_28 (B (R h0 7) 2) U_33 := hwr_32.2.2
              refine lv_iinc (v := 3) (lv' := [(4, .int 3), (0, .ref h0), (1, .ref p0), (2, .int p1), (3, .int p2)]) hx hb dX2_unload_39 hl (k := 0) rfl (by decide) (by decide) rfl (fun ls hl => ?_)
              refine lv_goto (tgt := 3) hx hb dX2_unload_42 (by decide) ?_
              refine lv_iload hx hb dX2_unload_3 (lv_at hl 0 rfl) ?_
              refine lv_aload_n hx hb dX2_unload_5 rfl (lv_at hl 1 rfl) ?_
              have ha_34 := tx_31 hT hG
              have l_35 : U_33 h0 3 = (B h0 3) := ((congrFun (hFr_32 h0 (by rw [hG]; decide)) 3)).trans (((congrFun (hFr_21 h0 (by rw [hG]; decide)) 3)).trans ((congrFun (hFr_10 h0 (by rw [hG]; decide)) 3)))
              refine va_get (D := DG E) (ci := 2) (v := .int (U_33 h0 3)) (C := RX2) (T := TX2) (N := 8) hx hb hts iw_X2 hown hK.1 (va_one ha_34) 0 rfl rfl 3 (by decide) (hts _ fl_X2_25) (fun _ h9 => h9) rfl dX2_unload_6 ?_
              refine W.eq (g2 := F0 m 9 ls [.int (B h0 3), .int 3]) (by rw [l_35]) ?_
              refine lv_icmp_ge (tgt := 45) hx hb dX2_unload_9 (by decide) (fun c_36 => ?_) (fun c_36 => ?_)
              · simp only [lt_I, le_I, eq_I, i_0, i_1, i_2, i_3, i_4, i_5, i_6, i_7, i_8, i_10, i_12, i_16, i_20, i_23, i_24, i_31, i_32, i_63, i_64, i_m1] at c_36
                exact W.vret hx hb hr (fun t ht hW9 => ⟨⟨U_33, rfl, ⟨hW, (Fr.c (Fr.c (Fr.c Fr.rf hFr_10 (by decide)) hFr_21 (by decide)) hFr_32 (by decide)), (Or.inr (Or.inr (Or.inr (Or.inr (Or.inr (Or.inr (Or.inl ⟨c_3, c_4, x_6, ex_6, U_11, hFr_10, hCr_10, c_14, c_15, x_17, ex_17, U_22, hFr_21, hCr_21, c_25, c_26, x_28, ex_28, U_33, hFr_32, hCr_32, c_36, rfl⟩)))))))⟩, (by show TX E G U_33 R t.heap; rw [ht]; exact hT)⟩, hS.F ht⟩) hS.2.2 dX2_unload_45
              · simp only [lt_I, le_I, eq_I, i_0, i_1, i_2, i_3, i_4, i_5, i_6, i_7, i_8, i_10, i_12, i_16, i_20, i_23, i_24, i_31, i_32, i_63, i_64, i_m1] at c_36
                refine lv_iload hx hb dX2_unload_12 (lv_at hl 0 rfl) ?_
                refine lv_iload_n hx hb dX2_unload_14 rfl (lv_at hl 4 rfl) ?_
                refine lv_icmp_ge (tgt := 45) hx hb dX2_unload_15 (by decide) (fun c_37 => ?_) (fun c_37 => ?_)
                · simp only [lt_I, le_I, eq_I, i_0, i_1, i_2, i_3, i_4, i_5, i_6, i_7, i_8, i_10, i_12, i_16, i_20, i_23, i_24, i_31, i_32, i_63, i_64, i_m1] at c_37
                  exact W.vret hx hb hr (fun t ht hW9 => ⟨⟨U_33, rfl, ⟨hW, (Fr.c (Fr.c (Fr.c Fr.rf hFr_10 (by decide)) hFr_21 (by decide)) hFr_32 (by decide)), (Or.inr (Or.inr (Or.inr (Or.inr (Or.inr (Or.inr (Or.inr (Or.inl ⟨c_3, c_4, x_6, ex_6, U_11, hFr_10, hCr_10, c_14, c_15, x_17, ex_17, U_22, hFr_21, hCr_21, c_25, c_26, x_28, ex_28, U_33, hFr_32, hCr_32, c_36, c_37, rfl⟩))))))))⟩, (by show TX E G U_33 R t.heap; rw [ht]; exact hT)⟩, hS.F ht⟩) hS.2.2 dX2_unload_45
                · simp only [lt_I, le_I, eq_I, i_0, i_1, i_2, i_3, i_4, i_5, i_6, i_7, i_8, i_10, i_12, i_16, i_20, i_23, i_24, i_31, i_32, i_63, i_64, i_m1] at c_37
                  refine lv_iload hx hb dX2_unload_18 (lv_at hl 0 rfl) ?_
                  refine lv_iconst (v := 4) hx hb dX2_unload_20 (by decide) ?_
                  refine lv_icmp_ge (tgt := 45) hx hb dX2_unload_21 (by decide) (fun c_38 => absurd c_38 (by decide)) (fun c_38 => ?_)
                  refine lv_aload_n hx hb dX2_unload_24 rfl (lv_at hl 2 rfl) ?_
                  refine lv_iload_n hx hb dX2_unload_25 rfl (lv_at hl 3 rfl) ?_
                  refine lv_iload hx hb dX2_unload_26 (lv_at hl 0 rfl) ?_
                  refine lv_iadd hx hb dX2_unload_28 ?_
                  refine lv_topi (fun x_39 ex_39 => ?_)
                  refine lv_aload_n hx hb dX2_unload_29 rfl (lv_at hl 1 rfl) ?_
                  refine va_get (D := DG E) (ci := 2) (v := .ref (R h0 7)) (C := RX2) (T := TX2) (N := 8) hx hb hts iw_X2 hown hK.1 (va_one ha_34) 0 rfl rfl 7 (by decide) (hts _ fl_X2_9) (fun _ h9 => h9) rfl dX2_unload_30 ?_
                  refine lv_iload hx hb dX2_unload_33 (lv_at hl 0 rfl) ?_
                  have ha_40 := tx_32 hT hg_7
                  have l_41 : U_33 (R h0 7) 3 = (B (R h0 7) 3) := ((congrFun (hFr_32 (R h0 7) (by rw [hg_7]; decide)) 3)).trans (((congrFun (hFr_21 (R h0 7) (by rw [hg_7]; decide)) 3)).trans ((congrFun (hFr_10 (R h0 7) (by rw [hg_7]; decide)) 3)))
                  refine va_iald (D := DG E) hx hb hK.1 (va_one ha_40) 0 0 rfl rfl (show vp_in (3) 4 from vp_in_iff.mpr ⟨by decide, by decide⟩) dX2_unload_35 ?_
                  refine W.eq (g2 := F0 m 36 ls [.int (B (R h0 7) 3), .int x_39, .ref p0]) (congrArg (fun z => F0 m 36 ls (.int z :: [.int x_39, .ref p0])) l_41) ?_
                  have ha_42 := tx_5 hT hG0
                  refine va_callv (rnV (fun H => TX E G U_33 R H) (As := [.int x_39, .int (B (R h0 7) 3)]) (rest := []) ⟨hx, hb, hml, hown, hts⟩ (x_X1_put l E z0 G hGz U_33 R hW p0 x_39 (B (R h0 7) 3) hG0) (cwV 2 hts (gdV ml_X2_53 im_X1_put se_X1_X1_put in_X1 co_X1_put rfl) rfl rfl rfl (by decide +kernel) ⟨Nat.le_of_ble_eq_true rfl, Nat.le_of_ble_eq_true rfl⟩) hT (fun U hU hW => hK.go hW hS hAz hU) (va_recv hK.1 (va_one ha_42) (ci := 1) (q0 := 0) rfl rfl) rfl rfl hl.1 rfl (lv_room (Nat.le_of_ble_eq_true rfl)) dX2_unload_36 ⟨Nat.le_of_ble_eq_true rfl, Nat.le_of_ble_eq_true rfl⟩) hS (fun q _ h => mL (L' := [14]) (L := [14]) (by decide) h) (fun q h => mL (L' := [14]) (L := [14]) (by decide) h) (fun U_44 t H locs ht hvm hwr_43 hB hz hk hS => ?_)
                  have hT : TX E G U_44 R H := by rw [ht] at hB; exact hB
                  have hWr_43 : TW G U_44 R := hwr_43.1
                  have hW := hWr_43
                  have hFr_43 : Fr G [14] U_33 U_44 := hwr_43.2.1
                  have hCr_43 : C_X1_put G U_33 R p0 x_39 (B (R h0 7) 3) U_44 := hwr_43.2.2
                  refine lv_iinc (v := 4) (lv' := [(4, .int 4), (0, .ref h0), (1, .ref p0), (2, .int p1), (3, .int p2)]) hx hb dX2_unload_39 hl (k := 0) rfl (by decide) (by decide) rfl (fun ls hl => ?_)
                  refine lv_goto (tgt := 3) hx hb dX2_unload_42 (by decide) ?_
                  refine lv_iload hx hb dX2_unload_3 (lv_at hl 0 rfl) ?_
                  refine lv_aload_n hx hb dX2_unload_5 rfl (lv_at hl 1 rfl) ?_
                  have ha_45 := tx_31 hT hG
                  have l_46 : U_44 h0 3 = (B h0 3) := ((congrFun (hFr_43 h0 (by rw [hG]; decide)) 3)).trans (((congrFun (hFr_32 h0 (by rw [hG]; decide)) 3)).trans (((congrFun (hFr_21 h0 (by rw [hG]; decide)) 3)).trans ((congrFun (hFr_10 h0 (by rw [hG]; decide)) 3))))
                  refine va_get (D := DG E) (ci := 2) (v := .int (U_44 h0 3)) (C := RX2) (T := TX2) (N := 8) hx hb hts iw_X2 hown hK.1 (va_one ha_45) 0 rfl rfl 3 (by decide) (hts _ fl_X2_25) (fun _ h9 => h9) rfl dX2_unload_6 ?_
                  refine W.eq (g2 := F0 m 9 ls [.int (B h0 3), .int 4]) (by rw [l_46]) ?_
                  refine lv_icmp_ge (tgt := 45) hx hb dX2_unload_9 (by decide) (fun c_47 => ?_) (fun c_47 => ?_)
                  · simp only [lt_I, le_I, eq_I, i_0, i_1, i_2, i_3, i_4, i_5, i_6, i_7, i_8, i_10, i_12, i_16, i_20, i_23, i_24, i_31, i_32, i_63, i_64, i_m1] at c_47
                    exact W.vret hx hb hr (fun t ht hW9 => ⟨⟨U_44, rfl, ⟨hW, (Fr.c (Fr.c (Fr.c (Fr.c Fr.rf hFr_10 (by decide)) hFr_21 (by decide)) hFr_32 (by decide)) hFr_43 (by decide)), (Or.inr (Or.inr (Or.inr (Or.inr (Or.inr (Or.inr (Or.inr (Or.inr (Or.inl ⟨c_3, c_4, x_6, ex_6, U_11, hFr_10, hCr_10, c_14, c_15, x_17, ex_17, U_22, hFr_21, hCr_21, c_25, c_26, x_28, ex_28, U_33, hFr_32, hCr_32, c_36, c_37, x_39, ex_39, U_44, hFr_43, hCr_43, c_47, rfl⟩)))))))))⟩, (by show TX E G U_44 R t.heap; rw [ht]; exact hT)⟩, hS.F ht⟩) hS.2.2 dX2_unload_45
                  · simp only [lt_I, le_I, eq_I, i_0, i_1, i_2, i_3, i_4, i_5, i_6, i_7, i_8, i_10, i_12, i_16, i_20, i_23, i_24, i_31, i_32, i_63, i_64, i_m1] at c_47
                    refine lv_iload hx hb dX2_unload_12 (lv_at hl 0 rfl) ?_
                    refine lv_iload_n hx hb dX2_unload_14 rfl (lv_at hl 4 rfl) ?_
                    refine lv_icmp_ge (tgt := 45) hx hb dX2_unload_15 (by decide) (fun c_48 => ?_) (fun c_48 => ?_)
                    · simp only [lt_I, le_I, eq_I, i_0, i_1, i_2, i_3, i_4, i_5, i_6, i_7, i_8, i_10, i_12, i_16, i_20, i_23, i_24, i_31, i_32, i_63, i_64, i_m1] at c_48
                      exact W.vret hx hb hr (fun t ht hW9 => ⟨⟨U_44, rfl, ⟨hW, (Fr.c (Fr.c (Fr.c (Fr.c Fr.rf hFr_10 (by decide)) hFr_21 (by decide)) hFr_32 (by decide)) hFr_43 (by decide)), (Or.inr (Or.inr (Or.inr (Or.inr (Or.inr (Or.inr (Or.inr (Or.inr (Or.inr (Or.inl ⟨c_3, c_4, x_6, ex_6, U_11, hFr_10, hCr_10, c_14, c_15, x_17, ex_17, U_22, hFr_21, hCr_21, c_25, c_26, x_28, ex_28, U_33, hFr_32, hCr_32, c_36, c_37, x_39, ex_39, U_44, hFr_43, hCr_43, c_47, c_48, rfl⟩))))))))))⟩, (by show TX E G U_44 R t.heap; rw [ht]; exact hT)⟩, hS.F ht⟩) hS.2.2 dX2_unload_45
                    · simp only [lt_I, le_I, eq_I, i_0, i_1, i_2, i_3, i_4, i_5, i_6, i_7, i_8, i_10, i_12, i_16, i_20, i_23, i_24, i_31, i_32, i_63, i_64, i_m1] at c_48
                      refine lv_iload hx hb dX2_unload_18 (lv_at hl 0 rfl) ?_
                      refine lv_iconst (v := 4) hx hb dX2_unload_20 (by decide) ?_
                      refine lv_icmp_ge (tgt := 45) hx hb dX2_unload_21 (by decide) (fun c_49 => ?_) (fun c_49 => absurd c_49 (by decide))
                      exact W.vret hx hb hr (fun t ht hW9 => ⟨⟨U_44, rfl, ⟨hW, (Fr.c (Fr.c (Fr.c (Fr.c Fr.rf hFr_10 (by decide)) hFr_21 (by decide)) hFr_32 (by decide)) hFr_43 (by decide)), (Or.inr (Or.inr (Or.inr (Or.inr (Or.inr (Or.inr (Or.inr (Or.inr (Or.inr (Or.inr ⟨c_3, c_4, x_6, ex_6, U_11, hFr_10, hCr_10, c_14, c_15, x_17, ex_17, U_22, hFr_21, hCr_21, c_25, c_26, x_28, ex_28, U_33, hFr_32, hCr_32, c_36, c_37, x_39, ex_39, U_44, hFr_43, hCr_43, c_47, c_48, rfl⟩))))))))))⟩, (by show TX E G U_44 R t.heap; rw [ht]; exact hT)⟩, hS.F ht⟩) hS.2.2 dX2_unload_45
theorem dX2_isFirst_0 : decode cX2_isFirst 0 = .ok (.aload_n 0, 1) := by decide +kernel
theorem dX2_isFirst_1 : decode cX2_isFirst 1 = .ok (.getfield 28, 3) := by decide +kernel
theorem dX2_isFirst_4 : decode cX2_isFirst 4 = .ok (.iconst 1, 1) := by decide +kernel
theorem dX2_isFirst_5 : decode cX2_isFirst 5 = .ok (.iand, 1) := by decide +kernel
theorem dX2_isFirst_6 : decode cX2_isFirst 6 = .ok (.ifCond .eq 7, 3) := by decide +kernel
theorem dX2_isFirst_9 : decode cX2_isFirst 9 = .ok (.iconst 1, 1) := by decide +kernel
theorem dX2_isFirst_10 : decode cX2_isFirst 10 = .ok (.goto 4, 3) := by decide +kernel
theorem dX2_isFirst_13 : decode cX2_isFirst 13 = .ok (.iconst 0, 1) := by decide +kernel
theorem dX2_isFirst_14 : decode cX2_isFirst 14 = .ok (.ireturn, 1) := by decide +kernel
set_option maxHeartbeats 8000000 in
set_option maxRecDepth 100000 in
theorem x_X2_isFirst (l : Launch) (E : EE) (z0 : Nat) (G : Nat → Nat) (hGz : ∀ q, G q ≠ 0 → z0 ≤ q) (B : AA) (R : RR) (hW : TW G B R) (h0 : Nat) (hG : G h0 = 31) : Met l yX2_isFirst [Cond.code yX2_isFirst cX2_isFirst 1 (some .boolean)] ({ frames := 0, cells := 0, slots := 0, locals := 0 } : Room) (va_Pc [.ref h0] (fun U => TX E G B R U.heap ∧ KS E z0 U)) (va_Qi (fun (r : Int32) (u : Unit) => (r = 0 ∨ r = 1) ∧ (C_X2_isFirst G B R h0 r)) (fun u t => True) (fun _ : Nat => False)) 0 0 (fun _ : Nat => False) := by
  refine Met.ofW (cc := cX2_isFirst) (maxL := 1) (ret := (some .boolean)) (by decide) rfl ?_
  intro p e s m args below meth c s₁ B9 hml hv
  obtain ⟨rfl, hT, hK⟩ := hv
  have hx := B9.exec
  have hb := B9.bytes
  have hr := B9.returns
  have hts : ∀ w ∈ TS, w.before ([.ref h0] : List Value).toArray s = true := fun w hw => hK.2.1 w hw _
  have hown : s.vm.findClass RX2 = some m.cls := findClass_of_methodNamed B9.named
  have hlocks := B9.notSynchronized
  have hS : va_S (fun _ : Nat => False) s.heap s.heap [] := va_S.rf
  have hAz : ∀ q, (fun _ : Nat => False) q → z0 ≤ q := fun _ h => h.elim
  have hW_0 := hW
  have hl := lv_entry ([.ref h0]) (n := 1) (Nat.le_of_ble_eq_true rfl)
  rw [lg_entry_eq]
  generalize (lg_sl ([.ref h0]) ++ List.replicate (1 - (lg_sl ([.ref h0])).length) Slot.unset).toArray = ls at hl ⊢
  have hl : lv_has ls 1 [(0, .ref h0)] := hl
  refine lv_aload_n hx hb dX2_isFirst_0 rfl (lv_at hl 0 rfl) ?_
  have ha_1 := tx_31 hT hG
  refine va_get (D := DG E) (ci := 2) (v := .int (B h0 4)) (C := RX2) (T := TX2) (N := 8) hx hb hts iw_X2 hown hK.1 (va_one ha_1) 0 rfl rfl 4 (by decide) (hts _ fl_X2_28) (fun _ h9 => h9) rfl dX2_isFirst_1 ?_
  refine lv_iconst (v := 1) hx hb dX2_isFirst_4 (by decide) ?_
  refine lv_iand hx hb dX2_isFirst_5 ?_
  refine lv_topi (fun x_2 ex_2 => ?_)
  refine lv_if_eq (tgt := 13) hx hb dX2_isFirst_6 (by decide) (fun c_3 => ?_) (fun c_3 => ?_)
  · simp only [lt_I, le_I, eq_I, i_0, i_1, i_2, i_3, i_4, i_5, i_6, i_7, i_8, i_10, i_12, i_16, i_20, i_23, i_24, i_31, i_32, i_63, i_64, i_m1] at c_3
    refine lv_iconst (v := 0) hx hb dX2_isFirst_13 (by decide) ?_
    exact W.zret (v := 0) (ty := .boolean) hx hb hr rfl (fun t ht hW9 => ⟨⟨0, (), rfl, ⟨(by decide), (Or.inl ⟨x_2, ex_2, c_3, rfl⟩)⟩, trivial⟩, hS.F ht⟩) hS.2.2 dX2_isFirst_14
  · simp only [lt_I, le_I, eq_I, i_0, i_1, i_2, i_3, i_4, i_5, i_6, i_7, i_8, i_10, i_12, i_16, i_20, i_23, i_24, i_31, i_32, i_63, i_64, i_m1] at c_3
    refine lv_iconst (v := 1) hx hb dX2_isFirst_9 (by decide) ?_
    refine lv_goto (tgt := 14) hx hb dX2_isFirst_10 (by decide) ?_
    exact W.zret (v := 1) (ty := .boolean) hx hb hr rfl (fun t ht hW9 => ⟨⟨1, (), rfl, ⟨(by decide), (Or.inr ⟨x_2, ex_2, c_3, rfl⟩)⟩, trivial⟩, hS.F ht⟩) hS.2.2 dX2_isFirst_14
theorem dX2_isLast_0 : decode cX2_isLast 0 = .ok (.aload_n 0, 1) := by decide +kernel
theorem dX2_isLast_1 : decode cX2_isLast 1 = .ok (.getfield 28, 3) := by decide +kernel
theorem dX2_isLast_4 : decode cX2_isLast 4 = .ok (.iconst 2, 1) := by decide +kernel
theorem dX2_isLast_5 : decode cX2_isLast 5 = .ok (.iand, 1) := by decide +kernel
theorem dX2_isLast_6 : decode cX2_isLast 6 = .ok (.ifCond .eq 7, 3) := by decide +kernel
theorem dX2_isLast_9 : decode cX2_isLast 9 = .ok (.iconst 1, 1) := by decide +kernel
theorem dX2_isLast_10 : decode cX2_isLast 10 = .ok (.goto 4, 3) := by decide +kernel
theorem dX2_isLast_13 : decode cX2_isLast 13 = .ok (.iconst 0, 1) := by decide +kernel
theorem dX2_isLast_14 : decode cX2_isLast 14 = .ok (.ireturn, 1) := by decide +kernel
set_option maxHeartbeats 8000000 in
set_option maxRecDepth 100000 in
theorem x_X2_isLast (l : Launch) (E : EE) (z0 : Nat) (G : Nat → Nat) (hGz : ∀ q, G q ≠ 0 → z0 ≤ q) (B : AA) (R : RR) (hW : TW G B R) (h0 : Nat) (hG : G h0 = 31) : Met l yX2_isLast [Cond.code yX2_isLast cX2_isLast 1 (some .boolean)] ({ frames := 0, cells := 0, slots := 0, locals := 0 } : Room) (va_Pc [.ref h0] (fun U => TX E G B R U.heap ∧ KS E z0 U)) (va_Qi (fun (r : Int32) (u : Unit) => (r = 0 ∨ r = 1) ∧ (C_X2_isLast G B R h0 r)) (fun u t => True) (fun _ : Nat => False)) 0 0 (fun _ : Nat => False) := by
  refine Met.ofW (cc := cX2_isLast) (maxL := 1) (ret := (some .boolean)) (by decide) rfl ?_
  intro p e s m args below meth c s₁ B9 hml hv
  obtain ⟨rfl, hT, hK⟩ := hv
  have hx := B9.exec
  have hb := B9.bytes
  have hr := B9.returns
  have hts : ∀ w ∈ TS, w.before ([.ref h0] : List Value).toArray s = true := fun w hw => hK.2.1 w hw _
  have hown : s.vm.findClass RX2 = some m.cls := findClass_of_methodNamed B9.named
  have hlocks := B9.notSynchronized
  have hS : va_S (fun _ : Nat => False) s.heap s.heap [] := va_S.rf
  have hAz : ∀ q, (fun _ : Nat => False) q → z0 ≤ q := fun _ h => h.elim
  have hW_0 := hW
  have hl := lv_entry ([.ref h0]) (n := 1) (Nat.le_of_ble_eq_true rfl)
  rw [lg_entry_eq]
  generalize (lg_sl ([.ref h0]) ++ List.replicate (1 - (lg_sl ([.ref h0])).length) Slot.unset).toArray = ls at hl ⊢
  have hl : lv_has ls 1 [(0, .ref h0)] := hl
  refine lv_aload_n hx hb dX2_isLast_0 rfl (lv_at hl 0 rfl) ?_
  have ha_1 := tx_31 hT hG
  refine va_get (D := DG E) (ci := 2) (v := .int (B h0 4)) (C := RX2) (T := TX2) (N := 8) hx hb hts iw_X2 hown hK.1 (va_one ha_1) 0 rfl rfl 4 (by decide) (hts _ fl_X2_28) (fun _ h9 => h9) rfl dX2_isLast_1 ?_
  refine lv_iconst (v := 2) hx hb dX2_isLast_4 (by decide) ?_
  refine lv_iand hx hb dX2_isLast_5 ?_
  refine lv_topi (fun x_2 ex_2 => ?_)
  refine lv_if_eq (tgt := 13) hx hb dX2_isLast_6 (by decide) (fun c_3 => ?_) (fun c_3 => ?_)
  · simp only [lt_I, le_I, eq_I, i_0, i_1, i_2, i_3, i_4, i_5, i_6, i_7, i_8, i_10, i_12, i_16, i_20, i_23, i_24, i_31, i_32, i_63, i_64, i_m1] at c_3
    refine lv_iconst (v := 0) hx hb dX2_isLast_13 (by decide) ?_
    exact W.zret (v := 0) (ty := .boolean) hx hb hr rfl (fun t ht hW9 => ⟨⟨0, (), rfl, ⟨(by decide), (Or.inl ⟨x_2, ex_2, c_3, rfl⟩)⟩, trivial⟩, hS.F ht⟩) hS.2.2 dX2_isLast_14
  · simp only [lt_I, le_I, eq_I, i_0, i_1, i_2, i_3, i_4, i_5, i_6, i_7, i_8, i_10, i_12, i_16, i_20, i_23, i_24, i_31, i_32, i_63, i_64, i_m1] at c_3
    refine lv_iconst (v := 1) hx hb dX2_isLast_9 (by decide) ?_
    refine lv_goto (tgt := 14) hx hb dX2_isLast_10 (by decide) ?_
    exact W.zret (v := 1) (ty := .boolean) hx hb hr rfl (fun t ht hW9 => ⟨⟨1, (), rfl, ⟨(by decide), (Or.inr ⟨x_2, ex_2, c_3, rfl⟩)⟩, trivial⟩, hS.F ht⟩) hS.2.2 dX2_isLast_14
theorem dX2_isAllowed_0 : decode cX2_isAllowed 0 = .ok (.aload_n 0, 1) := by decide +kernel
theorem dX2_isAllowed_1 : decode cX2_isAllowed 1 = .ok (.getfield 19, 3) := by decide +kernel
theorem dX2_isAllowed_4 : decode cX2_isAllowed 4 = .ok (.lookupswitch 64 #[(1, 28), (2, 46)], 28) := by decide +kernel
theorem dX2_isAllowed_32 : decode cX2_isAllowed 32 = .ok (.aload_n 1, 1) := by decide +kernel
theorem dX2_isAllowed_33 : decode cX2_isAllowed 33 = .ok (.aload_n 0, 1) := by decide +kernel
theorem dX2_isAllowed_34 : decode cX2_isAllowed 34 = .ok (.getfield 28, 3) := by decide +kernel
theorem dX2_isAllowed_37 : decode cX2_isAllowed 37 = .ok (.aload_n 0, 1) := by decide +kernel
theorem dX2_isAllowed_38 : decode cX2_isAllowed 38 = .ok (.getfield 31, 3) := by decide +kernel
theorem dX2_isAllowed_41 : decode cX2_isAllowed 41 = .ok (.aload_n 0, 1) := by decide +kernel
theorem dX2_isAllowed_42 : decode cX2_isAllowed 42 = .ok (.getfield 25, 3) := by decide +kernel
theorem dX2_isAllowed_45 : decode cX2_isAllowed 45 = .ok (.iconst 1, 1) := by decide +kernel
theorem dX2_isAllowed_46 : decode cX2_isAllowed 46 = .ok (.invokevirtual 57, 3) := by decide +kernel
theorem dX2_isAllowed_49 : decode cX2_isAllowed 49 = .ok (.ireturn, 1) := by decide +kernel
theorem dX2_isAllowed_50 : decode cX2_isAllowed 50 = .ok (.aload_n 1, 1) := by decide +kernel
theorem dX2_isAllowed_51 : decode cX2_isAllowed 51 = .ok (.aload_n 0, 1) := by decide +kernel
theorem dX2_isAllowed_52 : decode cX2_isAllowed 52 = .ok (.getfield 28, 3) := by decide +kernel
theorem dX2_isAllowed_55 : decode cX2_isAllowed 55 = .ok (.aload_n 0, 1) := by decide +kernel
theorem dX2_isAllowed_56 : decode cX2_isAllowed 56 = .ok (.getfield 31, 3) := by decide +kernel
theorem dX2_isAllowed_59 : decode cX2_isAllowed 59 = .ok (.aload_n 0, 1) := by decide +kernel
theorem dX2_isAllowed_60 : decode cX2_isAllowed 60 = .ok (.getfield 25, 3) := by decide +kernel
theorem dX2_isAllowed_63 : decode cX2_isAllowed 63 = .ok (.iconst 2, 1) := by decide +kernel
theorem dX2_isAllowed_64 : decode cX2_isAllowed 64 = .ok (.invokevirtual 57, 3) := by decide +kernel
theorem dX2_isAllowed_67 : decode cX2_isAllowed 67 = .ok (.ireturn, 1) := by decide +kernel
theorem dX2_isAllowed_68 : decode cX2_isAllowed 68 = .ok (.aload_n 1, 1) := by decide +kernel
theorem dX2_isAllowed_69 : decode cX2_isAllowed 69 = .ok (.aload_n 0, 1) := by decide +kernel
theorem dX2_isAllowed_70 : decode cX2_isAllowed 70 = .ok (.getfield 28, 3) := by decide +kernel
theorem dX2_isAllowed_73 : decode cX2_isAllowed 73 = .ok (.aload_n 0, 1) := by decide +kernel
theorem dX2_isAllowed_74 : decode cX2_isAllowed 74 = .ok (.getfield 31, 3) := by decide +kernel
theorem dX2_isAllowed_77 : decode cX2_isAllowed 77 = .ok (.iconst 1, 1) := by decide +kernel
theorem dX2_isAllowed_78 : decode cX2_isAllowed 78 = .ok (.iconst 4, 1) := by decide +kernel
theorem dX2_isAllowed_79 : decode cX2_isAllowed 79 = .ok (.invokevirtual 57, 3) := by decide +kernel
theorem dX2_isAllowed_82 : decode cX2_isAllowed 82 = .ok (.ireturn, 1) := by decide +kernel
set_option maxHeartbeats 8000000 in
set_option maxRecDepth 100000 in
theorem x_X2_isAllowed (l : Launch) (E : EE) (z0 : Nat) (G : Nat → Nat) (hGz : ∀ q, G q ≠ 0 → z0 ≤ q) (B : AA) (R : RR) (hW : TW G B R) (h0 : Nat) (p0 : Nat) (hG : G h0 = 31) (hG0 : G p0 = 5) : Met l yX2_isAllowed [Cond.code yX2_isAllowed cX2_isAllowed 2 (some .boolean)] ({ frames := 2, cells := 0, slots := 0, locals := 47 } : Room) (va_Pc [.ref h0, .ref p0] (fun U => TX E G B R U.heap ∧ KS E z0 U)) (va_Qi (fun (r : Int32) (u : Unit) => (r = 0 ∨ r = 1) ∧ (C_X2_isAllowed G B R h0 p0 r)) (fun u t => True) (fun _ : Nat => False)) 0 0 (fun _ : Nat => False) := by
  refine Met.ofW (cc := cX2_isAllowed) (maxL := 2) (ret := (some .boolean)) (by decide) rfl ?_
  intro p e s m args below meth c s₁ B9 hml hv
  obtain ⟨rfl, hT, hK⟩ := hv
  have hx := B9.exec
  have hb := B9.bytes
  have hr := B9.returns
  have hts : ∀ w ∈ TS, w.before ([.ref h0, .ref p0] : List Value).toArray s = true := fun w hw => hK.2.1 w hw _
  have hown : s.vm.findClass RX2 = some m.cls := findClass_of_methodNamed B9.named
  have hlocks := B9.notSynchronized
  have hS : va_S (fun _ : Nat => False) s.heap s.heap [] := va_S.rf
  have hAz : ∀ q, (fun _ : Nat => False) q → z0 ≤ q := fun _ h => h.elim
  have hW_0 := hW
  have hl := lv_entry ([.ref h0, .ref p0]) (n := 2) (Nat.le_of_ble_eq_true rfl)
  rw [lg_entry_eq]
  generalize (lg_sl ([.ref h0, .ref p0]) ++ List.replicate (2 - (lg_sl ([.ref h0, .ref p0])).length) Slot.unset).toArray = ls at hl ⊢
  have hl : lv_has ls 2 [(0, .ref h0), (1, .ref p0)] := hl
  refine lv_aload_n hx hb dX2_isAllowed_0 rfl (lv_at hl 0 rfl) ?_
  have ha_1 := tx_31 hT hG
  refine va_get (D := DG E) (ci := 2) (v := .int (B h0 1)) (C := RX2) (T := TX2) (N := 8) hx hb hts iw_X2 hown hK.1 (va_one ha_1) 0 rfl rfl 1 (by decide) (hts _ fl_X2_19) (fun _ h9 => h9) rfl dX2_isAllowed_1 ?_
  rcases (show (B h0 1).toInt = 1 ∨ (B h0 1).toInt = 2 ∨ ((B h0 1).toInt ≠ 1 ∧ (B h0 1).toInt ≠ 2) by omega) with c_2 | c_2 | ⟨c_20, c_21⟩
  · refine lv_lookup (tgt := 32) (off := 28) hx hb dX2_isAllowed_4 (by decide) (by rw [c_2]; rfl) (by decide) ?_
    refine lv_aload_n hx hb dX2_isAllowed_32 rfl (lv_at hl 1 rfl) ?_
    refine lv_aload_n hx hb dX2_isAllowed_33 rfl (lv_at hl 0 rfl) ?_
    refine va_get (D := DG E) (ci := 2) (v := .int (B h0 4)) (C := RX2) (T := TX2) (N := 8) hx hb hts iw_X2 hown hK.1 (va_one ha_1) 0 rfl rfl 4 (by decide) (hts _ fl_X2_28) (fun _ h9 => h9) rfl dX2_isAllowed_34 ?_
    refine lv_aload_n hx hb dX2_isAllowed_37 rfl (lv_at hl 0 rfl) ?_
    refine va_get (D := DG E) (ci := 2) (v := .int (B h0 5)) (C := RX2) (T := TX2) (N := 8) hx hb hts iw_X2 hown hK.1 (va_one ha_1) 0 rfl rfl 5 (by decide) (hts _ fl_X2_31) (fun _ h9 => h9) rfl dX2_isAllowed_38 ?_
    refine lv_aload_n hx hb dX2_isAllowed_41 rfl (lv_at hl 0 rfl) ?_
    have hb_3 := (tw_31 hW_0 hG).2.1
    refine va_get (D := DG E) (ci := 2) (v := .int (B h0 3)) (C := RX2) (T := TX2) (N := 8) hx hb hts iw_X2 hown hK.1 (va_one ha_1) 0 rfl rfl 3 (by decide) (hts _ fl_X2_25) (fun _ h9 => h9) rfl dX2_isAllowed_42 ?_
    refine lv_iconst (v := 1) hx hb dX2_isAllowed_45 (by decide) ?_
    have ha_4 := tx_5 hT hG0
    refine va_calli (rnV (fun H => TX E G B R H) (As := [.int (B h0 4), .int (B h0 5), .int (B h0 3), .int 1]) (rest := []) ⟨hx, hb, hml, hown, hts⟩ (x_X1_allows l E z0 G hGz B R hW p0 (B h0 4) (B h0 5) (B h0 3) (1 : Int32) hG0) (cwV 4 hts (gdV ml_X2_57 im_X1_allows se_X1_X1_allows in_X1 co_X1_allows rfl) rfl rfl rfl (by decide +kernel) ⟨Nat.le_of_ble_eq_true rfl, Nat.le_of_ble_eq_true rfl⟩) hT (fun U hU hW => hK.go hW hS hAz hU) (va_recv hK.1 (va_one ha_4) (ci := 1) (q0 := 0) rfl rfl) rfl rfl hl.1 rfl (lv_room (Nat.le_of_ble_eq_true rfl)) dX2_isAllowed_46 ⟨Nat.le_of_ble_eq_true rfl, Nat.le_of_ble_eq_true rfl⟩) hS (fun q _ h => h.elim) (fun q h => h.elim) (fun r_5 _ t H locs ht hvm hwr_5 hB hz hk hS => ?_)
    have hT : TX E G B R H := hT.kept (fun q hq => hk q hq (fun h => h))
    have hbr_5 : r_5 = 0 ∨ r_5 = 1 := hwr_5.1
    have hCr_5 : C_X1_allows G B R p0 (B h0 4) (B h0 5) (B h0 3) (1 : Int32) r_5 := hwr_5.2
    have hzr_5 := s_rng hbr_5
    rcases hbr_5 with rfl | rfl
    · exact W.zret (v := 0) (ty := .boolean) hx hb hr rfl (fun t ht hW9 => ⟨⟨0, (), rfl, ⟨(by decide), (Or.inl ⟨c_2, (0 : Int32), hCr_5, rfl, rfl⟩)⟩, trivial⟩, hS.F ht⟩) hS.2.2 dX2_isAllowed_49
    · exact W.zret (v := 1) (ty := .boolean) hx hb hr rfl (fun t ht hW9 => ⟨⟨1, (), rfl, ⟨(by decide), (Or.inr (Or.inl ⟨c_2, (1 : Int32), hCr_5, rfl, rfl⟩))⟩, trivial⟩, hS.F ht⟩) hS.2.2 dX2_isAllowed_49
  · refine lv_lookup (tgt := 50) (off := 46) hx hb dX2_isAllowed_4 (by decide) (by rw [c_2]; rfl) (by decide) ?_
    refine lv_aload_n hx hb dX2_isAllowed_50 rfl (lv_at hl 1 rfl) ?_
    refine lv_aload_n hx hb dX2_isAllowed_51 rfl (lv_at hl 0 rfl) ?_
    refine va_get (D := DG E) (ci := 2) (v := .int (B h0 4)) (C := RX2) (T := TX2) (N := 8) hx hb hts iw_X2 hown hK.1 (va_one ha_1) 0 rfl rfl 4 (by decide) (hts _ fl_X2_28) (fun _ h9 => h9) rfl dX2_isAllowed_52 ?_
    refine lv_aload_n hx hb dX2_isAllowed_55 rfl (lv_at hl 0 rfl) ?_
    refine va_get (D := DG E) (ci := 2) (v := .int (B h0 5)) (C := RX2) (T := TX2) (N := 8) hx hb hts iw_X2 hown hK.1 (va_one ha_1) 0 rfl rfl 5 (by decide) (hts _ fl_X2_31) (fun _ h9 => h9) rfl dX2_isAllowed_56 ?_
    refine lv_aload_n hx hb dX2_isAllowed_59 rfl (lv_at hl 0 rfl) ?_
    have hb_6 := (tw_31 hW_0 hG).2.1
    refine va_get (D := DG E) (ci := 2) (v := .int (B h0 3)) (C := RX2) (T := TX2) (N := 8) hx hb hts iw_X2 hown hK.1 (va_one ha_1) 0 rfl rfl 3 (by decide) (hts _ fl_X2_25) (fun _ h9 => h9) rfl dX2_isAllowed_60 ?_
    refine lv_iconst (v := 2) hx hb dX2_isAllowed_63 (by decide) ?_
    have ha_7 := tx_5 hT hG0
    refine va_calli (rnV (fun H => TX E G B R H) (As := [.int (B h0 4), .int (B h0 5), .int (B h0 3), .int 2]) (rest := []) ⟨hx, hb, hml, hown, hts⟩ (x_X1_allows l E z0 G hGz B R hW p0 (B h0 4) (B h0 5) (B h0 3) (2 : Int32) hG0) (cwV 4 hts (gdV ml_X2_57 im_X1_allows se_X1_X1_allows in_X1 co_X1_allows rfl) rfl rfl rfl (by decide +kernel) ⟨Nat.le_of_ble_eq_true rfl, Nat.le_of_ble_eq_true rfl⟩) hT (fun U hU hW => hK.go hW hS hAz hU) (va_recv hK.1 (va_one ha_7) (ci := 1) (q0 := 0) rfl rfl) rfl rfl hl.1 rfl (lv_room (Nat.le_of_ble_eq_true rfl)) dX2_isAllowed_64 ⟨Nat.le_of_ble_eq_true rfl, Nat.le_of_ble_eq_true rfl⟩) hS (fun q _ h => h.elim) (fun q h => h.elim) (fun r_8 _ t H locs ht hvm hwr_8 hB hz hk hS => ?_)
    have hT : TX E G B R H := hT.kept (fun q hq => hk q hq (fun h => h))
    have hbr_8 : r_8 = 0 ∨ r_8 = 1 := hwr_8.1
    have hCr_8 : C_X1_allows G B R p0 (B h0 4) (B h0 5) (B h0 3) (2 : Int32) r_8 := hwr_8.2
    have hzr_8 := s_rng hbr_8
    rcases hbr_8 with rfl | rfl
    · exact W.zret (v := 0) (ty := .boolean) hx hb hr rfl (fun t ht hW9 => ⟨⟨0, (), rfl, ⟨(by decide), (Or.inr (Or.inr (Or.inl ⟨c_2, (0 : Int32), hCr_8, rfl, rfl⟩)))⟩, trivial⟩, hS.F ht⟩) hS.2.2 dX2_isAllowed_67
    · exact W.zret (v := 1) (ty := .boolean) hx hb hr rfl (fun t ht hW9 => ⟨⟨1, (), rfl, ⟨(by decide), (Or.inr (Or.inr (Or.inr (Or.inl ⟨c_2, (1 : Int32), hCr_8, rfl, rfl⟩))))⟩, trivial⟩, hS.F ht⟩) hS.2.2 dX2_isAllowed_67
  · refine lv_lookup (tgt := 68) (off := 64) hx hb dX2_isAllowed_4 (by decide) (by simp [Op.lookupswitch.offset, c_20, Ne.symm c_20, c_21, Ne.symm c_21]) (by decide) ?_
    refine lv_aload_n hx hb dX2_isAllowed_68 rfl (lv_at hl 1 rfl) ?_
    refine lv_aload_n hx hb dX2_isAllowed_69 rfl (lv_at hl 0 rfl) ?_
    refine va_get (D := DG E) (ci := 2) (v := .int (B h0 4)) (C := RX2) (T := TX2) (N := 8) hx hb hts iw_X2 hown hK.1 (va_one ha_1) 0 rfl rfl 4 (by decide) (hts _ fl_X2_28) (fun _ h9 => h9) rfl dX2_isAllowed_70 ?_
    refine lv_aload_n hx hb dX2_isAllowed_73 rfl (lv_at hl 0 rfl) ?_
    refine va_get (D := DG E) (ci := 2) (v := .int (B h0 5)) (C := RX2) (T := TX2) (N := 8) hx hb hts iw_X2 hown hK.1 (va_one ha_1) 0 rfl rfl 5 (by decide) (hts _ fl_X2_31) (fun _ h9 => h9) rfl dX2_isAllowed_74 ?_
    refine lv_iconst (v := 1) hx hb dX2_isAllowed_77 (by decide) ?_
    refine lv_iconst (v := 4) hx hb dX2_isAllowed_78 (by decide) ?_
    have ha_9 := tx_5 hT hG0
    refine va_calli (rnV (fun H => TX E G B R H) (As := [.int (B h0 4), .int (B h0 5), .int 1, .int 4]) (rest := []) ⟨hx, hb, hml, hown, hts⟩ (x_X1_allows l E z0 G hGz B R hW p0 (B h0 4) (B h0 5) (1 : Int32) (4 : Int32) hG0) (cwV 4 hts (gdV ml_X2_57 im_X1_allows se_X1_X1_allows in_X1 co_X1_allows rfl) rfl rfl rfl (by decide +kernel) ⟨Nat.le_of_ble_eq_true rfl, Nat.le_of_ble_eq_true rfl⟩) hT (fun U hU hW => hK.go hW hS hAz hU) (va_recv hK.1 (va_one ha_9) (ci := 1) (q0 := 0) rfl rfl) rfl rfl hl.1 rfl (lv_room (Nat.le_of_ble_eq_true rfl)) dX2_isAllowed_79 ⟨Nat.le_of_ble_eq_true rfl, Nat.le_of_ble_eq_true rfl⟩) hS (fun q _ h => h.elim) (fun q h => h.elim) (fun r_10 _ t H locs ht hvm hwr_10 hB hz hk hS => ?_)
    have hT : TX E G B R H := hT.kept (fun q hq => hk q hq (fun h => h))
    have hbr_10 : r_10 = 0 ∨ r_10 = 1 := hwr_10.1
    have hCr_10 : C_X1_allows G B R p0 (B h0 4) (B h0 5) (1 : Int32) (4 : Int32) r_10 := hwr_10.2
    have hzr_10 := s_rng hbr_10
    rcases hbr_10 with rfl | rfl
    · exact W.zret (v := 0) (ty := .boolean) hx hb hr rfl (fun t ht hW9 => ⟨⟨0, (), rfl, ⟨(by decide), (Or.inr (Or.inr (Or.inr (Or.inr (Or.inl ⟨c_20, c_21, (0 : Int32), hCr_10, rfl, rfl⟩)))))⟩, trivial⟩, hS.F ht⟩) hS.2.2 dX2_isAllowed_82
    · exact W.zret (v := 1) (ty := .boolean) hx hb hr rfl (fun t ht hW9 => ⟨⟨1, (), rfl, ⟨(by decide), (Or.inr (Or.inr (Or.inr (Or.inr (Or.inr ⟨c_20, c_21, (1 : Int32), hCr_10, rfl, rfl⟩)))))⟩, trivial⟩, hS.F ht⟩) hS.2.2 dX2_isAllowed_82
theorem dX2_tell_0 : decode cX2_tell 0 = .ok (.iload_n 1, 1) := by decide +kernel
theorem dX2_tell_1 : decode cX2_tell 1 = .ok (.tableswitch 69 0 5 #[39, 44, 49, 54, 59, 64], 39) := by decide +kernel
theorem dX2_tell_40 : decode cX2_tell 40 = .ok (.aload_n 0, 1) := by decide +kernel
theorem dX2_tell_41 : decode cX2_tell 41 = .ok (.getfield 15, 3) := by decide +kernel
theorem dX2_tell_44 : decode cX2_tell 44 = .ok (.ireturn, 1) := by decide +kernel
theorem dX2_tell_45 : decode cX2_tell 45 = .ok (.aload_n 0, 1) := by decide +kernel
theorem dX2_tell_46 : decode cX2_tell 46 = .ok (.getfield 19, 3) := by decide +kernel
theorem dX2_tell_49 : decode cX2_tell 49 = .ok (.ireturn, 1) := by decide +kernel
theorem dX2_tell_50 : decode cX2_tell 50 = .ok (.aload_n 0, 1) := by decide +kernel
theorem dX2_tell_51 : decode cX2_tell 51 = .ok (.getfield 22, 3) := by decide +kernel
theorem dX2_tell_54 : decode cX2_tell 54 = .ok (.ireturn, 1) := by decide +kernel
theorem dX2_tell_55 : decode cX2_tell 55 = .ok (.aload_n 0, 1) := by decide +kernel
theorem dX2_tell_56 : decode cX2_tell 56 = .ok (.getfield 25, 3) := by decide +kernel
theorem dX2_tell_59 : decode cX2_tell 59 = .ok (.ireturn, 1) := by decide +kernel
theorem dX2_tell_60 : decode cX2_tell 60 = .ok (.aload_n 0, 1) := by decide +kernel
theorem dX2_tell_61 : decode cX2_tell 61 = .ok (.getfield 28, 3) := by decide +kernel
theorem dX2_tell_64 : decode cX2_tell 64 = .ok (.ireturn, 1) := by decide +kernel
theorem dX2_tell_65 : decode cX2_tell 65 = .ok (.aload_n 0, 1) := by decide +kernel
theorem dX2_tell_66 : decode cX2_tell 66 = .ok (.getfield 31, 3) := by decide +kernel
theorem dX2_tell_69 : decode cX2_tell 69 = .ok (.ireturn, 1) := by decide +kernel
theorem dX2_tell_70 : decode cX2_tell 70 = .ok (.iconst (-1), 1) := by decide +kernel
theorem dX2_tell_71 : decode cX2_tell 71 = .ok (.ireturn, 1) := by decide +kernel
set_option maxHeartbeats 8000000 in
set_option maxRecDepth 100000 in
theorem x_X2_tell (l : Launch) (E : EE) (z0 : Nat) (G : Nat → Nat) (hGz : ∀ q, G q ≠ 0 → z0 ≤ q) (B : AA) (R : RR) (hW : TW G B R) (h0 : Nat) (p0 : Int32) (hG : G h0 = 31) : Met l yX2_tell [Cond.code yX2_tell cX2_tell 2 (some .int)] ({ frames := 0, cells := 0, slots := 0, locals := 0 } : Room) (va_Pc [.ref h0, .int p0] (fun U => TX E G B R U.heap ∧ KS E z0 U)) (va_Qi (fun (r : Int32) (u : Unit) => (C_X2_tell G B R h0 p0 r)) (fun u t => True) (fun _ : Nat => False)) 0 0 (fun _ : Nat => False) := by
  refine Met.ofW (cc := cX2_tell) (maxL := 2) (ret := (some .int)) (by decide) rfl ?_
  intro p e s m args below meth c s₁ B9 hml hv
  obtain ⟨rfl, hT, hK⟩ := hv
  have hx := B9.exec
  have hb := B9.bytes
  have hr := B9.returns
  have hts : ∀ w ∈ TS, w.before ([.ref h0, .int p0] : List Value).toArray s = true := fun w hw => hK.2.1 w hw _
  have hown : s.vm.findClass RX2 = some m.cls := findClass_of_methodNamed B9.named
  have hlocks := B9.notSynchronized
  have hS : va_S (fun _ : Nat => False) s.heap s.heap [] := va_S.rf
  have hAz : ∀ q, (fun _ : Nat => False) q → z0 ≤ q := fun _ h => h.elim
  have hW_0 := hW
  have hl := lv_entry ([.ref h0, .int p0]) (n := 2) (Nat.le_of_ble_eq_true rfl)
  rw [lg_entry_eq]
  generalize (lg_sl ([.ref h0, .int p0]) ++ List.replicate (2 - (lg_sl ([.ref h0, .int p0])).length) Slot.unset).toArray = ls at hl ⊢
  have hl : lv_has ls 2 [(0, .ref h0), (1, .int p0)] := hl
  refine lv_iload_n hx hb dX2_tell_0 rfl (lv_at hl 1 rfl) ?_
  rcases (show p0.toInt = 0 ∨ p0.toInt = 1 ∨ p0.toInt = 2 ∨ p0.toInt = 3 ∨ p0.toInt = 4 ∨ p0.toInt = 5 ∨ (p0.toInt < 0 ∨ 5 < p0.toInt) by omega) with c_1 | c_1 | c_1 | c_1 | c_1 | c_1 | c_1
  · refine lv_tableIn (tgt := 40) (off := 39) hx hb dX2_tell_1 (by omega) (by omega) (by rw [c_1]; rfl) (by decide) ?_
    refine lv_aload_n hx hb dX2_tell_40 rfl (lv_at hl 0 rfl) ?_
    have ha_2 := tx_31 hT hG
    have hb_3 := (tw_31 hW_0 hG).1
    refine va_get (D := DG E) (ci := 2) (v := .int (B h0 0)) (C := RX2) (T := TX2) (N := 8) hx hb hts iw_X2 hown hK.1 (va_one ha_2) 0 rfl rfl 0 (by decide) (hts _ fl_X2_15) (fun _ h9 => h9) rfl dX2_tell_41 ?_
    exact W.iret (v := (B h0 0)) hx hb hr (fun t ht hW9 => ⟨⟨(B h0 0), (), rfl, (Or.inl ⟨c_1, rfl⟩), trivial⟩, hS.F ht⟩) hS.2.2 dX2_tell_44
  · refine lv_tableIn (tgt := 45) (off := 44) hx hb dX2_tell_1 (by omega) (by omega) (by rw [c_1]; rfl) (by decide) ?_
    refine lv_aload_n hx hb dX2_tell_45 rfl (lv_at hl 0 rfl) ?_
    have ha_4 := tx_31 hT hG
    refine va_get (D := DG E) (ci := 2) (v := .int (B h0 1)) (C := RX2) (T := TX2) (N := 8) hx hb hts iw_X2 hown hK.1 (va_one ha_4) 0 rfl rfl 1 (by decide) (hts _ fl_X2_19) (fun _ h9 => h9) rfl dX2_tell_46 ?_
    exact W.iret (v := (B h0 1)) hx hb hr (fun t ht hW9 => ⟨⟨(B h0 1), (), rfl, (Or.inr (Or.inl ⟨c_1, rfl⟩)), trivial⟩, hS.F ht⟩) hS.2.2 dX2_tell_49
  · refine lv_tableIn (tgt := 50) (off := 49) hx hb dX2_tell_1 (by omega) (by omega) (by rw [c_1]; rfl) (by decide) ?_
    refine lv_aload_n hx hb dX2_tell_50 rfl (lv_at hl 0 rfl) ?_
    have ha_5 := tx_31 hT hG
    refine va_get (D := DG E) (ci := 2) (v := .int (B h0 2)) (C := RX2) (T := TX2) (N := 8) hx hb hts iw_X2 hown hK.1 (va_one ha_5) 0 rfl rfl 2 (by decide) (hts _ fl_X2_22) (fun _ h9 => h9) rfl dX2_tell_51 ?_
    exact W.iret (v := (B h0 2)) hx hb hr (fun t ht hW9 => ⟨⟨(B h0 2), (), rfl, (Or.inr (Or.inr (Or.inl ⟨c_1, rfl⟩))), trivial⟩, hS.F ht⟩) hS.2.2 dX2_tell_54
  · refine lv_tableIn (tgt := 55) (off := 54) hx hb dX2_tell_1 (by omega) (by omega) (by rw [c_1]; rfl) (by decide) ?_
    refine lv_aload_n hx hb dX2_tell_55 rfl (lv_at hl 0 rfl) ?_
    have ha_6 := tx_31 hT hG
    have hb_7 := (tw_31 hW_0 hG).2.1
    refine va_get (D := DG E) (ci := 2) (v := .int (B h0 3)) (C := RX2) (T := TX2) (N := 8) hx hb hts iw_X2 hown hK.1 (va_one ha_6) 0 rfl rfl 3 (by decide) (hts _ fl_X2_25) (fun _ h9 => h9) rfl dX2_tell_56 ?_
    exact W.iret (v := (B h0 3)) hx hb hr (fun t ht hW9 => ⟨⟨(B h0 3), (), rfl, (Or.inr (Or.inr (Or.inr (Or.inl ⟨c_1, rfl⟩)))), trivial⟩, hS.F ht⟩) hS.2.2 dX2_tell_59
  · refine lv_tableIn (tgt := 60) (off := 59) hx hb dX2_tell_1 (by omega) (by omega) (by rw [c_1]; rfl) (by decide) ?_
    refine lv_aload_n hx hb dX2_tell_60 rfl (lv_at hl 0 rfl) ?_
    have ha_8 := tx_31 hT hG
    refine va_get (D := DG E) (ci := 2) (v := .int (B h0 4)) (C := RX2) (T := TX2) (N := 8) hx hb hts iw_X2 hown hK.1 (va_one ha_8) 0 rfl rfl 4 (by decide) (hts _ fl_X2_28) (fun _ h9 => h9) rfl dX2_tell_61 ?_
    exact W.iret (v := (B h0 4)) hx hb hr (fun t ht hW9 => ⟨⟨(B h0 4), (), rfl, (Or.inr (Or.inr (Or.inr (Or.inr (Or.inl ⟨c_1, rfl⟩))))), trivial⟩, hS.F ht⟩) hS.2.2 dX2_tell_64
  · refine lv_tableIn (tgt := 65) (off := 64) hx hb dX2_tell_1 (by omega) (by omega) (by rw [c_1]; rfl) (by decide) ?_
    refine lv_aload_n hx hb dX2_tell_65 rfl (lv_at hl 0 rfl) ?_
    have ha_9 := tx_31 hT hG
    refine va_get (D := DG E) (ci := 2) (v := .int (B h0 5)) (C := RX2) (T := TX2) (N := 8) hx hb hts iw_X2 hown hK.1 (va_one ha_9) 0 rfl rfl 5 (by decide) (hts _ fl_X2_31) (fun _ h9 => h9) rfl dX2_tell_66 ?_
    exact W.iret (v := (B h0 5)) hx hb hr (fun t ht hW9 => ⟨⟨(B h0 5), (), rfl, (Or.inr (Or.inr (Or.inr (Or.inr (Or.inr (Or.inl ⟨c_1, rfl⟩)))))), trivial⟩, hS.F ht⟩) hS.2.2 dX2_tell_69
  · refine lv_tableOut (tgt := 70) hx hb dX2_tell_1 c_1 (by decide) ?_
    refine lv_iconst (v := (-1)) hx hb dX2_tell_70 (by decide) ?_
    exact W.iret (v := (-1)) hx hb hr (fun t ht hW9 => ⟨⟨(-1), (), rfl, (Or.inr (Or.inr (Or.inr (Or.inr (Or.inr (Or.inr ⟨c_1, rfl⟩)))))), trivial⟩, hS.F ht⟩) hS.2.2 dX2_tell_71

