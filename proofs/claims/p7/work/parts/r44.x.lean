theorem dX0_has_0 : decode cX0_has 0 = .ok (.iload_n 1, 1) := by decide +kernel
theorem dX0_has_1 : decode cX0_has 1 = .ok (.ifCond .lt 15, 3) := by decide +kernel
theorem dX0_has_4 : decode cX0_has 4 = .ok (.iload_n 1, 1) := by decide +kernel
theorem dX0_has_5 : decode cX0_has 5 = .ok (.aload_n 0, 1) := by decide +kernel
theorem dX0_has_6 : decode cX0_has 6 = .ok (.getfield 25, 3) := by decide +kernel
theorem dX0_has_9 : decode cX0_has 9 = .ok (.if_icmp .ge 7, 3) := by decide +kernel
theorem dX0_has_12 : decode cX0_has 12 = .ok (.iconst 1, 1) := by decide +kernel
theorem dX0_has_13 : decode cX0_has 13 = .ok (.goto 4, 3) := by decide +kernel
theorem dX0_has_16 : decode cX0_has 16 = .ok (.iconst 0, 1) := by decide +kernel
theorem dX0_has_17 : decode cX0_has 17 = .ok (.ireturn, 1) := by decide +kernel
set_option maxHeartbeats 8000000 in
set_option maxRecDepth 100000 in
theorem x_X0_has (l : Launch) (E : EE) (z0 : Nat) (G : Nat → Nat) (hGz : ∀ q, G q ≠ 0 → z0 ≤ q) (B : AA) (R : RR) (hW : TW G B R) (h0 : Nat) (p0 : Int32) (hG : G h0 = 4) : Met l yX0_has [Cond.code yX0_has cX0_has 2 (some .boolean)] ({ frames := 0, cells := 0, slots := 0, locals := 0 } : Room) (va_Pc [.ref h0, .int p0] (fun U => TX E G B R U.heap ∧ KS E z0 U)) (va_Qi (fun (r : Int32) (u : Unit) => (r = 0 ∨ r = 1) ∧ (r.toInt = 0 ∨ (0 ≤ p0.toInt ∧ p0.toInt < (B h0 1).toInt ∧ (B h0 1).toInt ≤ 24)) ∧ (C_X0_has G B R h0 p0 r)) (fun u t => True) (fun _ : Nat => False)) 0 0 (fun _ : Nat => False) := by
  refine Met.ofW (cc := cX0_has) (maxL := 2) (ret := (some .boolean)) (by decide) rfl ?_
  intro p e s m args below meth c s₁ B9 hml hv
  obtain ⟨rfl, hT, hK⟩ := hv
  have hx := B9.exec
  have hb := B9.bytes
  have hr := B9.returns
  have hts : ∀ w ∈ TS, w.before ([.ref h0, .int p0] : List Value).toArray s = true := fun w hw => hK.2.1 w hw _
  have hown : s.vm.findClass RX0 = some m.cls := findClass_of_methodNamed B9.named
  have hlocks := B9.notSynchronized
  have hS : va_S (fun _ : Nat => False) s.heap s.heap [] := va_S.rf
  have hAz : ∀ q, (fun _ : Nat => False) q → z0 ≤ q := fun _ h => h.elim
  have hW_0 := hW
  have hl := lv_entry ([.ref h0, .int p0]) (n := 2) (Nat.le_of_ble_eq_true rfl)
  rw [lg_entry_eq]
  generalize (lg_sl ([.ref h0, .int p0]) ++ List.replicate (2 - (lg_sl ([.ref h0, .int p0])).length) Slot.unset).toArray = ls at hl ⊢
  have hl : lv_has ls 2 [(0, .ref h0), (1, .int p0)] := hl
  refine lv_iload_n hx hb dX0_has_0 rfl (lv_at hl 1 rfl) ?_
  refine lv_if_lt (tgt := 16) hx hb dX0_has_1 (by decide) (fun c_1 => ?_) (fun c_1 => ?_)
  · simp only [lt_I, le_I, eq_I, i_0, i_1, i_2, i_3, i_4, i_5, i_6, i_7, i_8, i_10, i_12, i_16, i_20, i_23, i_24, i_31, i_32, i_63, i_64, i_m1] at c_1
    refine lv_iconst (v := 0) hx hb dX0_has_16 (by decide) ?_
    exact W.zret (v := 0) (ty := .boolean) hx hb hr rfl (fun t ht hW9 => ⟨⟨0, (), rfl, ⟨(by decide), (by show (0 : Int32).toInt = 0 ∨ (0 ≤ p0.toInt ∧ p0.toInt < (B h0 1).toInt ∧ (B h0 1).toInt ≤ 24); have := i_0; omega), (Or.inl ⟨c_1, rfl⟩)⟩, trivial⟩, hS.F ht⟩) hS.2.2 dX0_has_17
  · simp only [lt_I, le_I, eq_I, i_0, i_1, i_2, i_3, i_4, i_5, i_6, i_7, i_8, i_10, i_12, i_16, i_20, i_23, i_24, i_31, i_32, i_63, i_64, i_m1] at c_1
    refine lv_iload_n hx hb dX0_has_4 rfl (lv_at hl 1 rfl) ?_
    refine lv_aload_n hx hb dX0_has_5 rfl (lv_at hl 0 rfl) ?_
    have ha_2 := tx_4 hT hG
    have hb_3 := (tw_4 hW_0 hG).2.1
    refine va_get (D := DG E) (ci := 0) (v := .int (B h0 1)) (C := RX0) (T := TX0) (N := 4) hx hb hts iw_X0 hown hK.1 (va_one ha_2) 0 rfl rfl 1 (by decide) (hts _ fl_X0_25) (fun _ h9 => h9) rfl dX0_has_6 ?_
    refine lv_icmp_ge (tgt := 16) hx hb dX0_has_9 (by decide) (fun c_4 => ?_) (fun c_4 => ?_)
    · simp only [lt_I, le_I, eq_I, i_0, i_1, i_2, i_3, i_4, i_5, i_6, i_7, i_8, i_10, i_12, i_16, i_20, i_23, i_24, i_31, i_32, i_63, i_64, i_m1] at c_4
      refine lv_iconst (v := 0) hx hb dX0_has_16 (by decide) ?_
      exact W.zret (v := 0) (ty := .boolean) hx hb hr rfl (fun t ht hW9 => ⟨⟨0, (), rfl, ⟨(by decide), (by show (0 : Int32).toInt = 0 ∨ (0 ≤ p0.toInt ∧ p0.toInt < (B h0 1).toInt ∧ (B h0 1).toInt ≤ 24); have := i_0; omega), (Or.inr (Or.inl ⟨c_1, c_4, rfl⟩))⟩, trivial⟩, hS.F ht⟩) hS.2.2 dX0_has_17
    · simp only [lt_I, le_I, eq_I, i_0, i_1, i_2, i_3, i_4, i_5, i_6, i_7, i_8, i_10, i_12, i_16, i_20, i_23, i_24, i_31, i_32, i_63, i_64, i_m1] at c_4
      refine lv_iconst (v := 1) hx hb dX0_has_12 (by decide) ?_
      refine lv_goto (tgt := 17) hx hb dX0_has_13 (by decide) ?_
      exact W.zret (v := 1) (ty := .boolean) hx hb hr rfl (fun t ht hW9 => ⟨⟨1, (), rfl, ⟨(by decide), (by show (1 : Int32).toInt = 0 ∨ (0 ≤ p0.toInt ∧ p0.toInt < (B h0 1).toInt ∧ (B h0 1).toInt ≤ 24); have := i_1; omega), (Or.inr (Or.inr ⟨c_1, c_4, rfl⟩))⟩, trivial⟩, hS.F ht⟩) hS.2.2 dX0_has_17
theorem dX0_isFull_0 : decode cX0_isFull 0 = .ok (.aload_n 0, 1) := by decide +kernel
theorem dX0_isFull_1 : decode cX0_isFull 1 = .ok (.getfield 25, 3) := by decide +kernel
theorem dX0_isFull_4 : decode cX0_isFull 4 = .ok (.bipush 24, 2) := by decide +kernel
theorem dX0_isFull_6 : decode cX0_isFull 6 = .ok (.if_icmp .ne 7, 3) := by decide +kernel
theorem dX0_isFull_9 : decode cX0_isFull 9 = .ok (.iconst 1, 1) := by decide +kernel
theorem dX0_isFull_10 : decode cX0_isFull 10 = .ok (.goto 4, 3) := by decide +kernel
theorem dX0_isFull_13 : decode cX0_isFull 13 = .ok (.iconst 0, 1) := by decide +kernel
theorem dX0_isFull_14 : decode cX0_isFull 14 = .ok (.ireturn, 1) := by decide +kernel
set_option maxHeartbeats 8000000 in
set_option maxRecDepth 100000 in
theorem x_X0_isFull (l : Launch) (E : EE) (z0 : Nat) (G : Nat → Nat) (hGz : ∀ q, G q ≠ 0 → z0 ≤ q) (B : AA) (R : RR) (hW : TW G B R) (h0 : Nat) (hG : G h0 = 4) : Met l yX0_isFull [Cond.code yX0_isFull cX0_isFull 1 (some .boolean)] ({ frames := 0, cells := 0, slots := 0, locals := 0 } : Room) (va_Pc [.ref h0] (fun U => TX E G B R U.heap ∧ KS E z0 U)) (va_Qi (fun (r : Int32) (u : Unit) => (r = 0 ∨ r = 1) ∧ (r.toInt = 1 ∨ (B h0 1).toInt ≤ 23) ∧ (C_X0_isFull G B R h0 r)) (fun u t => True) (fun _ : Nat => False)) 0 0 (fun _ : Nat => False) := by
  refine Met.ofW (cc := cX0_isFull) (maxL := 1) (ret := (some .boolean)) (by decide) rfl ?_
  intro p e s m args below meth c s₁ B9 hml hv
  obtain ⟨rfl, hT, hK⟩ := hv
  have hx := B9.exec
  have hb := B9.bytes
  have hr := B9.returns
  have hts : ∀ w ∈ TS, w.before ([.ref h0] : List Value).toArray s = true := fun w hw => hK.2.1 w hw _
  have hown : s.vm.findClass RX0 = some m.cls := findClass_of_methodNamed B9.named
  have hlocks := B9.notSynchronized
  have hS : va_S (fun _ : Nat => False) s.heap s.heap [] := va_S.rf
  have hAz : ∀ q, (fun _ : Nat => False) q → z0 ≤ q := fun _ h => h.elim
  have hW_0 := hW
  have hl := lv_entry ([.ref h0]) (n := 1) (Nat.le_of_ble_eq_true rfl)
  rw [lg_entry_eq]
  generalize (lg_sl ([.ref h0]) ++ List.replicate (1 - (lg_sl ([.ref h0])).length) Slot.unset).toArray = ls at hl ⊢
  have hl : lv_has ls 1 [(0, .ref h0)] := hl
  refine lv_aload_n hx hb dX0_isFull_0 rfl (lv_at hl 0 rfl) ?_
  have ha_1 := tx_4 hT hG
  have hb_2 := (tw_4 hW_0 hG).2.1
  refine va_get (D := DG E) (ci := 0) (v := .int (B h0 1)) (C := RX0) (T := TX0) (N := 4) hx hb hts iw_X0 hown hK.1 (va_one ha_1) 0 rfl rfl 1 (by decide) (hts _ fl_X0_25) (fun _ h9 => h9) rfl dX0_isFull_1 ?_
  refine lv_bipush (v := 24) hx hb dX0_isFull_4 (by decide) ?_
  refine lv_icmp_ne (tgt := 13) hx hb dX0_isFull_6 (by decide) (fun c_3 => ?_) (fun c_3 => ?_)
  · simp only [lt_I, le_I, eq_I, i_0, i_1, i_2, i_3, i_4, i_5, i_6, i_7, i_8, i_10, i_12, i_16, i_20, i_23, i_24, i_31, i_32, i_63, i_64, i_m1] at c_3
    refine lv_iconst (v := 0) hx hb dX0_isFull_13 (by decide) ?_
    exact W.zret (v := 0) (ty := .boolean) hx hb hr rfl (fun t ht hW9 => ⟨⟨0, (), rfl, ⟨(by decide), (by show (0 : Int32).toInt = 1 ∨ (B h0 1).toInt ≤ 23; have := i_0; omega), (Or.inl ⟨c_3, rfl⟩)⟩, trivial⟩, hS.F ht⟩) hS.2.2 dX0_isFull_14
  · simp only [lt_I, le_I, eq_I, i_0, i_1, i_2, i_3, i_4, i_5, i_6, i_7, i_8, i_10, i_12, i_16, i_20, i_23, i_24, i_31, i_32, i_63, i_64, i_m1] at c_3
    refine lv_iconst (v := 1) hx hb dX0_isFull_9 (by decide) ?_
    refine lv_goto (tgt := 14) hx hb dX0_isFull_10 (by decide) ?_
    exact W.zret (v := 1) (ty := .boolean) hx hb hr rfl (fun t ht hW9 => ⟨⟨1, (), rfl, ⟨(by decide), (by show (1 : Int32).toInt = 1 ∨ (B h0 1).toInt ≤ 23; have := i_1; omega), (Or.inr ⟨c_3, rfl⟩)⟩, trivial⟩, hS.F ht⟩) hS.2.2 dX0_isFull_14
theorem dX0_carry_0 : decode cX0_carry 0 = .ok (.aload_n 0, 1) := by decide +kernel
theorem dX0_carry_1 : decode cX0_carry 1 = .ok (.invokevirtual 29, 3) := by decide +kernel
theorem dX0_carry_4 : decode cX0_carry 4 = .ok (.ifCond .eq 10, 3) := by decide +kernel
theorem dX0_carry_7 : decode cX0_carry 7 = .ok (.aload_n 0, 1) := by decide +kernel
theorem dX0_carry_8 : decode cX0_carry 8 = .ok (.getfield 22, 3) := by decide +kernel
theorem dX0_carry_11 : decode cX0_carry 11 = .ok (.goto 19, 3) := by decide +kernel
theorem dX0_carry_14 : decode cX0_carry 14 = .ok (.aload_n 0, 1) := by decide +kernel
theorem dX0_carry_15 : decode cX0_carry 15 = .ok (.getfield 11, 3) := by decide +kernel
theorem dX0_carry_18 : decode cX0_carry 18 = .ok (.aload_n 0, 1) := by decide +kernel
theorem dX0_carry_19 : decode cX0_carry 19 = .ok (.dup, 1) := by decide +kernel
theorem dX0_carry_20 : decode cX0_carry 20 = .ok (.getfield 25, 3) := by decide +kernel
theorem dX0_carry_23 : decode cX0_carry 23 = .ok (.dup_x1, 1) := by decide +kernel
theorem dX0_carry_24 : decode cX0_carry 24 = .ok (.iconst 1, 1) := by decide +kernel
theorem dX0_carry_25 : decode cX0_carry 25 = .ok (.iadd, 1) := by decide +kernel
theorem dX0_carry_26 : decode cX0_carry 26 = .ok (.putfield 25, 3) := by decide +kernel
theorem dX0_carry_29 : decode cX0_carry 29 = .ok (.aaload, 1) := by decide +kernel
theorem dX0_carry_30 : decode cX0_carry 30 = .ok (.astore 4, 2) := by decide +kernel
theorem dX0_carry_32 : decode cX0_carry 32 = .ok (.aload 4, 2) := by decide +kernel
theorem dX0_carry_34 : decode cX0_carry 34 = .ok (.iload_n 1, 1) := by decide +kernel
theorem dX0_carry_35 : decode cX0_carry 35 = .ok (.iload_n 2, 1) := by decide +kernel
theorem dX0_carry_36 : decode cX0_carry 36 = .ok (.iload_n 3, 1) := by decide +kernel
theorem dX0_carry_37 : decode cX0_carry 37 = .ok (.invokevirtual 33, 3) := by decide +kernel
theorem dX0_carry_40 : decode cX0_carry 40 = .ok (.aload 4, 2) := by decide +kernel
theorem dX0_carry_42 : decode cX0_carry 42 = .ok (.areturn, 1) := by decide +kernel
set_option maxHeartbeats 8000000 in
set_option maxRecDepth 100000 in
theorem x_X0_carry (l : Launch) (E : EE) (z0 : Nat) (G : Nat → Nat) (hGz : ∀ q, G q ≠ 0 → z0 ≤ q) (B : AA) (R : RR) (hW : TW G B R) (h0 : Nat) (p0 : Int32) (p1 : Int32) (p2 : Int32) (hG : G h0 = 4) (hy0 : 0 ≤ p0.toInt ∧ p0.toInt ≤ 3) : Met l yX0_carry [Cond.code yX0_carry cX0_carry 5 (some (.object "RemoteReach$Packet"))] ({ frames := 1, cells := 0, slots := 0, locals := 23 } : Room) (va_Pc [.ref h0, .int p0, .int p1, .int p2] (fun U => TX E G B R U.heap ∧ KS E z0 U)) (va_Qr (fun (u : AA) => True) (fun u ra t => ((G ra = 31) ∧ (TW G u R) ∧ (Fr G ([4, 31] : List Nat) B u) ∧ (C_X0_carry G B R h0 p0 p1 p2 u ra)) ∧ TX E G u R t.heap) (fun q : Nat => G q ∈ ([4, 31] : List Nat))) 0 0 (fun q : Nat => G q ∈ ([4, 31] : List Nat)) := by
  refine Met.ofW (cc := cX0_carry) (maxL := 5) (ret := (some (.object "RemoteReach$Packet"))) (by decide) rfl ?_
  intro p e s m args below meth c s₁ B9 hml hv
  obtain ⟨rfl, hT, hK⟩ := hv
  have hx := B9.exec
  have hb := B9.bytes
  have hr := B9.returns
  have hts : ∀ w ∈ TS, w.before ([.ref h0, .int p0, .int p1, .int p2] : List Value).toArray s = true := fun w hw => hK.2.1 w hw _
  have hown : s.vm.findClass RX0 = some m.cls := findClass_of_methodNamed B9.named
  have hlocks := B9.notSynchronized
  have hS : va_S (fun q : Nat => G q ∈ ([4, 31] : List Nat)) s.heap s.heap [] := va_S.rf
  have hAz : ∀ q, (fun q : Nat => G q ∈ ([4, 31] : List Nat)) q → z0 ≤ q := zL hGz (by decide)
  have hW_0 := hW
  have hl := lv_entry ([.ref h0, .int p0, .int p1, .int p2]) (n := 5) (Nat.le_of_ble_eq_true rfl)
  rw [lg_entry_eq]
  generalize (lg_sl ([.ref h0, .int p0, .int p1, .int p2]) ++ List.replicate (5 - (lg_sl ([.ref h0, .int p0, .int p1, .int p2])).length) Slot.unset).toArray = ls at hl ⊢
  have hl : lv_has ls 5 [(0, .ref h0), (1, .int p0), (2, .int p1), (3, .int p2)] := hl
  refine lv_aload_n hx hb dX0_carry_0 rfl (lv_at hl 0 rfl) ?_
  have ha_1 := tx_4 hT hG
  refine va_calli (rnV (fun H => TX E G B R H) (As := []) (rest := []) ⟨hx, hb, hml, hown, hts⟩ (x_X0_isFull l E z0 G hGz B R hW h0 hG) (cwV 0 hts (gdV ml_X0_29 im_X0_isFull se_X0_X0_isFull in_X0 co_X0_isFull rfl) rfl rfl rfl (by decide +kernel) ⟨Nat.le_of_ble_eq_true rfl, Nat.le_of_ble_eq_true rfl⟩) hT (fun U hU hW => hK.go hW hS hAz hU) (va_recv hK.1 (va_one ha_1) (ci := 0) (q0 := 0) rfl rfl) rfl rfl hl.1 rfl (lv_room (Nat.le_of_ble_eq_true rfl)) dX0_carry_1 ⟨Nat.le_of_ble_eq_true rfl, Nat.le_of_ble_eq_true rfl⟩) hS (fun q _ h => h.elim) (fun q h => h.elim) (fun r_2 _ t H locs ht hvm hwr_2 hB hz hk hS => ?_)
  have hT : TX E G B R H := hT.kept (fun q hq => hk q hq (fun h => h))
  have hbr_2 : r_2 = 0 ∨ r_2 = 1 := hwr_2.1
  have hp0r_2 : r_2.toInt = 1 ∨ (B h0 1).toInt ≤ 23 := hwr_2.2.1
  have hCr_2 : C_X0_isFull G B R h0 r_2 := hwr_2.2.2
  have hzr_2 := s_rng hbr_2
  refine lv_if_eq (tgt := 14) hx hb dX0_carry_4 (by decide) (fun c_3 => ?_) (fun c_3 => ?_)
  · simp only [lt_I, le_I, eq_I, i_0, i_1, i_2, i_3, i_4, i_5, i_6, i_7, i_8, i_10, i_12, i_16, i_20, i_23, i_24, i_31, i_32, i_63, i_64, i_m1] at c_3
    refine lv_aload_n hx hb dX0_carry_14 rfl (lv_at hl 0 rfl) ?_
    have ha_4 := tx_4 hT hG
    have hg_5 : G (R h0 0) = 30 := (tw_4 hW hG).1
    refine va_get (D := DG E) (ci := 0) (v := .ref (R h0 0)) (C := RX0) (T := TX0) (N := 4) hx hb hts iw_X0 hown hK.1 (va_one ha_4) 0 rfl rfl 0 (by decide) (hts _ fl_X0_11) (fun _ h9 => h9) rfl dX0_carry_15 ?_
    refine lv_aload_n hx hb dX0_carry_18 rfl (lv_at hl 0 rfl) ?_
    refine lv_dup hx hb dX0_carry_19 rfl ?_
    have hb_6 := (tw_4 hW_0 hG).2.1
    refine va_get (D := DG E) (ci := 0) (v := .int (B h0 1)) (C := RX0) (T := TX0) (N := 4) hx hb hts iw_X0 hown hK.1 (va_one ha_4) 0 rfl rfl 1 (by decide) (hts _ fl_X0_25) (fun _ h9 => h9) rfl dX0_carry_20 ?_
    refine lv_dup_x1 hx hb dX0_carry_23 rfl rfl ?_
    refine lv_iconst (v := 1) hx hb dX0_carry_24 (by decide) ?_
    refine lv_iadd hx hb dX0_carry_25 ?_
    refine lv_topi (fun x_7 ex_7 => ?_)
    have fx_7 : x_7.toInt = (B h0 1).toInt + 1 := by have h9 := s_add (x := (B h0 1)) (y := 1) (by rw [i_1]; omega) (by rw [i_1]; omega); rw [i_1] at h9; rw [ex_7]; exact h9
    have h9_8 := tw_4 hW_0 hG
    refine rr_put (D := DG E) (ci := 0) (v := .int x_7) (ty := .int) (C := RX0) (T := TX0) (N := 4) hx hb hts iw_X0 tyX0 tyX0_ok nmX0 hown hK.1 ha_4 hS (by show G h0 ∈ ([4, 31] : List Nat); rw [hG]; decide) rfl 1 (by decide) (hts _ fl_X0_25) (fun _ h9 => h9) rfl (by decide +kernel) rfl rfl (Nat.le_of_ble_eq_true rfl) dX0_carry_26 (fun H locs hn ho hz hS => ?_)
    obtain ⟨B_9, eB_9⟩ : ∃ z : AA, z = uA B h0 (upd (B h0) 1 x_7) := ⟨_, rfl⟩
    have sB_9 : B_9 h0 1 = x_7 := by rw [eB_9, uA_s]; exact upd_s
    have nB_9 : ∀ k, k ≠ 1 → B_9 h0 k = B h0 k := fun k hk => by rw [eB_9, uA_s]; exact upd_n hk
    have fB_9 : ∀ c, G c ≠ 4 → B_9 c = B c := fun c hc => by rw [eB_9]; exact uA_n (fun e => hc (by rw [e]; exact hG))
    have hT : TX E G B_9 R H := by rw [eB_9]; exact hT.w (by rw [hG]; exact hn) ho
    have hWB_9 : TW G B_9 R := by rw [eB_9]; exact hW_0.w (by rw [hG]; exact ⟨h9_8.1, (show 0 ≤ (x_7 : Int32).toInt ∧ (x_7 : Int32).toInt ≤ 24 from by omega), h9_8.2.2.1, h9_8.2.2.2⟩)
    have hW := hWB_9
    have ha_10 := tx_30 hT hg_5
    have hi_11 : vp_in (B h0 1) 24 := vp_in_iff.mpr (by omega)
    obtain ⟨n_12, hn_12, en_12⟩ := x_nat (x := (B h0 1)) (by omega)
    have hg_13 : G (R (R h0 0) n_12) = 31 := (tw_30 hW hg_5) n_12 (by omega)
    refine va_aldq (D := DG E) hx hb hK.1 (va_one ha_10) 0 7 rfl rfl hi_11 dX0_carry_29 ?_
    refine W.eq (g2 := F0 m 30 ls [.ref (R (R h0 0) n_12)]) (by rw [en_12]; rfl) ?_
    refine lv_astore (lv' := [(4, .ref (R (R h0 0) n_12)), (0, .ref h0), (1, .int p0), (2, .int p1), (3, .int p2)]) hx hb dX0_carry_30 hl (by decide) rfl (fun ls hl => ?_)
    refine lv_aload hx hb dX0_carry_32 (lv_at hl 0 rfl) ?_
    refine lv_iload_n hx hb dX0_carry_34 rfl (lv_at hl 2 rfl) ?_
    refine lv_iload_n hx hb dX0_carry_35 rfl (lv_at hl 3 rfl) ?_
    refine lv_iload_n hx hb dX0_carry_36 rfl (lv_at hl 4 rfl) ?_
    have ha_14 := tx_31 hT hg_13
    refine va_callv (rnV (fun H => TX E G B_9 R H) (As := [.int p0, .int p1, .int p2]) (rest := []) ⟨hx, hb, hml, hown, hts⟩ (x_X2_become l E z0 G hGz B_9 R hW (R (R h0 0) n_12) p0 p1 p2 hg_13 (show 0 ≤ p0.toInt ∧ p0.toInt ≤ 3 from by first | decide | omega)) (cwV 3 hts (gdV ml_X0_33 im_X2_become se_X2_X2_become in_X2 co_X2_become rfl) rfl rfl rfl (by decide +kernel) ⟨Nat.le_of_ble_eq_true rfl, Nat.le_of_ble_eq_true rfl⟩) hT (fun U hU hW => hK.go hW hS hAz hU) (va_recv hK.1 (va_one ha_14) (ci := 2) (q0 := 0) rfl rfl) rfl rfl hl.1 rfl (lv_room (Nat.le_of_ble_eq_true rfl)) dX0_carry_37 ⟨Nat.le_of_ble_eq_true rfl, Nat.le_of_ble_eq_true rfl⟩) hS (fun q _ h => mL (L' := [31]) (L := [4, 31]) (by decide) h) (fun q h => mL (L' := [31]) (L := [4, 31]) (by decide) h) (fun U_16 t H locs ht hvm hwr_15 hB hz hk hS => ?_)
    have hT : TX E G U_16 R H := by rw [ht] at hB; exact hB
    have hWr_15 : TW G U_16 R := hwr_15.1
    have hW := hWr_15
    have hFr_15 : Fr G [31] B_9 U_16 := hwr_15.2.1
    have hCr_15 : C_X2_become G B_9 R (R (R h0 0) n_12) p0 p1 p2 U_16 := hwr_15.2.2
    refine lv_aload hx hb dX0_carry_40 (lv_at hl 0 rfl) ?_
    exact W.aret (v := .ref (R (R h0 0) n_12)) hx hb hr (Or.inl ⟨_, rfl⟩) (Or.inr ⟨_, rfl⟩) (fun t ht hW9 => ⟨⟨U_16, (R (R h0 0) n_12), rfl, trivial, ⟨⟨hg_13, hW, (Fr.c (Fr.w Fr.rf hG (by decide) eB_9) hFr_15 (by decide)), (Or.inl ⟨r_2, hCr_2, c_3, x_7, ex_7, fx_7, B_9, eB_9, n_12, hn_12, U_16, hFr_15, hCr_15, rfl, rfl⟩)⟩, (by show TX E G U_16 R t.heap; rw [ht]; exact hT)⟩⟩, hS.F ht⟩) hS.2.2 dX0_carry_42
  · simp only [lt_I, le_I, eq_I, i_0, i_1, i_2, i_3, i_4, i_5, i_6, i_7, i_8, i_10, i_12, i_16, i_20, i_23, i_24, i_31, i_32, i_63, i_64, i_m1] at c_3
    refine lv_aload_n hx hb dX0_carry_7 rfl (lv_at hl 0 rfl) ?_
    have ha_17 := tx_4 hT hG
    have hg_18 : G (R h0 3) = 31 := (tw_4 hW hG).2.2.2
    refine va_get (D := DG E) (ci := 0) (v := .ref (R h0 3)) (C := RX0) (T := TX0) (N := 4) hx hb hts iw_X0 hown hK.1 (va_one ha_17) 0 rfl rfl 3 (by decide) (hts _ fl_X0_22) (fun _ h9 => h9) rfl dX0_carry_8 ?_
    refine lv_goto (tgt := 30) hx hb dX0_carry_11 (by decide) ?_
    refine lv_astore (lv' := [(4, .ref (R h0 3)), (0, .ref h0), (1, .int p0), (2, .int p1), (3, .int p2)]) hx hb dX0_carry_30 hl (by decide) rfl (fun ls hl => ?_)
    refine lv_aload hx hb dX0_carry_32 (lv_at hl 0 rfl) ?_
    refine lv_iload_n hx hb dX0_carry_34 rfl (lv_at hl 2 rfl) ?_
    refine lv_iload_n hx hb dX0_carry_35 rfl (lv_at hl 3 rfl) ?_
    refine lv_iload_n hx hb dX0_carry_36 rfl (lv_at hl 4 rfl) ?_
    have ha_19 := tx_31 hT hg_18
    refine va_callv (rnV (fun H => TX E G B R H) (As := [.int p0, .int p1, .int p2]) (rest := []) ⟨hx, hb, hml, hown, hts⟩ (x_X2_become l E z0 G hGz B R hW (R h0 3) p0 p1 p2 hg_18 (show 0 ≤ p0.toInt ∧ p0.toInt ≤ 3 from by first | decide | omega)) (cwV 3 hts (gdV ml_X0_33 im_X2_become se_X2_X2_become in_X2 co_X2_become rfl) rfl rfl rfl (by decide +kernel) ⟨Nat.le_of_ble_eq_true rfl, Nat.le_of_ble_eq_true rfl⟩) hT (fun U hU hW => hK.go hW hS hAz hU) (va_recv hK.1 (va_one ha_19) (ci := 2) (q0 := 0) rfl rfl) rfl rfl hl.1 rfl (lv_room (Nat.le_of_ble_eq_true rfl)) dX0_carry_37 ⟨Nat.le_of_ble_eq_true rfl, Nat.le_of_ble_eq_true rfl⟩) hS (fun q _ h => mL (L' := [31]) (L := [4, 31]) (by decide) h) (fun q h => mL (L' := [31]) (L := [4, 31]) (by decide) h) (fun U_21 t H locs ht hvm hwr_20 hB hz hk hS => ?_)
    have hT : TX E G U_21 R H := by rw [ht] at hB; exact hB
    have hWr_20 : TW G U_21 R := hwr_20.1
    have hW := hWr_20
    have hFr_20 : Fr G [31] B U_21 := hwr_20.2.1
    have hCr_20 : C_X2_become G B R (R h0 3) p0 p1 p2 U_21 := hwr_20.2.2
    refine lv_aload hx hb dX0_carry_40 (lv_at hl 0 rfl) ?_
    exact W.aret (v := .ref (R h0 3)) hx hb hr (Or.inl ⟨_, rfl⟩) (Or.inr ⟨_, rfl⟩) (fun t ht hW9 => ⟨⟨U_21, (R h0 3), rfl, trivial, ⟨⟨hg_18, hW, (Fr.c Fr.rf hFr_20 (by decide)), (Or.inr ⟨r_2, hCr_2, c_3, U_21, hFr_20, hCr_20, rfl, rfl⟩)⟩, (by show TX E G U_21 R t.heap; rw [ht]; exact hT)⟩⟩, hS.F ht⟩) hS.2.2 dX0_carry_42
theorem dX0_takeOut_0 : decode cX0_takeOut 0 = .ok (.aload_n 0, 1) := by decide +kernel
theorem dX0_takeOut_1 : decode cX0_takeOut 1 = .ok (.getfield 11, 3) := by decide +kernel
theorem dX0_takeOut_4 : decode cX0_takeOut 4 = .ok (.iload_n 1, 1) := by decide +kernel
theorem dX0_takeOut_5 : decode cX0_takeOut 5 = .ok (.aaload, 1) := by decide +kernel
theorem dX0_takeOut_6 : decode cX0_takeOut 6 = .ok (.astore_n 2, 1) := by decide +kernel
theorem dX0_takeOut_7 : decode cX0_takeOut 7 = .ok (.iload_n 1, 1) := by decide +kernel
theorem dX0_takeOut_8 : decode cX0_takeOut 8 = .ok (.iconst 1, 1) := by decide +kernel
theorem dX0_takeOut_9 : decode cX0_takeOut 9 = .ok (.iadd, 1) := by decide +kernel
theorem dX0_takeOut_10 : decode cX0_takeOut 10 = .ok (.istore_n 3, 1) := by decide +kernel
theorem dX0_takeOut_11 : decode cX0_takeOut 11 = .ok (.iload_n 3, 1) := by decide +kernel
theorem dX0_takeOut_12 : decode cX0_takeOut 12 = .ok (.aload_n 0, 1) := by decide +kernel
theorem dX0_takeOut_13 : decode cX0_takeOut 13 = .ok (.getfield 25, 3) := by decide +kernel
theorem dX0_takeOut_16 : decode cX0_takeOut 16 = .ok (.if_icmp .ge 23, 3) := by decide +kernel
theorem dX0_takeOut_19 : decode cX0_takeOut 19 = .ok (.aload_n 0, 1) := by decide +kernel
theorem dX0_takeOut_20 : decode cX0_takeOut 20 = .ok (.getfield 11, 3) := by decide +kernel
theorem dX0_takeOut_23 : decode cX0_takeOut 23 = .ok (.iload_n 3, 1) := by decide +kernel
theorem dX0_takeOut_24 : decode cX0_takeOut 24 = .ok (.iconst 1, 1) := by decide +kernel
theorem dX0_takeOut_25 : decode cX0_takeOut 25 = .ok (.isub, 1) := by decide +kernel
theorem dX0_takeOut_26 : decode cX0_takeOut 26 = .ok (.aload_n 0, 1) := by decide +kernel
theorem dX0_takeOut_27 : decode cX0_takeOut 27 = .ok (.getfield 11, 3) := by decide +kernel
theorem dX0_takeOut_30 : decode cX0_takeOut 30 = .ok (.iload_n 3, 1) := by decide +kernel
theorem dX0_takeOut_31 : decode cX0_takeOut 31 = .ok (.aaload, 1) := by decide +kernel
theorem dX0_takeOut_32 : decode cX0_takeOut 32 = .ok (.aastore, 1) := by decide +kernel
theorem dX0_takeOut_33 : decode cX0_takeOut 33 = .ok (.iinc 3 1, 3) := by decide +kernel
theorem dX0_takeOut_36 : decode cX0_takeOut 36 = .ok (.goto (-25), 3) := by decide +kernel
theorem dX0_takeOut_39 : decode cX0_takeOut 39 = .ok (.aload_n 0, 1) := by decide +kernel
theorem dX0_takeOut_40 : decode cX0_takeOut 40 = .ok (.dup, 1) := by decide +kernel
theorem dX0_takeOut_41 : decode cX0_takeOut 41 = .ok (.getfield 25, 3) := by decide +kernel
theorem dX0_takeOut_44 : decode cX0_takeOut 44 = .ok (.iconst 1, 1) := by decide +kernel
theorem dX0_takeOut_45 : decode cX0_takeOut 45 = .ok (.isub, 1) := by decide +kernel
theorem dX0_takeOut_46 : decode cX0_takeOut 46 = .ok (.putfield 25, 3) := by decide +kernel
theorem dX0_takeOut_49 : decode cX0_takeOut 49 = .ok (.aload_n 0, 1) := by decide +kernel
theorem dX0_takeOut_50 : decode cX0_takeOut 50 = .ok (.getfield 11, 3) := by decide +kernel
theorem dX0_takeOut_53 : decode cX0_takeOut 53 = .ok (.aload_n 0, 1) := by decide +kernel
theorem dX0_takeOut_54 : decode cX0_takeOut 54 = .ok (.getfield 25, 3) := by decide +kernel
theorem dX0_takeOut_57 : decode cX0_takeOut 57 = .ok (.aload_n 0, 1) := by decide +kernel
theorem dX0_takeOut_58 : decode cX0_takeOut 58 = .ok (.getfield 18, 3) := by decide +kernel
theorem dX0_takeOut_61 : decode cX0_takeOut 61 = .ok (.aastore, 1) := by decide +kernel
theorem dX0_takeOut_62 : decode cX0_takeOut 62 = .ok (.aload_n 0, 1) := by decide +kernel
theorem dX0_takeOut_63 : decode cX0_takeOut 63 = .ok (.aload_n 2, 1) := by decide +kernel
theorem dX0_takeOut_64 : decode cX0_takeOut 64 = .ok (.putfield 18, 3) := by decide +kernel
theorem dX0_takeOut_67 : decode cX0_takeOut 67 = .ok (.aload_n 2, 1) := by decide +kernel
theorem dX0_takeOut_68 : decode cX0_takeOut 68 = .ok (.areturn, 1) := by decide +kernel
set_option maxHeartbeats 8000000 in
set_option maxRecDepth 100000 in
theorem x_X0_takeOut (l : Launch) (E : EE) (z0 : Nat) (G : Nat → Nat) (hGz : ∀ q, G q ≠ 0 → z0 ≤ q) (B : AA) (R : RR) (hW : TW G B R) (h0 : Nat) (p0 : Int32) (hG : G h0 = 4) (hy0 : 0 ≤ p0.toInt ∧ p0.toInt ≤ 23) (hy1 : p0.toInt < (B h0 1).toInt) : Met l yX0_takeOut [Cond.code yX0_takeOut cX0_takeOut 4 (some (.object "RemoteReach$Packet"))] ({ frames := 0, cells := 0, slots := 0, locals := 0 } : Room) (va_Pc [.ref h0, .int p0] (fun U => TX E G B R U.heap ∧ KS E z0 U)) (va_Qr (fun (u : AA × RR) => True) (fun u ra t => ((G ra = 31) ∧ (TW G u.1 u.2) ∧ (Fr G ([4, 30] : List Nat) B u.1) ∧ (FrR G ([4, 30] : List Nat) R u.2) ∧ (C_X0_takeOut G B R h0 p0 u.1 u.2 ra)) ∧ TX E G u.1 u.2 t.heap) (fun q : Nat => G q ∈ ([4, 30] : List Nat))) 0 0 (fun q : Nat => G q ∈ ([4, 30] : List Nat)) := by
  refine Met.ofW (cc := cX0_takeOut) (maxL := 4) (ret := (some (.object "RemoteReach$Packet"))) (by decide) rfl ?_
  intro p e s m args below meth c s₁ B9 hml hv
  obtain ⟨rfl, hT, hK⟩ := hv
  have hx := B9.exec
  have hb := B9.bytes
  have hr := B9.returns
  have hts : ∀ w ∈ TS, w.before ([.ref h0, .int p0] : List Value).toArray s = true := fun w hw => hK.2.1 w hw _
  have hown : s.vm.findClass RX0 = some m.cls := findClass_of_methodNamed B9.named
  have hlocks := B9.notSynchronized
  have hS : va_S (fun q : Nat => G q ∈ ([4, 30] : List Nat)) s.heap s.heap [] := va_S.rf
  have hAz : ∀ q, (fun q : Nat => G q ∈ ([4, 30] : List Nat)) q → z0 ≤ q := zL hGz (by decide)
  have hW_0 := hW
  have hl := lv_entry ([.ref h0, .int p0]) (n := 4) (Nat.le_of_ble_eq_true rfl)
  rw [lg_entry_eq]
  generalize (lg_sl ([.ref h0, .int p0]) ++ List.replicate (4 - (lg_sl ([.ref h0, .int p0])).length) Slot.unset).toArray = ls at hl ⊢
  have hl : lv_has ls 4 [(0, .ref h0), (1, .int p0)] := hl
  refine lv_aload_n hx hb dX0_takeOut_0 rfl (lv_at hl 0 rfl) ?_
  have ha_1 := tx_4 hT hG
  have hg_2 : G (R h0 0) = 30 := (tw_4 hW hG).1
  refine va_get (D := DG E) (ci := 0) (v := .ref (R h0 0)) (C := RX0) (T := TX0) (N := 4) hx hb hts iw_X0 hown hK.1 (va_one ha_1) 0 rfl rfl 0 (by decide) (hts _ fl_X0_11) (fun _ h9 => h9) rfl dX0_takeOut_1 ?_
  refine lv_iload_n hx hb dX0_takeOut_4 rfl (lv_at hl 1 rfl) ?_
  have ha_3 := tx_30 hT hg_2
  have hi_4 : vp_in p0 24 := vp_in_iff.mpr (by omega)
  obtain ⟨n_5, hn_5, en_5⟩ := x_nat (x := p0) (by omega)
  have hg_6 : G (R (R h0 0) n_5) = 31 := (tw_30 hW hg_2) n_5 (by omega)
  refine va_aldq (D := DG E) hx hb hK.1 (va_one ha_3) 0 7 rfl rfl hi_4 dX0_takeOut_5 ?_
  refine W.eq (g2 := F0 m 6 ls [.ref (R (R h0 0) n_5)]) (by rw [en_5]; rfl) ?_
  refine lv_astore_n (lv' := [(2, .ref (R (R h0 0) n_5)), (0, .ref h0), (1, .int p0)]) hx hb dX0_takeOut_6 rfl hl (by decide) rfl (fun ls hl => ?_)
  refine lv_iload_n hx hb dX0_takeOut_7 rfl (lv_at hl 2 rfl) ?_
  refine lv_iconst (v := 1) hx hb dX0_takeOut_8 (by decide) ?_
  refine lv_iadd hx hb dX0_takeOut_9 ?_
  refine lv_topi (fun x_7 ex_7 => ?_)
  have fx_7 : x_7.toInt = p0.toInt + 1 := by have h9 := s_add (x := p0) (y := 1) (by rw [i_1]; omega) (by rw [i_1]; omega); rw [i_1] at h9; rw [ex_7]; exact h9
  refine lv_istore_n (lv' := [(3, .int x_7), (2, .ref (R (R h0 0) n_5)), (0, .ref h0), (1, .int p0)]) hx hb dX0_takeOut_10 rfl hl (by decide) rfl (fun ls hl => ?_)
  have hb_8 := (tw_4 hW_0 hG).2.1
  refine lp_nat (fun n H locs ls => ∃ (i9 : Int32) (R9 : RR), (1 ≤ i9.toInt ∧ p0.toInt + 1 ≤ i9.toInt ∧ i9.toInt ≤ (B h0 1).toInt) ∧ ((B h0 1).toInt + 1 - i9.toInt).toNat = n ∧ (R9 = uR R (R h0 0) (ShN (R (R h0 0)) n_5 (i9.toInt - 1).toNat)) ∧ TX E G B R9 H ∧ TW G B R9 ∧ va_S (fun q : Nat => G q ∈ ([4, 30] : List Nat)) s.heap H locs ∧ lv_has ls 4 [(3, .int i9), (2, .ref (R (R h0 0) n_5)), (0, .ref h0), (1, .int p0)]) (fun n H locs ls ih hI => ?_) ⟨x_7, R, by omega, rfl, shN_z (by omega), hT, hW, hS, hl⟩
  obtain ⟨i9, R9, hi9, hn9, eR9, hT, hW, hS, hl⟩ := hI
  have hQ9 : FrR G [4, 30] R R9 := FrR.w FrR.rf hg_2 (by decide) eR9
  have hW_9 := hW
  have ea9 : R9 h0 0 = R h0 0 := by rw [eR9, uR_n (ne_G hG hg_2 (by decide))]
  refine lv_iload_n hx hb dX0_takeOut_11 rfl (lv_at hl 0 rfl) ?_
  refine lv_aload_n hx hb dX0_takeOut_12 rfl (lv_at hl 2 rfl) ?_
  have ha_9 := tx_4 hT hG
  refine va_get (D := DG E) (ci := 0) (v := .int (B h0 1)) (C := RX0) (T := TX0) (N := 4) hx hb hts iw_X0 hown hK.1 (va_one ha_9) 0 rfl rfl 1 (by decide) (hts _ fl_X0_25) (fun _ h9 => h9) rfl dX0_takeOut_13 ?_
  refine lv_icmp_ge (tgt := 39) hx hb dX0_takeOut_16 (by decide) (fun c_10 => ?_) (fun c_10 => ?_)
  · simp only [lt_I, le_I, eq_I, i_0, i_1, i_2, i_3, i_4, i_5, i_6, i_7, i_8, i_10, i_12, i_16, i_20, i_23, i_24, i_31, i_32, i_63, i_64, i_m1] at c_10
    refine lv_aload_n hx hb dX0_takeOut_39 rfl (lv_at hl 2 rfl) ?_
    refine lv_dup hx hb dX0_takeOut_40 rfl ?_
    refine va_get (D := DG E) (ci := 0) (v := .int (B h0 1)) (C := RX0) (T := TX0) (N := 4) hx hb hts iw_X0 hown hK.1 (va_one ha_9) 0 rfl rfl 1 (by decide) (hts _ fl_X0_25) (fun _ h9 => h9) rfl dX0_takeOut_41 ?_
    refine lv_iconst (v := 1) hx hb dX0_takeOut_44 (by decide) ?_
    refine lv_isub hx hb dX0_takeOut_45 ?_
    refine lv_topi (fun x_11 ex_11 => ?_)
    have fx_11 : x_11.toInt = (B h0 1).toInt - 1 := by have h9 := s_sub (x := (B h0 1)) (y := 1) (by rw [i_1]; omega) (by rw [i_1]; omega); rw [i_1] at h9; rw [ex_11]; exact h9
    have h9_12 := tw_4 hW_9 hG
    refine rr_put (D := DG E) (ci := 0) (v := .int x_11) (ty := .int) (C := RX0) (T := TX0) (N := 4) hx hb hts iw_X0 tyX0 tyX0_ok nmX0 hown hK.1 ha_9 hS (by show G h0 ∈ ([4, 30] : List Nat); rw [hG]; decide) rfl 1 (by decide) (hts _ fl_X0_25) (fun _ h9 => h9) rfl (by decide +kernel) rfl rfl (Nat.le_of_ble_eq_true rfl) dX0_takeOut_46 (fun H locs hn ho hz hS => ?_)
    obtain ⟨B_13, eB_13⟩ : ∃ z : AA, z = uA B h0 (upd (B h0) 1 x_11) := ⟨_, rfl⟩
    have sB_13 : B_13 h0 1 = x_11 := by rw [eB_13, uA_s]; exact upd_s
    have nB_13 : ∀ k, k ≠ 1 → B_13 h0 k = B h0 k := fun k hk => by rw [eB_13, uA_s]; exact upd_n hk
    have fB_13 : ∀ c, G c ≠ 4 → B_13 c = B c := fun c hc => by rw [eB_13]; exact uA_n (fun e => hc (by rw [e]; exact hG))
    have hT : TX E G B_13 R9 H := by rw [eB_13]; exact hT.w (by rw [hG]; exact hn) ho
    have hWB_13 : TW G B_13 R9 := by rw [eB_13]; exact hW_9.w (by rw [hG]; exact ⟨h9_12.1, (show 0 ≤ (x_11 : Int32).toInt ∧ (x_11 : Int32).toInt ≤ 24 from by omega), h9_12.2.2.1, h9_12.2.2.2⟩)
    have hW := hWB_13
    refine lv_aload_n hx hb dX0_takeOut_49 rfl (lv_at hl 2 rfl) ?_
    have ha_14 := tx_4 hT hG
    have hg_15 : G (R9 h0 0) = 30 := (tw_4 hW hG).1
    refine va_get (D := DG E) (ci := 0) (v := .ref (R9 h0 0)) (C := RX0) (T := TX0) (N := 4) hx hb hts iw_X0 hown hK.1 (va_one ha_14) 0 rfl rfl 0 (by decide) (hts _ fl_X0_11) (fun _ h9 => h9) rfl dX0_takeOut_50 ?_
    refine lv_aload_n hx hb dX0_takeOut_53 rfl (lv_at hl 2 rfl) ?_
    have l_16 : B_13 h0 1 = x_11 := sB_13
    refine va_get (D := DG E) (ci := 0) (v := .int (B_13 h0 1)) (C := RX0) (T := TX0) (N := 4) hx hb hts iw_X0 hown hK.1 (va_one ha_14) 0 rfl rfl 1 (by decide) (hts _ fl_X0_25) (fun _ h9 => h9) rfl dX0_takeOut_54 ?_
    refine W.eq (g2 := F0 m 57 ls [.int x_11, .ref (R9 h0 0)]) (by rw [l_16]) ?_
    refine lv_aload_n hx hb dX0_takeOut_57 rfl (lv_at hl 2 rfl) ?_
    have hg_17 : G (R9 h0 2) = 31 := (tw_4 hW hG).2.2.1
    refine va_get (D := DG E) (ci := 0) (v := .ref (R9 h0 2)) (C := RX0) (T := TX0) (N := 4) hx hb hts iw_X0 hown hK.1 (va_one ha_14) 0 rfl rfl 2 (by decide) (hts _ fl_X0_18) (fun _ h9 => h9) rfl dX0_takeOut_58 ?_
    have ha_18 := tx_30 hT hg_15
    have ha_19 := tx_31 hT hg_17
    have hi_20 : vp_in x_11 24 := vp_in_iff.mpr (by omega)
    obtain ⟨n_21, hn_21, en_21⟩ := x_nat (x := x_11) (by omega)
    refine rr_aast (D := DG E) hx hb hK.1 7 2 ha_18 hS (by show G (R9 h0 0) ∈ ([4, 30] : List Nat); rw [hg_15]; decide) rfl ha_19 rfl hi_20 dX0_takeOut_61 (fun H locs hn ho hz hS => ?_)
    rw [en_21] at hn
    obtain ⟨R_22, eR_22⟩ : ∃ z : RR, z = uR R9 (R9 h0 0) (updN (R9 (R9 h0 0)) n_21 (R9 h0 2)) := ⟨_, rfl⟩
    have hT : TX E G B_13 R_22 H := by rw [eR_22]; exact hT.wr (by rw [hg_15]; exact rr_up hn) ho
    have hWR_22 : TW G B_13 R_22 := by rw [eR_22]; exact hW.wr (by rw [hg_15]; exact fun j hj => rr_upG ((tw_30 hW hg_15) j hj) hg_17)
    have hW := hWR_22
    refine lv_aload_n hx hb dX0_takeOut_62 rfl (lv_at hl 2 rfl) ?_
    refine lv_aload_n hx hb dX0_takeOut_63 rfl (lv_at hl 1 rfl) ?_
    have ha_23 := tx_4 hT hG
    refine rr_put (D := DG E) (ci := 0) (v := .ref (R (R h0 0) n_5)) (ty := .object "RemoteReach$Packet") (C := RX0) (T := TX0) (N := 4) hx hb hts iw_X0 tyX0 tyX0_ok nmX0 hown hK.1 ha_23 hS (by show G h0 ∈ ([4, 30] : List Nat); rw [hG]; decide) rfl 2 (by decide) (hts _ fl_X0_18) (fun _ h9 => h9) rfl (by decide +kernel) rfl rfl (Nat.le_of_ble_eq_true rfl) dX0_takeOut_64 (fun H locs hn ho hz hS => ?_)
    obtain ⟨R_24, eR_24⟩ : ∃ z : RR, z = uR R_22 h0 (updN (R_22 h0) 2 (R (R h0 0) n_5)) := ⟨_, rfl⟩
    have h9_25 := tw_4 hW hG
    have hT : TX E G B_13 R_24 H := by rw [eR_24]; exact hT.wr (by rw [hG]; exact hn) ho
    have hWR_24 : TW G B_13 R_24 := by rw [eR_24]; exact hW.wr (by rw [hG]; exact ⟨h9_25.1, h9_25.2.1, hg_6, h9_25.2.2.2⟩)
    have hW := hWR_24
    refine lv_aload_n hx hb dX0_takeOut_67 rfl (lv_at hl 1 rfl) ?_
    exact W.aret (v := .ref (R (R h0 0) n_5)) hx hb hr (Or.inl ⟨_, rfl⟩) (Or.inr ⟨_, rfl⟩) (fun t ht hW9 => ⟨⟨(B_13, R_24), (R (R h0 0) n_5), rfl, trivial, ⟨⟨hg_6, hW, (Fr.w Fr.rf hG (by decide) eB_13), (FrR.w (FrR.w (FrR.c FrR.rf hQ9 (by decide)) hg_15 (by decide) eR_22) hG (by decide) eR_24), ⟨n_5, hn_5, i9, R9, hi9, eR9, c_10, x_11, ex_11, fx_11, B_13, eB_13, n_21, hn_21, R_22, eR_22, R_24, eR_24, rfl, rfl, rfl⟩⟩, (by show TX E G B_13 R_24 t.heap; rw [ht]; exact hT)⟩⟩, hS.F ht⟩) hS.2.2 dX0_takeOut_68
  · simp only [lt_I, le_I, eq_I, i_0, i_1, i_2, i_3, i_4, i_5, i_6, i_7, i_8, i_10, i_12, i_16, i_20, i_23, i_24, i_31, i_32, i_63, i_64, i_m1] at c_10
    refine lv_aload_n hx hb dX0_takeOut_19 rfl (lv_at hl 2 rfl) ?_
    have hg_26 : G (R9 h0 0) = 30 := (tw_4 hW hG).1
    refine va_get (D := DG E) (ci := 0) (v := .ref (R9 h0 0)) (C := RX0) (T := TX0) (N := 4) hx hb hts iw_X0 hown hK.1 (va_one ha_9) 0 rfl rfl 0 (by decide) (hts _ fl_X0_11) (fun _ h9 => h9) rfl dX0_takeOut_20 ?_
    refine lv_iload_n hx hb dX0_takeOut_23 rfl (lv_at hl 0 rfl) ?_
    refine lv_iconst (v := 1) hx hb dX0_takeOut_24 (by decide) ?_
    refine lv_isub hx hb dX0_takeOut_25 ?_
    refine lv_topi (fun x_27 ex_27 => ?_)
    have fx_27 : x_27.toInt = i9.toInt - 1 := by have h9 := s_sub (x := i9) (y := 1) (by rw [i_1]; omega) (by rw [i_1]; omega); rw [i_1] at h9; rw [ex_27]; exact h9
    refine lv_aload_n hx hb dX0_takeOut_26 rfl (lv_at hl 2 rfl) ?_
    refine va_get (D := DG E) (ci := 0) (v := .ref (R9 h0 0)) (C := RX0) (T := TX0) (N := 4) hx hb hts iw_X0 hown hK.1 (va_one ha_9) 0 rfl rfl 0 (by decide) (hts _ fl_X0_11) (fun _ h9 => h9) rfl dX0_takeOut_27 ?_
    refine lv_iload_n hx hb dX0_takeOut_30 rfl (lv_at hl 0 rfl) ?_
    have ha_28 := tx_30 hT hg_26
    have hi_29 : vp_in i9 24 := vp_in_iff.mpr (by omega)
    obtain ⟨n_30, hn_30, en_30⟩ := x_nat (x := i9) (by omega)
    have hg_31 : G (R9 (R9 h0 0) n_30) = 31 := (tw_30 hW hg_26) n_30 (by omega)
    refine va_aldq (D := DG E) hx hb hK.1 (va_one ha_28) 0 7 rfl rfl hi_29 dX0_takeOut_31 ?_
    refine W.eq (g2 := F0 m 32 ls [.ref (R9 (R9 h0 0) n_30), .int x_27, .ref (R9 h0 0)]) (by rw [en_30]; rfl) ?_
    have ha_32 := tx_31 hT hg_31
    have hi_33 : vp_in x_27 24 := vp_in_iff.mpr (by omega)
    obtain ⟨n_34, hn_34, en_34⟩ := x_nat (x := x_27) (by omega)
    refine rr_aast (D := DG E) hx hb hK.1 7 2 ha_28 hS (by show G (R9 h0 0) ∈ ([4, 30] : List Nat); rw [hg_26]; decide) rfl ha_32 rfl hi_33 dX0_takeOut_32 (fun H locs hn ho hz hS => ?_)
    rw [en_34] at hn
    obtain ⟨R_35, eR_35⟩ : ∃ z : RR, z = uR R9 (R9 h0 0) (updN (R9 (R9 h0 0)) n_34 (R9 (R9 h0 0) n_30)) := ⟨_, rfl⟩
    have hT : TX E G B R_35 H := by rw [eR_35]; exact hT.wr (by rw [hg_26]; exact rr_up hn) ho
    have hWR_35 : TW G B R_35 := by rw [eR_35]; exact hW.wr (by rw [hg_26]; exact fun j hj => rr_upG ((tw_30 hW hg_26) j hj) hg_31)
    have hW := hWR_35
    obtain ⟨x_36, ex_36⟩ : ∃ z : Int32, i9 + Int32.ofInt 1 = z := ⟨_, rfl⟩
    have fx_36 : x_36.toInt = i9.toInt + 1 := by have h9 := s_add (x := i9) (y := 1) (by rw [i_1]; omega) (by rw [i_1]; omega); rw [i_1] at h9; rw [← ex_36]; exact h9
    refine lv_iinc (v := x_36) (lv' := [(3, .int x_36), (2, .ref (R (R h0 0) n_5)), (0, .ref h0), (1, .int p0)]) hx hb dX0_takeOut_33 hl (k := 0) rfl ex_36 (by decide) rfl (fun ls hl => ?_)
    refine lv_goto (tgt := 11) hx hb dX0_takeOut_36 (by decide) ?_
    have e10 : R_35 = uR R (R h0 0) (ShN (R (R h0 0)) n_5 (x_36.toInt - 1).toNat) := by rw [eR_35, show (x_36.toInt - 1).toNat = n_30 by omega]; exact shN_s (by rw [eR9, show (i9.toInt - 1).toNat = n_34 by omega]) ea9 (by omega) (by omega) rfl
    exact ih _ (by omega) _ _ _ ⟨x_36, R_35, by omega, rfl, e10, hT, hW, hS, hl⟩
theorem dX0_copyToEnd_0 : decode cX0_copyToEnd 0 = .ok (.aload_n 0, 1) := by decide +kernel
theorem dX0_copyToEnd_1 : decode cX0_copyToEnd 1 = .ok (.getfield 11, 3) := by decide +kernel
theorem dX0_copyToEnd_4 : decode cX0_copyToEnd 4 = .ok (.aload_n 0, 1) := by decide +kernel
theorem dX0_copyToEnd_5 : decode cX0_copyToEnd 5 = .ok (.getfield 25, 3) := by decide +kernel
theorem dX0_copyToEnd_8 : decode cX0_copyToEnd 8 = .ok (.aaload, 1) := by decide +kernel
theorem dX0_copyToEnd_9 : decode cX0_copyToEnd 9 = .ok (.aload_n 0, 1) := by decide +kernel
theorem dX0_copyToEnd_10 : decode cX0_copyToEnd 10 = .ok (.getfield 11, 3) := by decide +kernel
theorem dX0_copyToEnd_13 : decode cX0_copyToEnd 13 = .ok (.iload_n 1, 1) := by decide +kernel
theorem dX0_copyToEnd_14 : decode cX0_copyToEnd 14 = .ok (.aaload, 1) := by decide +kernel
theorem dX0_copyToEnd_15 : decode cX0_copyToEnd 15 = .ok (.invokevirtual 37, 3) := by decide +kernel
theorem dX0_copyToEnd_18 : decode cX0_copyToEnd 18 = .ok (.aload_n 0, 1) := by decide +kernel
theorem dX0_copyToEnd_19 : decode cX0_copyToEnd 19 = .ok (.dup, 1) := by decide +kernel
theorem dX0_copyToEnd_20 : decode cX0_copyToEnd 20 = .ok (.getfield 25, 3) := by decide +kernel
theorem dX0_copyToEnd_23 : decode cX0_copyToEnd 23 = .ok (.iconst 1, 1) := by decide +kernel
theorem dX0_copyToEnd_24 : decode cX0_copyToEnd 24 = .ok (.iadd, 1) := by decide +kernel
theorem dX0_copyToEnd_25 : decode cX0_copyToEnd 25 = .ok (.putfield 25, 3) := by decide +kernel
theorem dX0_copyToEnd_28 : decode cX0_copyToEnd 28 = .ok (.return_, 1) := by decide +kernel
set_option maxHeartbeats 8000000 in
set_option maxRecDepth 100000 in
theorem x_X0_copyToEnd (l : Launch) (E : EE) (z0 : Nat) (G : Nat → Nat) (hGz : ∀ q, G q ≠ 0 → z0 ≤ q) (B : AA) (R : RR) (hW : TW G B R) (h0 : Nat) (p0 : Int32) (hG : G h0 = 4) (hy0 : 0 ≤ p0.toInt ∧ p0.toInt ≤ 23) (hy1 : (B h0 1).toInt ≤ 23) : Met l yX0_copyToEnd [Cond.code yX0_copyToEnd cX0_copyToEnd 2 none] ({ frames := 2, cells := 0, slots := 0, locals := 45 } : Room) (va_Pc [.ref h0, .int p0] (fun U => TX E G B R U.heap ∧ KS E z0 U)) (va_Qv (fun (u : AA) => (TW G u R) ∧ (Fr G ([4, 31, 32] : List Nat) B u) ∧ (C_X0_copyToEnd G B R h0 p0 u)) (fun u t => TX E G u R t.heap) (fun q : Nat => G q ∈ ([4, 31, 32] : List Nat))) 0 0 (fun q : Nat => G q ∈ ([4, 31, 32] : List Nat)) := by
  refine Met.ofW (cc := cX0_copyToEnd) (maxL := 2) (ret := none) (by decide) rfl ?_
  intro p e s m args below meth c s₁ B9 hml hv
  obtain ⟨rfl, hT, hK⟩ := hv
  have hx := B9.exec
  have hb := B9.bytes
  have hr := B9.returns
  have hts : ∀ w ∈ TS, w.before ([.ref h0, .int p0] : List Value).toArray s = true := fun w hw => hK.2.1 w hw _
  have hown : s.vm.findClass RX0 = some m.cls := findClass_of_methodNamed B9.named
  have hlocks := B9.notSynchronized
  have hS : va_S (fun q : Nat => G q ∈ ([4, 31, 32] : List Nat)) s.heap s.heap [] := va_S.rf
  have hAz : ∀ q, (fun q : Nat => G q ∈ ([4, 31, 32] : List Nat)) q → z0 ≤ q := zL hGz (by decide)
  have hW_0 := hW
  have hl := lv_entry ([.ref h0, .int p0]) (n := 2) (Nat.le_of_ble_eq_true rfl)
  rw [lg_entry_eq]
  generalize (lg_sl ([.ref h0, .int p0]) ++ List.replicate (2 - (lg_sl ([.ref h0, .int p0])).length) Slot.unset).toArray = ls at hl ⊢
  have hl : lv_has ls 2 [(0, .ref h0), (1, .int p0)] := hl
  refine lv_aload_n hx hb dX0_copyToEnd_0 rfl (lv_at hl 0 rfl) ?_
  have ha_1 := tx_4 hT hG
  have hg_2 : G (R h0 0) = 30 := (tw_4 hW hG).1
  refine va_get (D := DG E) (ci := 0) (v := .ref (R h0 0)) (C := RX0) (T := TX0) (N := 4) hx hb hts iw_X0 hown hK.1 (va_one ha_1) 0 rfl rfl 0 (by decide) (hts _ fl_X0_11) (fun _ h9 => h9) rfl dX0_copyToEnd_1 ?_
  refine lv_aload_n hx hb dX0_copyToEnd_4 rfl (lv_at hl 0 rfl) ?_
  have hb_3 := (tw_4 hW_0 hG).2.1
  refine va_get (D := DG E) (ci := 0) (v := .int (B h0 1)) (C := RX0) (T := TX0) (N := 4) hx hb hts iw_X0 hown hK.1 (va_one ha_1) 0 rfl rfl 1 (by decide) (hts _ fl_X0_25) (fun _ h9 => h9) rfl dX0_copyToEnd_5 ?_
  have ha_4 := tx_30 hT hg_2
  have hi_5 : vp_in (B h0 1) 24 := vp_in_iff.mpr (by omega)
  obtain ⟨n_6, hn_6, en_6⟩ := x_nat (x := (B h0 1)) (by omega)
  have hg_7 : G (R (R h0 0) n_6) = 31 := (tw_30 hW hg_2) n_6 (by omega)
  refine va_aldq (D := DG E) hx hb hK.1 (va_one ha_4) 0 7 rfl rfl hi_5 dX0_copyToEnd_8 ?_
  refine W.eq (g2 := F0 m 9 ls [.ref (R (R h0 0) n_6)]) (by rw [en_6]; rfl) ?_
  refine lv_aload_n hx hb dX0_copyToEnd_9 rfl (lv_at hl 0 rfl) ?_
  refine va_get (D := DG E) (ci := 0) (v := .ref (R h0 0)) (C := RX0) (T := TX0) (N := 4) hx hb hts iw_X0 hown hK.1 (va_one ha_1) 0 rfl rfl 0 (by decide) (hts _ fl_X0_11) (fun _ h9 => h9) rfl dX0_copyToEnd_10 ?_
  refine lv_iload_n hx hb dX0_copyToEnd_13 rfl (lv_at hl 1 rfl) ?_
  have hi_8 : vp_in p0 24 := vp_in_iff.mpr (by omega)
  obtain ⟨n_9, hn_9, en_9⟩ := x_nat (x := p0) (by omega)
  have hg_10 : G (R (R h0 0) n_9) = 31 := (tw_30 hW hg_2) n_9 (by omega)
  refine va_aldq (D := DG E) hx hb hK.1 (va_one ha_4) 0 7 rfl rfl hi_8 dX0_copyToEnd_14 ?_
  refine W.eq (g2 := F0 m 15 ls [.ref (R (R h0 0) n_9), .ref (R (R h0 0) n_6)]) (by rw [en_9]; rfl) ?_
  have ha_11 := tx_31 hT hg_7
  refine va_callv (rnV (fun H => TX E G B R H) (As := [.ref (R (R h0 0) n_9)]) (rest := []) ⟨hx, hb, hml, hown, hts⟩ (x_X2_becomeLike l E z0 G hGz B R hW (R (R h0 0) n_6) (R (R h0 0) n_9) hg_7 hg_10) (cwV 1 hts (gdV ml_X0_37 im_X2_becomeLike se_X2_X2_becomeLike in_X2 co_X2_becomeLike rfl) rfl rfl rfl (by decide +kernel) ⟨Nat.le_of_ble_eq_true rfl, Nat.le_of_ble_eq_true rfl⟩) hT (fun U hU hW => hK.go hW hS hAz hU) (va_recv hK.1 (va_one ha_11) (ci := 2) (q0 := 0) rfl rfl) rfl rfl hl.1 rfl (lv_room (Nat.le_of_ble_eq_true rfl)) dX0_copyToEnd_15 ⟨Nat.le_of_ble_eq_true rfl, Nat.le_of_ble_eq_true rfl⟩) hS (fun q _ h => mL (L' := [31, 32]) (L := [4, 31, 32]) (by decide) h) (fun q h => mL (L' := [31, 32]) (L := [4, 31, 32]) (by decide) h) (fun U_13 t H locs ht hvm hwr_12 hB hz hk hS => ?_)
  have hT : TX E G U_13 R H := by rw [ht] at hB; exact hB
  have hWr_12 : TW G U_13 R := hwr_12.1
  have hW := hWr_12
  have hFr_12 : Fr G [31, 32] B U_13 := hwr_12.2.1
  have hCr_12 : C_X2_becomeLike G B R (R (R h0 0) n_6) (R (R h0 0) n_9) U_13 := hwr_12.2.2
  refine lv_aload_n hx hb dX0_copyToEnd_18 rfl (lv_at hl 0 rfl) ?_
  refine lv_dup hx hb dX0_copyToEnd_19 rfl ?_
  have ha_14 := tx_4 hT hG
  have l_15 : U_13 h0 1 = (B h0 1) := (congrFun (hFr_12 h0 (by rw [hG]; decide)) 1)
  refine va_get (D := DG E) (ci := 0) (v := .int (U_13 h0 1)) (C := RX0) (T := TX0) (N := 4) hx hb hts iw_X0 hown hK.1 (va_one ha_14) 0 rfl rfl 1 (by decide) (hts _ fl_X0_25) (fun _ h9 => h9) rfl dX0_copyToEnd_20 ?_
  refine W.eq (g2 := F0 m 23 ls [.int (B h0 1), .ref h0]) (by rw [l_15]) ?_
  refine lv_iconst (v := 1) hx hb dX0_copyToEnd_23 (by decide) ?_
  refine lv_iadd hx hb dX0_copyToEnd_24 ?_
  refine lv_topi (fun x_16 ex_16 => ?_)
  have fx_16 : x_16.toInt = (B h0 1).toInt + 1 := by have h9 := s_add (x := (B h0 1)) (y := 1) (by rw [i_1]; omega) (by rw [i_1]; omega); rw [i_1] at h9; rw [ex_16]; exact h9
  have h9_17 := tw_4 hWr_12 hG
  refine rr_put (D := DG E) (ci := 0) (v := .int x_16) (ty := .int) (C := RX0) (T := TX0) (N := 4) hx hb hts iw_X0 tyX0 tyX0_ok nmX0 hown hK.1 ha_14 hS (by show G h0 ∈ ([4, 31, 32] : List Nat); rw [hG]; decide) rfl 1 (by decide) (hts _ fl_X0_25) (fun _ h9 => h9) rfl (by decide +kernel) rfl rfl (Nat.le_of_ble_eq_true rfl) dX0_copyToEnd_25 (fun H locs hn ho hz hS => ?_)
  obtain ⟨B_18, eB_18⟩ : ∃ z : AA, z = uA U_13 h0 (upd (U_13 h0) 1 x_16) := ⟨_, rfl⟩
  have sB_18 : B_18 h0 1 = x_16 := by rw [eB_18, uA_s]; exact upd_s
  have nB_18 : ∀ k, k ≠ 1 → B_18 h0 k = U_13 h0 k := fun k hk => by rw [eB_18, uA_s]; exact upd_n hk
  have fB_18 : ∀ c, G c ≠ 4 → B_18 c = U_13 c := fun c hc => by rw [eB_18]; exact uA_n (fun e => hc (by rw [e]; exact hG))
  have hT : TX E G B_18 R H := by rw [eB_18]; exact hT.w (by rw [hG]; exact hn) ho
  have hWB_18 : TW G B_18 R := by rw [eB_18]; exact hWr_12.w (by rw [hG]; exact ⟨h9_17.1, (show 0 ≤ (x_16 : Int32).toInt ∧ (x_16 : Int32).toInt ≤ 24 from by omega), h9_17.2.2.1, h9_17.2.2.2⟩)
  have hW := hWB_18
  exact W.vret hx hb hr (fun t ht hW9 => ⟨⟨B_18, rfl, ⟨hW, (Fr.w (Fr.c Fr.rf hFr_12 (by decide)) hG (by decide) eB_18), ⟨n_6, hn_6, n_9, hn_9, U_13, hFr_12, hCr_12, x_16, ex_16, fx_16, B_18, eB_18, rfl⟩⟩, (by show TX E G B_18 R t.heap; rw [ht]; exact hT)⟩, hS.F ht⟩) hS.2.2 dX0_copyToEnd_28
theorem dX4_cellsOf_0 : decode cX4_cellsOf 0 = .ok (.iconst 4, 1) := by decide +kernel
theorem dX4_cellsOf_1 : decode cX4_cellsOf 1 = .ok (.aload_n 0, 1) := by decide +kernel
theorem dX4_cellsOf_2 : decode cX4_cellsOf 2 = .ok (.getfield 9, 3) := by decide +kernel
theorem dX4_cellsOf_5 : decode cX4_cellsOf 5 = .ok (.iconst 4, 1) := by decide +kernel
theorem dX4_cellsOf_6 : decode cX4_cellsOf 6 = .ok (.iload_n 1, 1) := by decide +kernel
theorem dX4_cellsOf_7 : decode cX4_cellsOf 7 = .ok (.imul, 1) := by decide +kernel
theorem dX4_cellsOf_8 : decode cX4_cellsOf 8 = .ok (.isub, 1) := by decide +kernel
theorem dX4_cellsOf_9 : decode cX4_cellsOf 9 = .ok (.invokestatic 15, 3) := by decide +kernel
theorem dX4_cellsOf_12 : decode cX4_cellsOf 12 = .ok (.ireturn, 1) := by decide +kernel
set_option maxHeartbeats 8000000 in
set_option maxRecDepth 100000 in
theorem x_X4_cellsOf (l : Launch) (E : EE) (z0 : Nat) (G : Nat → Nat) (hGz : ∀ q, G q ≠ 0 → z0 ≤ q) (B : AA) (R : RR) (hW : TW G B R) (h0 : Nat) (p0 : Int32) (hG : G h0 = 13) : Met l yX4_cellsOf [Cond.code yX4_cellsOf cX4_cellsOf 2 (some .int)] ({ frames := 1, cells := 0, slots := 0, locals := 21 } : Room) (va_Pc [.ref h0, .int p0] (fun U => TX E G B R U.heap ∧ KS E z0 U)) (va_Qi (fun (r : Int32) (u : Unit) => (C_X4_cellsOf G B R h0 p0 r)) (fun u t => True) (fun _ : Nat => False)) 0 0 (fun _ : Nat => False) := by
  refine Met.ofW (cc := cX4_cellsOf) (maxL := 2) (ret := (some .int)) (by decide) rfl ?_
  intro p e s m args below meth c s₁ B9 hml hv
  obtain ⟨rfl, hT, hK⟩ := hv
  have hx := B9.exec
  have hb := B9.bytes
  have hr := B9.returns
  have hts : ∀ w ∈ TS, w.before ([.ref h0, .int p0] : List Value).toArray s = true := fun w hw => hK.2.1 w hw _
  have hown : s.vm.findClass RX4 = some m.cls := findClass_of_methodNamed B9.named
  have hlocks := B9.notSynchronized
  have hS : va_S (fun _ : Nat => False) s.heap s.heap [] := va_S.rf
  have hAz : ∀ q, (fun _ : Nat => False) q → z0 ≤ q := fun _ h => h.elim
  have hW_0 := hW
  have hl := lv_entry ([.ref h0, .int p0]) (n := 2) (Nat.le_of_ble_eq_true rfl)
  rw [lg_entry_eq]
  generalize (lg_sl ([.ref h0, .int p0]) ++ List.replicate (2 - (lg_sl ([.ref h0, .int p0])).length) Slot.unset).toArray = ls at hl ⊢
  have hl : lv_has ls 2 [(0, .ref h0), (1, .int p0)] := hl
  refine lv_iconst (v := 4) hx hb dX4_cellsOf_0 (by decide) ?_
  refine lv_aload_n hx hb dX4_cellsOf_1 rfl (lv_at hl 0 rfl) ?_
  have ha_1 := tx_13 hT hG
  have hb_2 := (tw_13 hW_0 hG)
  refine va_get (D := DG E) (ci := 4) (v := .int (B h0 3)) (C := RX4) (T := TX4) (N := 10) hx hb hts iw_X4 hown hK.1 (va_one ha_1) 0 rfl rfl 3 (by decide) (hts _ fl_X4_9) (fun _ h9 => h9) rfl dX4_cellsOf_2 ?_
  refine lv_iconst (v := 4) hx hb dX4_cellsOf_5 (by decide) ?_
  refine lv_iload_n hx hb dX4_cellsOf_6 rfl (lv_at hl 1 rfl) ?_
  refine lv_imul hx hb dX4_cellsOf_7 ?_
  refine lv_topi (fun x_3 ex_3 => ?_)
  refine lv_isub hx hb dX4_cellsOf_8 ?_
  refine lv_topi (fun x_4 ex_4 => ?_)
  refine va_mmin hx hb (by rw [hml]; exact hl.1.symm) hown (hts _ ml_X4_15) (hts _ st_Math_min) (hts _ in_Math) (hts _ co_Math_min) (Nat.le_of_ble_eq_true rfl) (Nat.le_of_ble_eq_true rfl) (Nat.zero_le _) (Nat.zero_le _) dX4_cellsOf_9 ?_
  refine lv_topi (fun x_5 ex_5 => ?_)
  have fx_5 := s_min ex_5; rw [i_4] at fx_5
  exact W.iret (v := x_5) hx hb hr (fun t ht hW9 => ⟨⟨x_5, (), rfl, ⟨x_3, ex_3, x_4, ex_4, x_5, ex_5, rfl⟩, trivial⟩, hS.F ht⟩) hS.2.2 dX4_cellsOf_12
theorem dX4_isLastNumber_0 : decode cX4_isLastNumber 0 = .ok (.iload_n 1, 1) := by decide +kernel
theorem dX4_isLastNumber_1 : decode cX4_isLastNumber 1 = .ok (.aload_n 0, 1) := by decide +kernel
theorem dX4_isLastNumber_2 : decode cX4_isLastNumber 2 = .ok (.getfield 21, 3) := by decide +kernel
theorem dX4_isLastNumber_5 : decode cX4_isLastNumber 5 = .ok (.iconst 1, 1) := by decide +kernel
theorem dX4_isLastNumber_6 : decode cX4_isLastNumber 6 = .ok (.isub, 1) := by decide +kernel
theorem dX4_isLastNumber_7 : decode cX4_isLastNumber 7 = .ok (.if_icmp .ne 7, 3) := by decide +kernel
theorem dX4_isLastNumber_10 : decode cX4_isLastNumber 10 = .ok (.iconst 1, 1) := by decide +kernel
theorem dX4_isLastNumber_11 : decode cX4_isLastNumber 11 = .ok (.goto 4, 3) := by decide +kernel
theorem dX4_isLastNumber_14 : decode cX4_isLastNumber 14 = .ok (.iconst 0, 1) := by decide +kernel
theorem dX4_isLastNumber_15 : decode cX4_isLastNumber 15 = .ok (.ireturn, 1) := by decide +kernel
set_option maxHeartbeats 8000000 in
set_option maxRecDepth 100000 in
theorem x_X4_isLastNumber (l : Launch) (E : EE) (z0 : Nat) (G : Nat → Nat) (hGz : ∀ q, G q ≠ 0 → z0 ≤ q) (B : AA) (R : RR) (hW : TW G B R) (h0 : Nat) (p0 : Int32) (hG : G h0 = 13) : Met l yX4_isLastNumber [Cond.code yX4_isLastNumber cX4_isLastNumber 2 (some .boolean)] ({ frames := 0, cells := 0, slots := 0, locals := 0 } : Room) (va_Pc [.ref h0, .int p0] (fun U => TX E G B R U.heap ∧ KS E z0 U)) (va_Qi (fun (r : Int32) (u : Unit) => (r = 0 ∨ r = 1) ∧ (C_X4_isLastNumber G B R h0 p0 r)) (fun u t => True) (fun _ : Nat => False)) 0 0 (fun _ : Nat => False) := by
  refine Met.ofW (cc := cX4_isLastNumber) (maxL := 2) (ret := (some .boolean)) (by decide) rfl ?_
  intro p e s m args below meth c s₁ B9 hml hv
  obtain ⟨rfl, hT, hK⟩ := hv
  have hx := B9.exec
  have hb := B9.bytes
  have hr := B9.returns
  have hts : ∀ w ∈ TS, w.before ([.ref h0, .int p0] : List Value).toArray s = true := fun w hw => hK.2.1 w hw _
  have hown : s.vm.findClass RX4 = some m.cls := findClass_of_methodNamed B9.named
  have hlocks := B9.notSynchronized
  have hS : va_S (fun _ : Nat => False) s.heap s.heap [] := va_S.rf
  have hAz : ∀ q, (fun _ : Nat => False) q → z0 ≤ q := fun _ h => h.elim
  have hW_0 := hW
  have hl := lv_entry ([.ref h0, .int p0]) (n := 2) (Nat.le_of_ble_eq_true rfl)
  rw [lg_entry_eq]
  generalize (lg_sl ([.ref h0, .int p0]) ++ List.replicate (2 - (lg_sl ([.ref h0, .int p0])).length) Slot.unset).toArray = ls at hl ⊢
  have hl : lv_has ls 2 [(0, .ref h0), (1, .int p0)] := hl
  refine lv_iload_n hx hb dX4_isLastNumber_0 rfl (lv_at hl 1 rfl) ?_
  refine lv_aload_n hx hb dX4_isLastNumber_1 rfl (lv_at hl 0 rfl) ?_
  have ha_1 := tx_13 hT hG
  refine va_get (D := DG E) (ci := 4) (v := .int (B h0 5)) (C := RX4) (T := TX4) (N := 10) hx hb hts iw_X4 hown hK.1 (va_one ha_1) 0 rfl rfl 5 (by decide) (hts _ fl_X4_21) (fun _ h9 => h9) rfl dX4_isLastNumber_2 ?_
  refine lv_iconst (v := 1) hx hb dX4_isLastNumber_5 (by decide) ?_
  refine lv_isub hx hb dX4_isLastNumber_6 ?_
  refine lv_topi (fun x_2 ex_2 => ?_)
  refine lv_icmp_ne (tgt := 14) hx hb dX4_isLastNumber_7 (by decide) (fun c_3 => ?_) (fun c_3 => ?_)
  · simp only [lt_I, le_I, eq_I, i_0, i_1, i_2, i_3, i_4, i_5, i_6, i_7, i_8, i_10, i_12, i_16, i_20, i_23, i_24, i_31, i_32, i_63, i_64, i_m1] at c_3
    refine lv_iconst (v := 0) hx hb dX4_isLastNumber_14 (by decide) ?_
    exact W.zret (v := 0) (ty := .boolean) hx hb hr rfl (fun t ht hW9 => ⟨⟨0, (), rfl, ⟨(by decide), (Or.inl ⟨x_2, ex_2, c_3, rfl⟩)⟩, trivial⟩, hS.F ht⟩) hS.2.2 dX4_isLastNumber_15
  · simp only [lt_I, le_I, eq_I, i_0, i_1, i_2, i_3, i_4, i_5, i_6, i_7, i_8, i_10, i_12, i_16, i_20, i_23, i_24, i_31, i_32, i_63, i_64, i_m1] at c_3
    refine lv_iconst (v := 1) hx hb dX4_isLastNumber_10 (by decide) ?_
    refine lv_goto (tgt := 15) hx hb dX4_isLastNumber_11 (by decide) ?_
    exact W.zret (v := 1) (ty := .boolean) hx hb hr rfl (fun t ht hW9 => ⟨⟨1, (), rfl, ⟨(by decide), (Or.inr ⟨x_2, ex_2, c_3, rfl⟩)⟩, trivial⟩, hS.F ht⟩) hS.2.2 dX4_isLastNumber_15
theorem dX4_awaitsReply_0 : decode cX4_awaitsReply 0 = .ok (.aload_n 0, 1) := by decide +kernel
theorem dX4_awaitsReply_1 : decode cX4_awaitsReply 1 = .ok (.getfield 24, 3) := by decide +kernel
theorem dX4_awaitsReply_4 : decode cX4_awaitsReply 4 = .ok (.iconst 2, 1) := by decide +kernel
theorem dX4_awaitsReply_5 : decode cX4_awaitsReply 5 = .ok (.if_icmp .eq 11, 3) := by decide +kernel
theorem dX4_awaitsReply_8 : decode cX4_awaitsReply 8 = .ok (.aload_n 0, 1) := by decide +kernel
theorem dX4_awaitsReply_9 : decode cX4_awaitsReply 9 = .ok (.getfield 24, 3) := by decide +kernel
theorem dX4_awaitsReply_12 : decode cX4_awaitsReply 12 = .ok (.iconst 3, 1) := by decide +kernel
theorem dX4_awaitsReply_13 : decode cX4_awaitsReply 13 = .ok (.if_icmp .ne 7, 3) := by decide +kernel
theorem dX4_awaitsReply_16 : decode cX4_awaitsReply 16 = .ok (.iconst 1, 1) := by decide +kernel
theorem dX4_awaitsReply_17 : decode cX4_awaitsReply 17 = .ok (.goto 4, 3) := by decide +kernel
theorem dX4_awaitsReply_20 : decode cX4_awaitsReply 20 = .ok (.iconst 0, 1) := by decide +kernel
theorem dX4_awaitsReply_21 : decode cX4_awaitsReply 21 = .ok (.ireturn, 1) := by decide +kernel
set_option maxHeartbeats 8000000 in
set_option maxRecDepth 100000 in
theorem x_X4_awaitsReply (l : Launch) (E : EE) (z0 : Nat) (G : Nat → Nat) (hGz : ∀ q, G q ≠ 0 → z0 ≤ q) (B : AA) (R : RR) (hW : TW G B R) (h0 : Nat) (hG : G h0 = 13) : Met l yX4_awaitsReply [Cond.code yX4_awaitsReply cX4_awaitsReply 1 (some .boolean)] ({ frames := 0, cells := 0, slots := 0, locals := 0 } : Room) (va_Pc [.ref h0] (fun U => TX E G B R U.heap ∧ KS E z0 U)) (va_Qi (fun (r : Int32) (u : Unit) => (r = 0 ∨ r = 1) ∧ (C_X4_awaitsReply G B R h0 r)) (fun u t => True) (fun _ : Nat => False)) 0 0 (fun _ : Nat => False) := by
  refine Met.ofW (cc := cX4_awaitsReply) (maxL := 1) (ret := (some .boolean)) (by decide) rfl ?_
  intro p e s m args below meth c s₁ B9 hml hv
  obtain ⟨rfl, hT, hK⟩ := hv
  have hx := B9.exec
  have hb := B9.bytes
  have hr := B9.returns
  have hts : ∀ w ∈ TS, w.before ([.ref h0] : List Value).toArray s = true := fun w hw => hK.2.1 w hw _
  have hown : s.vm.findClass RX4 = some m.cls := findClass_of_methodNamed B9.named
  have hlocks := B9.notSynchronized
  have hS : va_S (fun _ : Nat => False) s.heap s.heap [] := va_S.rf
  have hAz : ∀ q, (fun _ : Nat => False) q → z0 ≤ q := fun _ h => h.elim
  have hW_0 := hW
  have hl := lv_entry ([.ref h0]) (n := 1) (Nat.le_of_ble_eq_true rfl)
  rw [lg_entry_eq]
  generalize (lg_sl ([.ref h0]) ++ List.replicate (1 - (lg_sl ([.ref h0])).length) Slot.unset).toArray = ls at hl ⊢
  have hl : lv_has ls 1 [(0, .ref h0)] := hl
  refine lv_aload_n hx hb dX4_awaitsReply_0 rfl (lv_at hl 0 rfl) ?_
  have ha_1 := tx_13 hT hG
  refine va_get (D := DG E) (ci := 4) (v := .int (B h0 0)) (C := RX4) (T := TX4) (N := 10) hx hb hts iw_X4 hown hK.1 (va_one ha_1) 0 rfl rfl 0 (by decide) (hts _ fl_X4_24) (fun _ h9 => h9) rfl dX4_awaitsReply_1 ?_
  refine lv_iconst (v := 2) hx hb dX4_awaitsReply_4 (by decide) ?_
  refine lv_icmp_eq (tgt := 16) hx hb dX4_awaitsReply_5 (by decide) (fun c_2 => ?_) (fun c_2 => ?_)
  · simp only [lt_I, le_I, eq_I, i_0, i_1, i_2, i_3, i_4, i_5, i_6, i_7, i_8, i_10, i_12, i_16, i_20, i_23, i_24, i_31, i_32, i_63, i_64, i_m1] at c_2
    refine lv_iconst (v := 1) hx hb dX4_awaitsReply_16 (by decide) ?_
    refine lv_goto (tgt := 21) hx hb dX4_awaitsReply_17 (by decide) ?_
    exact W.zret (v := 1) (ty := .boolean) hx hb hr rfl (fun t ht hW9 => ⟨⟨1, (), rfl, ⟨(by decide), (Or.inl ⟨c_2, rfl⟩)⟩, trivial⟩, hS.F ht⟩) hS.2.2 dX4_awaitsReply_21
  · simp only [lt_I, le_I, eq_I, i_0, i_1, i_2, i_3, i_4, i_5, i_6, i_7, i_8, i_10, i_12, i_16, i_20, i_23, i_24, i_31, i_32, i_63, i_64, i_m1] at c_2
    refine lv_aload_n hx hb dX4_awaitsReply_8 rfl (lv_at hl 0 rfl) ?_
    refine va_get (D := DG E) (ci := 4) (v := .int (B h0 0)) (C := RX4) (T := TX4) (N := 10) hx hb hts iw_X4 hown hK.1 (va_one ha_1) 0 rfl rfl 0 (by decide) (hts _ fl_X4_24) (fun _ h9 => h9) rfl dX4_awaitsReply_9 ?_
    refine lv_iconst (v := 3) hx hb dX4_awaitsReply_12 (by decide) ?_
    refine lv_icmp_ne (tgt := 20) hx hb dX4_awaitsReply_13 (by decide) (fun c_3 => ?_) (fun c_3 => ?_)
    · simp only [lt_I, le_I, eq_I, i_0, i_1, i_2, i_3, i_4, i_5, i_6, i_7, i_8, i_10, i_12, i_16, i_20, i_23, i_24, i_31, i_32, i_63, i_64, i_m1] at c_3
      refine lv_iconst (v := 0) hx hb dX4_awaitsReply_20 (by decide) ?_
      exact W.zret (v := 0) (ty := .boolean) hx hb hr rfl (fun t ht hW9 => ⟨⟨0, (), rfl, ⟨(by decide), (Or.inr (Or.inl ⟨c_2, c_3, rfl⟩))⟩, trivial⟩, hS.F ht⟩) hS.2.2 dX4_awaitsReply_21
    · simp only [lt_I, le_I, eq_I, i_0, i_1, i_2, i_3, i_4, i_5, i_6, i_7, i_8, i_10, i_12, i_16, i_20, i_23, i_24, i_31, i_32, i_63, i_64, i_m1] at c_3
      refine lv_iconst (v := 1) hx hb dX4_awaitsReply_16 (by decide) ?_
      refine lv_goto (tgt := 21) hx hb dX4_awaitsReply_17 (by decide) ?_
      exact W.zret (v := 1) (ty := .boolean) hx hb hr rfl (fun t ht hW9 => ⟨⟨1, (), rfl, ⟨(by decide), (Or.inr (Or.inr ⟨c_2, c_3, rfl⟩))⟩, trivial⟩, hS.F ht⟩) hS.2.2 dX4_awaitsReply_21
theorem dX5_clear_0 : decode cX5_clear 0 = .ok (.aload_n 0, 1) := by decide +kernel
theorem dX5_clear_1 : decode cX5_clear 1 = .ok (.iconst 0, 1) := by decide +kernel
theorem dX5_clear_2 : decode cX5_clear 2 = .ok (.putfield 26, 3) := by decide +kernel
theorem dX5_clear_5 : decode cX5_clear 5 = .ok (.aload_n 0, 1) := by decide +kernel
theorem dX5_clear_6 : decode cX5_clear 6 = .ok (.iconst 0, 1) := by decide +kernel
theorem dX5_clear_7 : decode cX5_clear 7 = .ok (.putfield 29, 3) := by decide +kernel
theorem dX5_clear_10 : decode cX5_clear 10 = .ok (.aload_n 0, 1) := by decide +kernel
theorem dX5_clear_11 : decode cX5_clear 11 = .ok (.iconst 0, 1) := by decide +kernel
theorem dX5_clear_12 : decode cX5_clear 12 = .ok (.putfield 32, 3) := by decide +kernel
theorem dX5_clear_15 : decode cX5_clear 15 = .ok (.return_, 1) := by decide +kernel
set_option maxHeartbeats 8000000 in
set_option maxRecDepth 100000 in
theorem x_X5_clear (l : Launch) (E : EE) (z0 : Nat) (G : Nat → Nat) (hGz : ∀ q, G q ≠ 0 → z0 ≤ q) (B : AA) (R : RR) (hW : TW G B R) (h0 : Nat) (hG : G h0 = 11) : Met l yX5_clear [Cond.code yX5_clear cX5_clear 1 none] ({ frames := 0, cells := 0, slots := 0, locals := 0 } : Room) (va_Pc [.ref h0] (fun U => TX E G B R U.heap ∧ KS E z0 U)) (va_Qv (fun (u : AA) => (TW G u R) ∧ (Fr G ([11] : List Nat) B u) ∧ (C_X5_clear G B R h0 u)) (fun u t => TX E G u R t.heap) (fun q : Nat => G q ∈ ([11] : List Nat))) 0 0 (fun q : Nat => G q ∈ ([11] : List Nat)) := by
  refine Met.ofW (cc := cX5_clear) (maxL := 1) (ret := none) (by decide) rfl ?_
  intro p e s m args below meth c s₁ B9 hml hv
  obtain ⟨rfl, hT, hK⟩ := hv
  have hx := B9.exec
  have hb := B9.bytes
  have hr := B9.returns
  have hts : ∀ w ∈ TS, w.before ([.ref h0] : List Value).toArray s = true := fun w hw => hK.2.1 w hw _
  have hown : s.vm.findClass RX5 = some m.cls := findClass_of_methodNamed B9.named
  have hlocks := B9.notSynchronized
  have hS : va_S (fun q : Nat => G q ∈ ([11] : List Nat)) s.heap s.heap [] := va_S.rf
  have hAz : ∀ q, (fun q : Nat => G q ∈ ([11] : List Nat)) q → z0 ≤ q := zL hGz (by decide)
  have hW_0 := hW
  have hl := lv_entry ([.ref h0]) (n := 1) (Nat.le_of_ble_eq_true rfl)
  rw [lg_entry_eq]
  generalize (lg_sl ([.ref h0]) ++ List.replicate (1 - (lg_sl ([.ref h0])).length) Slot.unset).toArray = ls at hl ⊢
  have hl : lv_has ls 1 [(0, .ref h0)] := hl
  refine lv_aload_n hx hb dX5_clear_0 rfl (lv_at hl 0 rfl) ?_
  refine lv_iconst (v := 0) hx hb dX5_clear_1 (by decide) ?_
  have ha_1 := tx_11 hT hG
  have h9_2 := tw_11 hW_0 hG
  refine rr_put (D := DG E) (ci := 5) (v := .int 0) (ty := .int) (C := RX5) (T := TX5) (N := 6) hx hb hts iw_X5 tyX5 tyX5_ok nmX5 hown hK.1 ha_1 hS (by show G h0 ∈ ([11] : List Nat); rw [hG]; decide) rfl 3 (by decide) (hts _ fl_X5_26) (fun _ h9 => h9) rfl (by decide +kernel) rfl rfl (Nat.le_of_ble_eq_true rfl) dX5_clear_2 (fun H locs hn ho hz hS => ?_)
  obtain ⟨B_3, eB_3⟩ : ∃ z : AA, z = uA B h0 (upd (B h0) 3 0) := ⟨_, rfl⟩
  have sB_3 : B_3 h0 3 = 0 := by rw [eB_3, uA_s]; exact upd_s
  have nB_3 : ∀ k, k ≠ 3 → B_3 h0 k = B h0 k := fun k hk => by rw [eB_3, uA_s]; exact upd_n hk
  have fB_3 : ∀ c, G c ≠ 11 → B_3 c = B c := fun c hc => by rw [eB_3]; exact uA_n (fun e => hc (by rw [e]; exact hG))
  have hT : TX E G B_3 R H := by rw [eB_3]; exact hT.w (by rw [hG]; exact hn) ho
  have hWB_3 : TW G B_3 R := by rw [eB_3]; exact hW_0.w (by rw [hG]; exact ⟨h9_2.1, h9_2.2.1, (show 0 ≤ (0 : Int32).toInt ∧ (0 : Int32).toInt ≤ 3 from by decide), h9_2.2.2.2⟩)
  have hW := hWB_3
  refine lv_aload_n hx hb dX5_clear_5 rfl (lv_at hl 0 rfl) ?_
  refine lv_iconst (v := 0) hx hb dX5_clear_6 (by decide) ?_
  have ha_4 := tx_11 hT hG
  have h9_5 := tw_11 hWB_3 hG
  refine rr_put (D := DG E) (ci := 5) (v := .int 0) (ty := .int) (C := RX5) (T := TX5) (N := 6) hx hb hts iw_X5 tyX5 tyX5_ok nmX5 hown hK.1 ha_4 hS (by show G h0 ∈ ([11] : List Nat); rw [hG]; decide) rfl 4 (by decide) (hts _ fl_X5_29) (fun _ h9 => h9) rfl (by decide +kernel) rfl rfl (Nat.le_of_ble_eq_true rfl) dX5_clear_7 (fun H locs hn ho hz hS => ?_)
  obtain ⟨B_6, eB_6⟩ : ∃ z : AA, z = uA B_3 h0 (upd (B_3 h0) 4 0) := ⟨_, rfl⟩
  have sB_6 : B_6 h0 4 = 0 := by rw [eB_6, uA_s]; exact upd_s
  have nB_6 : ∀ k, k ≠ 4 → B_6 h0 k = B_3 h0 k := fun k hk => by rw [eB_6, uA_s]; exact upd_n hk
  have fB_6 : ∀ c, G c ≠ 11 → B_6 c = B_3 c := fun c hc => by rw [eB_6]; exact uA_n (fun e => hc (by rw [e]; exact hG))
  have hT : TX E G B_6 R H := by rw [eB_6]; exact hT.w (by rw [hG]; exact hn) ho
  have hWB_6 : TW G B_6 R := by rw [eB_6]; exact hWB_3.w (by rw [hG]; exact ⟨h9_5.1, h9_5.2.1, h9_5.2.2.1, (show 0 ≤ (0 : Int32).toInt ∧ (0 : Int32).toInt ≤ 4 from by decide)⟩)
  have hW := hWB_6
  refine lv_aload_n hx hb dX5_clear_10 rfl (lv_at hl 0 rfl) ?_
  refine lv_iconst (v := 0) hx hb dX5_clear_11 (by decide) ?_
  have ha_7 := tx_11 hT hG
  refine rr_put (D := DG E) (ci := 5) (v := .int 0) (ty := .int) (C := RX5) (T := TX5) (N := 6) hx hb hts iw_X5 tyX5 tyX5_ok nmX5 hown hK.1 ha_7 hS (by show G h0 ∈ ([11] : List Nat); rw [hG]; decide) rfl 5 (by decide) (hts _ fl_X5_32) (fun _ h9 => h9) rfl (by decide +kernel) rfl rfl (Nat.le_of_ble_eq_true rfl) dX5_clear_12 (fun H locs hn ho hz hS => ?_)
  obtain ⟨B_8, eB_8⟩ : ∃ z : AA, z = uA B_6 h0 (upd (B_6 h0) 5 0) := ⟨_, rfl⟩
  have sB_8 : B_8 h0 5 = 0 := by rw [eB_8, uA_s]; exact upd_s
  have nB_8 : ∀ k, k ≠ 5 → B_8 h0 k = B_6 h0 k := fun k hk => by rw [eB_8, uA_s]; exact upd_n hk
  have fB_8 : ∀ c, G c ≠ 11 → B_8 c = B_6 c := fun c hc => by rw [eB_8]; exact uA_n (fun e => hc (by rw [e]; exact hG))
  have hT : TX E G B_8 R H := by rw [eB_8]; exact hT.w (by rw [hG]; exact hn) ho
  have hWB_8 : TW G B_8 R := by rw [eB_8]; exact hWB_6.w (by rw [hG]; exact tw_11 hWB_6 hG)
  have hW := hWB_8
  exact W.vret hx hb hr (fun t ht hW9 => ⟨⟨B_8, rfl, ⟨hW, (Fr.w (Fr.w (Fr.w Fr.rf hG (by decide) eB_3) hG (by decide) eB_6) hG (by decide) eB_8), ⟨B_3, eB_3, B_6, eB_6, B_8, eB_8, rfl⟩⟩, (by show TX E G B_8 R t.heap; rw [ht]; exact hT)⟩, hS.F ht⟩) hS.2.2 dX5_clear_15
theorem dX5_isFull_0 : decode cX5_isFull 0 = .ok (.aload_n 0, 1) := by decide +kernel
theorem dX5_isFull_1 : decode cX5_isFull 1 = .ok (.getfield 29, 3) := by decide +kernel
theorem dX5_isFull_4 : decode cX5_isFull 4 = .ok (.iconst 4, 1) := by decide +kernel
theorem dX5_isFull_5 : decode cX5_isFull 5 = .ok (.if_icmp .ne 7, 3) := by decide +kernel
theorem dX5_isFull_8 : decode cX5_isFull 8 = .ok (.iconst 1, 1) := by decide +kernel
theorem dX5_isFull_9 : decode cX5_isFull 9 = .ok (.goto 4, 3) := by decide +kernel
theorem dX5_isFull_12 : decode cX5_isFull 12 = .ok (.iconst 0, 1) := by decide +kernel
theorem dX5_isFull_13 : decode cX5_isFull 13 = .ok (.ireturn, 1) := by decide +kernel
set_option maxHeartbeats 8000000 in
set_option maxRecDepth 100000 in
theorem x_X5_isFull (l : Launch) (E : EE) (z0 : Nat) (G : Nat → Nat) (hGz : ∀ q, G q ≠ 0 → z0 ≤ q) (B : AA) (R : RR) (hW : TW G B R) (h0 : Nat) (hG : G h0 = 11) : Met l yX5_isFull [Cond.code yX5_isFull cX5_isFull 1 (some .boolean)] ({ frames := 0, cells := 0, slots := 0, locals := 0 } : Room) (va_Pc [.ref h0] (fun U => TX E G B R U.heap ∧ KS E z0 U)) (va_Qi (fun (r : Int32) (u : Unit) => (r = 0 ∨ r = 1) ∧ (r.toInt = 1 ∨ (B h0 4).toInt ≤ 3) ∧ (C_X5_isFull G B R h0 r)) (fun u t => True) (fun _ : Nat => False)) 0 0 (fun _ : Nat => False) := by
  refine Met.ofW (cc := cX5_isFull) (maxL := 1) (ret := (some .boolean)) (by decide) rfl ?_
  intro p e s m args below meth c s₁ B9 hml hv
  obtain ⟨rfl, hT, hK⟩ := hv
  have hx := B9.exec
  have hb := B9.bytes
  have hr := B9.returns
  have hts : ∀ w ∈ TS, w.before ([.ref h0] : List Value).toArray s = true := fun w hw => hK.2.1 w hw _
  have hown : s.vm.findClass RX5 = some m.cls := findClass_of_methodNamed B9.named
  have hlocks := B9.notSynchronized
  have hS : va_S (fun _ : Nat => False) s.heap s.heap [] := va_S.rf
  have hAz : ∀ q, (fun _ : Nat => False) q → z0 ≤ q := fun _ h => h.elim
  have hW_0 := hW
  have hl := lv_entry ([.ref h0]) (n := 1) (Nat.le_of_ble_eq_true rfl)
  rw [lg_entry_eq]
  generalize (lg_sl ([.ref h0]) ++ List.replicate (1 - (lg_sl ([.ref h0])).length) Slot.unset).toArray = ls at hl ⊢
  have hl : lv_has ls 1 [(0, .ref h0)] := hl
  refine lv_aload_n hx hb dX5_isFull_0 rfl (lv_at hl 0 rfl) ?_
  have ha_1 := tx_11 hT hG
  have hb_2 := (tw_11 hW_0 hG).2.2.2
  refine va_get (D := DG E) (ci := 5) (v := .int (B h0 4)) (C := RX5) (T := TX5) (N := 6) hx hb hts iw_X5 hown hK.1 (va_one ha_1) 0 rfl rfl 4 (by decide) (hts _ fl_X5_29) (fun _ h9 => h9) rfl dX5_isFull_1 ?_
  refine lv_iconst (v := 4) hx hb dX5_isFull_4 (by decide) ?_
  refine lv_icmp_ne (tgt := 12) hx hb dX5_isFull_5 (by decide) (fun c_3 => ?_) (fun c_3 => ?_)
  · simp only [lt_I, le_I, eq_I, i_0, i_1, i_2, i_3, i_4, i_5, i_6, i_7, i_8, i_10, i_12, i_16, i_20, i_23, i_24, i_31, i_32, i_63, i_64, i_m1] at c_3
    refine lv_iconst (v := 0) hx hb dX5_isFull_12 (by decide) ?_
    exact W.zret (v := 0) (ty := .boolean) hx hb hr rfl (fun t ht hW9 => ⟨⟨0, (), rfl, ⟨(by decide), (by show (0 : Int32).toInt = 1 ∨ (B h0 4).toInt ≤ 3; have := i_0; omega), (Or.inl ⟨c_3, rfl⟩)⟩, trivial⟩, hS.F ht⟩) hS.2.2 dX5_isFull_13
  · simp only [lt_I, le_I, eq_I, i_0, i_1, i_2, i_3, i_4, i_5, i_6, i_7, i_8, i_10, i_12, i_16, i_20, i_23, i_24, i_31, i_32, i_63, i_64, i_m1] at c_3
    refine lv_iconst (v := 1) hx hb dX5_isFull_8 (by decide) ?_
    refine lv_goto (tgt := 13) hx hb dX5_isFull_9 (by decide) ?_
    exact W.zret (v := 1) (ty := .boolean) hx hb hr rfl (fun t ht hW9 => ⟨⟨1, (), rfl, ⟨(by decide), (by show (1 : Int32).toInt = 1 ∨ (B h0 4).toInt ≤ 3; have := i_1; omega), (Or.inr ⟨c_3, rfl⟩)⟩, trivial⟩, hS.F ht⟩) hS.2.2 dX5_isFull_13
theorem dX5_at_0 : decode cX5_at 0 = .ok (.aload_n 0, 1) := by decide +kernel
theorem dX5_at_1 : decode cX5_at 1 = .ok (.getfield 11, 3) := by decide +kernel
theorem dX5_at_4 : decode cX5_at 4 = .ok (.aload_n 0, 1) := by decide +kernel
theorem dX5_at_5 : decode cX5_at 5 = .ok (.getfield 26, 3) := by decide +kernel
theorem dX5_at_8 : decode cX5_at 8 = .ok (.iload_n 1, 1) := by decide +kernel
theorem dX5_at_9 : decode cX5_at 9 = .ok (.iadd, 1) := by decide +kernel
theorem dX5_at_10 : decode cX5_at 10 = .ok (.iconst 4, 1) := by decide +kernel
theorem dX5_at_11 : decode cX5_at 11 = .ok (.irem, 1) := by decide +kernel
theorem dX5_at_12 : decode cX5_at 12 = .ok (.aaload, 1) := by decide +kernel
theorem dX5_at_13 : decode cX5_at 13 = .ok (.areturn, 1) := by decide +kernel
set_option maxHeartbeats 8000000 in
set_option maxRecDepth 100000 in
theorem x_X5_at (l : Launch) (E : EE) (z0 : Nat) (G : Nat → Nat) (hGz : ∀ q, G q ≠ 0 → z0 ≤ q) (B : AA) (R : RR) (hW : TW G B R) (h0 : Nat) (p0 : Int32) (hG : G h0 = 11) (hy0 : 0 ≤ p0.toInt ∧ p0.toInt ≤ 4) : Met l yX5_at [Cond.code yX5_at cX5_at 2 (some (.object "RemoteReach$Posted"))] ({ frames := 0, cells := 0, slots := 0, locals := 0 } : Room) (va_Pc [.ref h0, .int p0] (fun U => TX E G B R U.heap ∧ KS E z0 U)) (va_Qr (fun (u : Unit) => True) (fun u ra t => ((G ra = 13) ∧ (C_X5_at G B R h0 p0 ra))) (fun _ : Nat => False)) 0 0 (fun _ : Nat => False) := by
  refine Met.ofW (cc := cX5_at) (maxL := 2) (ret := (some (.object "RemoteReach$Posted"))) (by decide) rfl ?_
  intro p e s m args below meth c s₁ B9 hml hv
  obtain ⟨rfl, hT, hK⟩ := hv
  have hx := B9.exec
  have hb := B9.bytes
  have hr := B9.returns
  have hts : ∀ w ∈ TS, w.before ([.ref h0, .int p0] : List Value).toArray s = true := fun w hw => hK.2.1 w hw _
  have hown : s.vm.findClass RX5 = some m.cls := findClass_of_methodNamed B9.named
  have hlocks := B9.notSynchronized
  have hS : va_S (fun _ : Nat => False) s.heap s.heap [] := va_S.rf
  have hAz : ∀ q, (fun _ : Nat => False) q → z0 ≤ q := fun _ h => h.elim
  have hW_0 := hW
  have hl := lv_entry ([.ref h0, .int p0]) (n := 2) (Nat.le_of_ble_eq_true rfl)
  rw [lg_entry_eq]
  generalize (lg_sl ([.ref h0, .int p0]) ++ List.replicate (2 - (lg_sl ([.ref h0, .int p0])).length) Slot.unset).toArray = ls at hl ⊢
  have hl : lv_has ls 2 [(0, .ref h0), (1, .int p0)] := hl
  refine lv_aload_n hx hb dX5_at_0 rfl (lv_at hl 0 rfl) ?_
  have ha_1 := tx_11 hT hG
  have hg_2 : G (R h0 2) = 12 := (tw_11 hW hG).2.1
  refine va_get (D := DG E) (ci := 5) (v := .ref (R h0 2)) (C := RX5) (T := TX5) (N := 6) hx hb hts iw_X5 hown hK.1 (va_one ha_1) 0 rfl rfl 2 (by decide) (hts _ fl_X5_11) (fun _ h9 => h9) rfl dX5_at_1 ?_
  refine lv_aload_n hx hb dX5_at_4 rfl (lv_at hl 0 rfl) ?_
  have hb_3 := (tw_11 hW_0 hG).2.2.1
  refine va_get (D := DG E) (ci := 5) (v := .int (B h0 3)) (C := RX5) (T := TX5) (N := 6) hx hb hts iw_X5 hown hK.1 (va_one ha_1) 0 rfl rfl 3 (by decide) (hts _ fl_X5_26) (fun _ h9 => h9) rfl dX5_at_5 ?_
  refine lv_iload_n hx hb dX5_at_8 rfl (lv_at hl 1 rfl) ?_
  refine lv_iadd hx hb dX5_at_9 ?_
  refine lv_topi (fun x_4 ex_4 => ?_)
  have fx_4 : x_4.toInt = (B h0 3).toInt + p0.toInt := by have h9 := s_add (x := (B h0 3)) (y := p0) (by omega) (by omega); rw [ex_4]; exact h9
  refine lv_iconst (v := 4) hx hb dX5_at_10 (by decide) ?_
  refine lv_irem hx hb dX5_at_11 (by decide) ?_
  refine lv_topi (fun x_5 ex_5 => ?_)
  have fx_5 : x_5.toInt = x_4.toInt % 4 := by have h9 := s_rem (x := x_4) 4 (by decide) (by decide) (by omega); rw [ex_5]; exact h9
  have ha_6 := tx_12 hT hg_2
  have hi_7 : vp_in x_5 4 := vp_in_iff.mpr (by omega)
  obtain ⟨n_8, hn_8, en_8⟩ := x_nat (x := x_5) (by omega)
  have hg_9 : G (R (R h0 2) n_8) = 13 := (tw_12 hW hg_2) n_8 (by omega)
  refine va_aldq (D := DG E) hx hb hK.1 (va_one ha_6) 0 6 rfl rfl hi_7 dX5_at_12 ?_
  refine W.eq (g2 := F0 m 13 ls [.ref (R (R h0 2) n_8)]) (by rw [en_8]; rfl) ?_
  exact W.aret (v := .ref (R (R h0 2) n_8)) hx hb hr (Or.inl ⟨_, rfl⟩) (Or.inr ⟨_, rfl⟩) (fun t ht hW9 => ⟨⟨(), (R (R h0 2) n_8), rfl, trivial, ⟨hg_9, ⟨x_4, ex_4, fx_4, x_5, ex_5, fx_5, n_8, hn_8, rfl⟩⟩⟩, hS.F ht⟩) hS.2.2 dX5_at_13
theorem dX5_append_0 : decode cX5_append 0 = .ok (.aload_n 0, 1) := by decide +kernel
theorem dX5_append_1 : decode cX5_append 1 = .ok (.aload_n 0, 1) := by decide +kernel
theorem dX5_append_2 : decode cX5_append 2 = .ok (.getfield 29, 3) := by decide +kernel
theorem dX5_append_5 : decode cX5_append 5 = .ok (.invokevirtual 35, 3) := by decide +kernel
theorem dX5_append_8 : decode cX5_append 8 = .ok (.astore 4, 2) := by decide +kernel
theorem dX5_append_10 : decode cX5_append 10 = .ok (.aload 4, 2) := by decide +kernel
theorem dX5_append_12 : decode cX5_append 12 = .ok (.iload_n 1, 1) := by decide +kernel
theorem dX5_append_13 : decode cX5_append 13 = .ok (.putfield 39, 3) := by decide +kernel
theorem dX5_append_16 : decode cX5_append 16 = .ok (.aload 4, 2) := by decide +kernel
theorem dX5_append_18 : decode cX5_append 18 = .ok (.aload_n 0, 1) := by decide +kernel
theorem dX5_append_19 : decode cX5_append 19 = .ok (.getfield 32, 3) := by decide +kernel
theorem dX5_append_22 : decode cX5_append 22 = .ok (.putfield 42, 3) := by decide +kernel
theorem dX5_append_25 : decode cX5_append 25 = .ok (.aload 4, 2) := by decide +kernel
theorem dX5_append_27 : decode cX5_append 27 = .ok (.iload_n 2, 1) := by decide +kernel
theorem dX5_append_28 : decode cX5_append 28 = .ok (.putfield 45, 3) := by decide +kernel
theorem dX5_append_31 : decode cX5_append 31 = .ok (.aload 4, 2) := by decide +kernel
theorem dX5_append_33 : decode cX5_append 33 = .ok (.iload_n 3, 1) := by decide +kernel
theorem dX5_append_34 : decode cX5_append 34 = .ok (.putfield 48, 3) := by decide +kernel
theorem dX5_append_37 : decode cX5_append 37 = .ok (.aload 4, 2) := by decide +kernel
theorem dX5_append_39 : decode cX5_append 39 = .ok (.iconst 0, 1) := by decide +kernel
theorem dX5_append_40 : decode cX5_append 40 = .ok (.putfield 51, 3) := by decide +kernel
theorem dX5_append_43 : decode cX5_append 43 = .ok (.aload_n 0, 1) := by decide +kernel
theorem dX5_append_44 : decode cX5_append 44 = .ok (.dup, 1) := by decide +kernel
theorem dX5_append_45 : decode cX5_append 45 = .ok (.getfield 32, 3) := by decide +kernel
theorem dX5_append_48 : decode cX5_append 48 = .ok (.iconst 1, 1) := by decide +kernel
theorem dX5_append_49 : decode cX5_append 49 = .ok (.iadd, 1) := by decide +kernel
theorem dX5_append_50 : decode cX5_append 50 = .ok (.putfield 32, 3) := by decide +kernel
theorem dX5_append_53 : decode cX5_append 53 = .ok (.aload_n 0, 1) := by decide +kernel
theorem dX5_append_54 : decode cX5_append 54 = .ok (.dup, 1) := by decide +kernel
theorem dX5_append_55 : decode cX5_append 55 = .ok (.getfield 29, 3) := by decide +kernel
theorem dX5_append_58 : decode cX5_append 58 = .ok (.iconst 1, 1) := by decide +kernel
theorem dX5_append_59 : decode cX5_append 59 = .ok (.iadd, 1) := by decide +kernel
theorem dX5_append_60 : decode cX5_append 60 = .ok (.putfield 29, 3) := by decide +kernel
theorem dX5_append_63 : decode cX5_append 63 = .ok (.aload 4, 2) := by decide +kernel
theorem dX5_append_65 : decode cX5_append 65 = .ok (.areturn, 1) := by decide +kernel
set_option maxHeartbeats 8000000 in
set_option maxRecDepth 100000 in
theorem x_X5_append (l : Launch) (E : EE) (z0 : Nat) (G : Nat → Nat) (hGz : ∀ q, G q ≠ 0 → z0 ≤ q) (B : AA) (R : RR) (hW : TW G B R) (h0 : Nat) (p0 : Int32) (p1 : Int32) (p2 : Int32) (hG : G h0 = 11) (hy0 : 0 ≤ p2.toInt ∧ p2.toInt ≤ 12) (hy1 : (B h0 4).toInt ≤ 3) : Met l yX5_append [Cond.code yX5_append cX5_append 5 (some (.object "RemoteReach$Posted"))] ({ frames := 1, cells := 0, slots := 0, locals := 21 } : Room) (va_Pc [.ref h0, .int p0, .int p1, .int p2] (fun U => TX E G B R U.heap ∧ KS E z0 U)) (va_Qr (fun (u : AA) => True) (fun u ra t => ((G ra = 13) ∧ (TW G u R) ∧ (Fr G ([11, 13] : List Nat) B u) ∧ (C_X5_append G B R h0 p0 p1 p2 u ra)) ∧ TX E G u R t.heap) (fun q : Nat => G q ∈ ([11, 13] : List Nat))) 0 0 (fun q : Nat => G q ∈ ([11, 13] : List Nat)) := by
  refine Met.ofW (cc := cX5_append) (maxL := 5) (ret := (some (.object "RemoteReach$Posted"))) (by decide) rfl ?_
  intro p e s m args below meth c s₁ B9 hml hv
  obtain ⟨rfl, hT, hK⟩ := hv
  have hx := B9.exec
  have hb := B9.bytes
  have hr := B9.returns
  have hts : ∀ w ∈ TS, w.before ([.ref h0, .int p0, .int p1, .int p2] : List Value).toArray s = true := fun w hw => hK.2.1 w hw _
  have hown : s.vm.findClass RX5 = some m.cls := findClass_of_methodNamed B9.named
  have hlocks := B9.notSynchronized
  have hS : va_S (fun q : Nat => G q ∈ ([11, 13] : List Nat)) s.heap s.heap [] := va_S.rf
  have hAz : ∀ q, (fun q : Nat => G q ∈ ([11, 13] : List Nat)) q → z0 ≤ q := zL hGz (by decide)
  have hW_0 := hW
  have hl := lv_entry ([.ref h0, .int p0, .int p1, .int p2]) (n := 5) (Nat.le_of_ble_eq_true rfl)
  rw [lg_entry_eq]
  generalize (lg_sl ([.ref h0, .int p0, .int p1, .int p2]) ++ List.replicate (5 - (lg_sl ([.ref h0, .int p0, .int p1, .int p2])).length) Slot.unset).toArray = ls at hl ⊢
  have hl : lv_has ls 5 [(0, .ref h0), (1, .int p0), (2, .int p1), (3, .int p2)] := hl
  refine lv_aload_n hx hb dX5_append_0 rfl (lv_at hl 0 rfl) ?_
  refine lv_aload_n hx hb dX5_append_1 rfl (lv_at hl 0 rfl) ?_
  have ha_1 := tx_11 hT hG
  have hb_2 := (tw_11 hW_0 hG).2.2.2
  refine va_get (D := DG E) (ci := 5) (v := .int (B h0 4)) (C := RX5) (T := TX5) (N := 6) hx hb hts iw_X5 hown hK.1 (va_one ha_1) 0 rfl rfl 4 (by decide) (hts _ fl_X5_29) (fun _ h9 => h9) rfl dX5_append_2 ?_
  refine va_callr (rnV (fun H => TX E G B R H) (As := [.int (B h0 4)]) (rest := []) ⟨hx, hb, hml, hown, hts⟩ (x_X5_at l E z0 G hGz B R hW h0 (B h0 4) hG (show 0 ≤ (B h0 4).toInt ∧ (B h0 4).toInt ≤ 4 from by first | decide | omega)) (cwV 1 hts (gdV ml_X5_35 im_X5_at se_X5_X5_at in_X5 co_X5_at rfl) rfl rfl rfl (by decide +kernel) ⟨Nat.le_of_ble_eq_true rfl, Nat.le_of_ble_eq_true rfl⟩) hT (fun U hU hW => hK.go hW hS hAz hU) (va_recv hK.1 (va_one ha_1) (ci := 5) (q0 := 0) rfl rfl) rfl rfl hl.1 rfl (lv_room (Nat.le_of_ble_eq_true rfl)) dX5_append_5 ⟨Nat.le_of_ble_eq_true rfl, Nat.le_of_ble_eq_true rfl⟩) hS (fun q _ h => h.elim) (fun q h => h.elim) (fun _ r_3 t H locs ht hvm hwr_3 hB hz hk hS => ?_)
  have hT : TX E G B R H := hT.kept (fun q hq => hk q hq (fun h => h))
  have hRr_3 := hB
  have hgr_3 : G r_3 = 13 := hRr_3.1
  have hCr_3 : C_X5_at G B R h0 (B h0 4) r_3 := hRr_3.2
  refine lv_astore (lv' := [(4, .ref r_3), (0, .ref h0), (1, .int p0), (2, .int p1), (3, .int p2)]) hx hb dX5_append_8 hl (by decide) rfl (fun ls hl => ?_)
  refine lv_aload hx hb dX5_append_10 (lv_at hl 0 rfl) ?_
  refine lv_iload_n hx hb dX5_append_12 rfl (lv_at hl 2 rfl) ?_
  have ha_4 := tx_13 hT hgr_3
  refine rr_put (D := DG E) (ci := 4) (v := .int p0) (ty := .int) (C := RX4) (T := TX4) (N := 10) hx hb hts iw_X4 tyX4 tyX4_ok nmX4 hown hK.1 ha_4 hS (by show G r_3 ∈ ([11, 13] : List Nat); rw [hgr_3]; decide) rfl 0 (by decide) (hts _ fl_X5_39) (fun _ h9 => h9) rfl (by decide +kernel) rfl rfl (Nat.le_of_ble_eq_true rfl) dX5_append_13 (fun H locs hn ho hz hS => ?_)
  obtain ⟨B_5, eB_5⟩ : ∃ z : AA, z = uA B r_3 (upd (B r_3) 0 p0) := ⟨_, rfl⟩
  have sB_5 : B_5 r_3 0 = p0 := by rw [eB_5, uA_s]; exact upd_s
  have nB_5 : ∀ k, k ≠ 0 → B_5 r_3 k = B r_3 k := fun k hk => by rw [eB_5, uA_s]; exact upd_n hk
  have fB_5 : ∀ c, G c ≠ 13 → B_5 c = B c := fun c hc => by rw [eB_5]; exact uA_n (fun e => hc (by rw [e]; exact hgr_3))
  have hT : TX E G B_5 R H := by rw [eB_5]; exact hT.w (by rw [hgr_3]; exact hn) ho
  have hWB_5 : TW G B_5 R := by rw [eB_5]; exact hW_0.w (by rw [hgr_3]; exact tw_13 hW_0 hgr_3)
  have hW := hWB_5
  refine lv_aload hx hb dX5_append_16 (lv_at hl 0 rfl) ?_
  refine lv_aload_n hx hb dX5_append_18 rfl (lv_at hl 1 rfl) ?_
  have ha_6 := tx_11 hT hG
  have l_7 : B_5 h0 5 = (B h0 5) := (congrFun (fB_5 h0 (by rw [hG]; decide)) 5)
  refine va_get (D := DG E) (ci := 5) (v := .int (B_5 h0 5)) (C := RX5) (T := TX5) (N := 6) hx hb hts iw_X5 hown hK.1 (va_one ha_6) 0 rfl rfl 5 (by decide) (hts _ fl_X5_32) (fun _ h9 => h9) rfl dX5_append_19 ?_
  refine W.eq (g2 := F0 m 22 ls [.int (B h0 5), .ref r_3]) (by rw [l_7]) ?_
  have ha_8 := tx_13 hT hgr_3
  refine rr_put (D := DG E) (ci := 4) (v := .int (B h0 5)) (ty := .int) (C := RX4) (T := TX4) (N := 10) hx hb hts iw_X4 tyX4 tyX4_ok nmX4 hown hK.1 ha_8 hS (by show G r_3 ∈ ([11, 13] : List Nat); rw [hgr_3]; decide) rfl 1 (by decide) (hts _ fl_X5_42) (fun _ h9 => h9) rfl (by decide +kernel) rfl rfl (Nat.le_of_ble_eq_true rfl) dX5_append_22 (fun H locs hn ho hz hS => ?_)
  obtain ⟨B_9, eB_9⟩ : ∃ z : AA, z = uA B_5 r_3 (upd (B_5 r_3) 1 (B h0 5)) := ⟨_, rfl⟩
  have sB_9 : B_9 r_3 1 = (B h0 5) := by rw [eB_9, uA_s]; exact upd_s
  have nB_9 : ∀ k, k ≠ 1 → B_9 r_3 k = B_5 r_3 k := fun k hk => by rw [eB_9, uA_s]; exact upd_n hk
  have fB_9 : ∀ c, G c ≠ 13 → B_9 c = B_5 c := fun c hc => by rw [eB_9]; exact uA_n (fun e => hc (by rw [e]; exact hgr_3))
  have hT : TX E G B_9 R H := by rw [eB_9]; exact hT.w (by rw [hgr_3]; exact hn) ho
  have hWB_9 : TW G B_9 R := by rw [eB_9]; exact hWB_5.w (by rw [hgr_3]; exact tw_13 hWB_5 hgr_3)
  have hW := hWB_9
  refine lv_aload hx hb dX5_append_25 (lv_at hl 0 rfl) ?_
  refine lv_iload_n hx hb dX5_append_27 rfl (lv_at hl 3 rfl) ?_
  have ha_10 := tx_13 hT hgr_3
  refine rr_put (D := DG E) (ci := 4) (v := .int p1) (ty := .int) (C := RX4) (T := TX4) (N := 10) hx hb hts iw_X4 tyX4 tyX4_ok nmX4 hown hK.1 ha_10 hS (by show G r_3 ∈ ([11, 13] : List Nat); rw [hgr_3]; decide) rfl 2 (by decide) (hts _ fl_X5_45) (fun _ h9 => h9) rfl (by decide +kernel) rfl rfl (Nat.le_of_ble_eq_true rfl) dX5_append_28 (fun H locs hn ho hz hS => ?_)
  obtain ⟨B_11, eB_11⟩ : ∃ z : AA, z = uA B_9 r_3 (upd (B_9 r_3) 2 p1) := ⟨_, rfl⟩
  have sB_11 : B_11 r_3 2 = p1 := by rw [eB_11, uA_s]; exact upd_s
  have nB_11 : ∀ k, k ≠ 2 → B_11 r_3 k = B_9 r_3 k := fun k hk => by rw [eB_11, uA_s]; exact upd_n hk
  have fB_11 : ∀ c, G c ≠ 13 → B_11 c = B_9 c := fun c hc => by rw [eB_11]; exact uA_n (fun e => hc (by rw [e]; exact hgr_3))
  have hT : TX E G B_11 R H := by rw [eB_11]; exact hT.w (by rw [hgr_3]; exact hn) ho
  have hWB_11 : TW G B_11 R := by rw [eB_11]; exact hWB_9.w (by rw [hgr_3]; exact tw_13 hWB_9 hgr_3)
  have hW := hWB_11
  refine lv_aload hx hb dX5_append_31 (lv_at hl 0 rfl) ?_
  refine lv_iload_n hx hb dX5_append_33 rfl (lv_at hl 4 rfl) ?_
  have ha_12 := tx_13 hT hgr_3
  have h9_13 := tw_13 hWB_11 hgr_3
  refine rr_put (D := DG E) (ci := 4) (v := .int p2) (ty := .int) (C := RX4) (T := TX4) (N := 10) hx hb hts iw_X4 tyX4 tyX4_ok nmX4 hown hK.1 ha_12 hS (by show G r_3 ∈ ([11, 13] : List Nat); rw [hgr_3]; decide) rfl 3 (by decide) (hts _ fl_X5_48) (fun _ h9 => h9) rfl (by decide +kernel) rfl rfl (Nat.le_of_ble_eq_true rfl) dX5_append_34 (fun H locs hn ho hz hS => ?_)
  obtain ⟨B_14, eB_14⟩ : ∃ z : AA, z = uA B_11 r_3 (upd (B_11 r_3) 3 p2) := ⟨_, rfl⟩
  have sB_14 : B_14 r_3 3 = p2 := by rw [eB_14, uA_s]; exact upd_s
  have nB_14 : ∀ k, k ≠ 3 → B_14 r_3 k = B_11 r_3 k := fun k hk => by rw [eB_14, uA_s]; exact upd_n hk
  have fB_14 : ∀ c, G c ≠ 13 → B_14 c = B_11 c := fun c hc => by rw [eB_14]; exact uA_n (fun e => hc (by rw [e]; exact hgr_3))
  have hT : TX E G B_14 R H := by rw [eB_14]; exact hT.w (by rw [hgr_3]; exact hn) ho
  have hWB_14 : TW G B_14 R := by rw [eB_14]; exact hWB_11.w (by rw [hgr_3]; exact (show 0 ≤ (p2 : Int32).toInt ∧ (p2 : Int32).toInt ≤ 12 from by omega))
  have hW := hWB_14
  refine lv_aload hx hb dX5_append_37 (lv_at hl 0 rfl) ?_
  refine lv_iconst (v := 0) hx hb dX5_append_39 (by decide) ?_
  have ha_15 := tx_13 hT hgr_3
  refine rr_put (D := DG E) (ci := 4) (v := .int 0) (ty := .int) (C := RX4) (T := TX4) (N := 10) hx hb hts iw_X4 tyX4 tyX4_ok nmX4 hown hK.1 ha_15 hS (by show G r_3 ∈ ([11, 13] : List Nat); rw [hgr_3]; decide) rfl 9 (by decide) (hts _ fl_X5_51) (fun _ h9 => h9) rfl (by decide +kernel) rfl rfl (Nat.le_of_ble_eq_true rfl) dX5_append_40 (fun H locs hn ho hz hS => ?_)
  obtain ⟨B_16, eB_16⟩ : ∃ z : AA, z = uA B_14 r_3 (upd (B_14 r_3) 9 0) := ⟨_, rfl⟩
  have sB_16 : B_16 r_3 9 = 0 := by rw [eB_16, uA_s]; exact upd_s
  have nB_16 : ∀ k, k ≠ 9 → B_16 r_3 k = B_14 r_3 k := fun k hk => by rw [eB_16, uA_s]; exact upd_n hk
  have fB_16 : ∀ c, G c ≠ 13 → B_16 c = B_14 c := fun c hc => by rw [eB_16]; exact uA_n (fun e => hc (by rw [e]; exact hgr_3))
  have hT : TX E G B_16 R H := by rw [eB_16]; exact hT.w (by rw [hgr_3]; exact hn) ho
  have hWB_16 : TW G B_16 R := by rw [eB_16]; exact hWB_14.w (by rw [hgr_3]; exact tw_13 hWB_14 hgr_3)
  have hW := hWB_16
  refine lv_aload_n hx hb dX5_append_43 rfl (lv_at hl 1 rfl) ?_
  refine lv_dup hx hb dX5_append_44 rfl ?_
  have ha_17 := tx_11 hT hG
  have l_18 : B_16 h0 5 = (B h0 5) := ((congrFun (fB_16 h0 (by rw [hG]; decide)) 5)).trans (((congrFun (fB_14 h0 (by rw [hG]; decide)) 5)).trans (((congrFun (fB_11 h0 (by rw [hG]; decide)) 5)).trans (((congrFun (fB_9 h0 (by rw [hG]; decide)) 5)).trans ((congrFun (fB_5 h0 (by rw [hG]; decide)) 5)))))
  refine va_get (D := DG E) (ci := 5) (v := .int (B_16 h0 5)) (C := RX5) (T := TX5) (N := 6) hx hb hts iw_X5 hown hK.1 (va_one ha_17) 0 rfl rfl 5 (by decide) (hts _ fl_X5_32) (fun _ h9 => h9) rfl dX5_append_45 ?_
  refine W.eq (g2 := F0 m 48 ls [.int (B h0 5), .ref h0]) (by rw [l_18]) ?_
  refine lv_iconst (v := 1) hx hb dX5_append_48 (by decide) ?_
  refine lv_iadd hx hb dX5_append_49 ?_
  refine lv_topi (fun x_19 ex_19 => ?_)
  refine rr_put (D := DG E) (ci := 5) (v := .int x_19) (ty := .int) (C := RX5) (T := TX5) (N := 6) hx hb hts iw_X5 tyX5 tyX5_ok nmX5 hown hK.1 ha_17 hS (by show G h0 ∈ ([11, 13] : List Nat); rw [hG]; decide) rfl 5 (by decide) (hts _ fl_X5_32) (fun _ h9 => h9) rfl (by decide +kernel) rfl rfl (Nat.le_of_ble_eq_true rfl) dX5_append_50 (fun H locs hn ho hz hS => ?_)
  obtain ⟨B_20, eB_20⟩ : ∃ z : AA, z = uA B_16 h0 (upd (B_16 h0) 5 x_19) := ⟨_, rfl⟩
  have sB_20 : B_20 h0 5 = x_19 := by rw [eB_20, uA_s]; exact upd_s
  have nB_20 : ∀ k, k ≠ 5 → B_20 h0 k = B_16 h0 k := fun k hk => by rw [eB_20, uA_s]; exact upd_n hk
  have fB_20 : ∀ c, G c ≠ 11 → B_20 c = B_16 c := fun c hc => by rw [eB_20]; exact uA_n (fun e => hc (by rw [e]; exact hG))
  have hT : TX E G B_20 R H := by rw [eB_20]; exact hT.w (by rw [hG]; exact hn) ho
  have hWB_20 : TW G B_20 R := by rw [eB_20]; exact hWB_16.w (by rw [hG]; exact tw_11 hWB_16 hG)
  have hW := hWB_20
  refine lv_aload_n hx hb dX5_append_53 rfl (lv_at hl 1 rfl) ?_
  refine lv_dup hx hb dX5_append_54 rfl ?_
  have ha_21 := tx_11 hT hG
  have l_22 : B_20 h0 4 = (B h0 4) := ((nB_20 4 (by decide))).trans (((congrFun (fB_16 h0 (by rw [hG]; decide)) 4)).trans (((congrFun (fB_14 h0 (by rw [hG]; decide)) 4)).trans (((congrFun (fB_11 h0 (by rw [hG]; decide)) 4)).trans (((congrFun (fB_9 h0 (by rw [hG]; decide)) 4)).trans ((congrFun (fB_5 h0 (by rw [hG]; decide)) 4))))))
  refine va_get (D := DG E) (ci := 5) (v := .int (B_20 h0 4)) (C := RX5) (T := TX5) (N := 6) hx hb hts iw_X5 hown hK.1 (va_one ha_21) 0 rfl rfl 4 (by decide) (hts _ fl_X5_29) (fun _ h9 => h9) rfl dX5_append_55 ?_
  refine W.eq (g2 := F0 m 58 ls [.int (B h0 4), .ref h0]) (by rw [l_22]) ?_
  refine lv_iconst (v := 1) hx hb dX5_append_58 (by decide) ?_
  refine lv_iadd hx hb dX5_append_59 ?_
  refine lv_topi (fun x_23 ex_23 => ?_)
  have fx_23 : x_23.toInt = (B h0 4).toInt + 1 := by have h9 := s_add (x := (B h0 4)) (y := 1) (by rw [i_1]; omega) (by rw [i_1]; omega); rw [i_1] at h9; rw [ex_23]; exact h9
  have h9_24 := tw_11 hWB_20 hG
  refine rr_put (D := DG E) (ci := 5) (v := .int x_23) (ty := .int) (C := RX5) (T := TX5) (N := 6) hx hb hts iw_X5 tyX5 tyX5_ok nmX5 hown hK.1 ha_21 hS (by show G h0 ∈ ([11, 13] : List Nat); rw [hG]; decide) rfl 4 (by decide) (hts _ fl_X5_29) (fun _ h9 => h9) rfl (by decide +kernel) rfl rfl (Nat.le_of_ble_eq_true rfl) dX5_append_60 (fun H locs hn ho hz hS => ?_)
  obtain ⟨B_25, eB_25⟩ : ∃ z : AA, z = uA B_20 h0 (upd (B_20 h0) 4 x_23) := ⟨_, rfl⟩
  have sB_25 : B_25 h0 4 = x_23 := by rw [eB_25, uA_s]; exact upd_s
  have nB_25 : ∀ k, k ≠ 4 → B_25 h0 k = B_20 h0 k := fun k hk => by rw [eB_25, uA_s]; exact upd_n hk
  have fB_25 : ∀ c, G c ≠ 11 → B_25 c = B_20 c := fun c hc => by rw [eB_25]; exact uA_n (fun e => hc (by rw [e]; exact hG))
  have hT : TX E G B_25 R H := by rw [eB_25]; exact hT.w (by rw [hG]; exact hn) ho
  have hWB_25 : TW G B_25 R := by rw [eB_25]; exact hWB_20.w (by rw [hG]; exact ⟨h9_24.1, h9_24.2.1, h9_24.2.2.1, (show 0 ≤ (x_23 : Int32).toInt ∧ (x_23 : Int32).toInt ≤ 4 from by omega)⟩)
  have hW := hWB_25
  refine lv_aload hx hb dX5_append_63 (lv_at hl 0 rfl) ?_
  exact W.aret (v := .ref r_3) hx hb hr (Or.inl ⟨_, rfl⟩) (Or.inr ⟨_, rfl⟩) (fun t ht hW9 => ⟨⟨B_25, r_3, rfl, trivial, ⟨⟨hgr_3, hW, (Fr.w (Fr.w (Fr.w (Fr.w (Fr.w (Fr.w (Fr.w Fr.rf hgr_3 (by decide) eB_5) hgr_3 (by decide) eB_9) hgr_3 (by decide) eB_11) hgr_3 (by decide) eB_14) hgr_3 (by decide) eB_16) hG (by decide) eB_20) hG (by decide) eB_25), ⟨r_3, hCr_3, B_5, eB_5, B_9, eB_9, B_11, eB_11, B_14, eB_14, B_16, eB_16, x_19, ex_19, B_20, eB_20, x_23, ex_23, fx_23, B_25, eB_25, rfl, rfl⟩⟩, (by show TX E G B_25 R t.heap; rw [ht]; exact hT)⟩⟩, hS.F ht⟩) hS.2.2 dX5_append_65
theorem dX5_completeFirst_0 : decode cX5_completeFirst 0 = .ok (.aload_n 0, 1) := by decide +kernel
theorem dX5_completeFirst_1 : decode cX5_completeFirst 1 = .ok (.getfield 21, 3) := by decide +kernel
theorem dX5_completeFirst_4 : decode cX5_completeFirst 4 = .ok (.aload_n 0, 1) := by decide +kernel
theorem dX5_completeFirst_5 : decode cX5_completeFirst 5 = .ok (.getfield 17, 3) := by decide +kernel
theorem dX5_completeFirst_8 : decode cX5_completeFirst 8 = .ok (.aload_n 0, 1) := by decide +kernel
theorem dX5_completeFirst_9 : decode cX5_completeFirst 9 = .ok (.iconst 0, 1) := by decide +kernel
theorem dX5_completeFirst_10 : decode cX5_completeFirst 10 = .ok (.invokevirtual 35, 3) := by decide +kernel
theorem dX5_completeFirst_13 : decode cX5_completeFirst 13 = .ok (.iload_n 1, 1) := by decide +kernel
theorem dX5_completeFirst_14 : decode cX5_completeFirst 14 = .ok (.invokevirtual 54, 3) := by decide +kernel
theorem dX5_completeFirst_17 : decode cX5_completeFirst 17 = .ok (.aload_n 0, 1) := by decide +kernel
theorem dX5_completeFirst_18 : decode cX5_completeFirst 18 = .ok (.aload_n 0, 1) := by decide +kernel
theorem dX5_completeFirst_19 : decode cX5_completeFirst 19 = .ok (.getfield 26, 3) := by decide +kernel
theorem dX5_completeFirst_22 : decode cX5_completeFirst 22 = .ok (.iconst 1, 1) := by decide +kernel
theorem dX5_completeFirst_23 : decode cX5_completeFirst 23 = .ok (.iadd, 1) := by decide +kernel
theorem dX5_completeFirst_24 : decode cX5_completeFirst 24 = .ok (.iconst 4, 1) := by decide +kernel
theorem dX5_completeFirst_25 : decode cX5_completeFirst 25 = .ok (.irem, 1) := by decide +kernel
theorem dX5_completeFirst_26 : decode cX5_completeFirst 26 = .ok (.putfield 26, 3) := by decide +kernel
theorem dX5_completeFirst_29 : decode cX5_completeFirst 29 = .ok (.aload_n 0, 1) := by decide +kernel
theorem dX5_completeFirst_30 : decode cX5_completeFirst 30 = .ok (.dup, 1) := by decide +kernel
theorem dX5_completeFirst_31 : decode cX5_completeFirst 31 = .ok (.getfield 29, 3) := by decide +kernel
theorem dX5_completeFirst_34 : decode cX5_completeFirst 34 = .ok (.iconst 1, 1) := by decide +kernel
theorem dX5_completeFirst_35 : decode cX5_completeFirst 35 = .ok (.isub, 1) := by decide +kernel
theorem dX5_completeFirst_36 : decode cX5_completeFirst 36 = .ok (.putfield 29, 3) := by decide +kernel
theorem dX5_completeFirst_39 : decode cX5_completeFirst 39 = .ok (.return_, 1) := by decide +kernel
set_option maxHeartbeats 8000000 in
set_option maxRecDepth 100000 in
theorem x_X5_completeFirst (l : Launch) (E : EE) (z0 : Nat) (G : Nat → Nat) (hGz : ∀ q, G q ≠ 0 → z0 ≤ q) (B : AA) (R : RR) (hW : TW G B R) (h0 : Nat) (p0 : Int32) (hG : G h0 = 11) (hy0 : 1 ≤ (B h0 4).toInt) : Met l yX5_completeFirst [Cond.code yX5_completeFirst cX5_completeFirst 2 none] ({ frames := 1, cells := 0, slots := 0, locals := 24 } : Room) (va_Pc [.ref h0, .int p0] (fun U => TX E G B R U.heap ∧ KS E z0 U)) (va_Qv (fun (u : AA) => (TW G u R) ∧ (Fr G ([5, 15, 11] : List Nat) B u) ∧ (C_X5_completeFirst G B R h0 p0 u)) (fun u t => TX E G u R t.heap) (fun q : Nat => G q ∈ ([5, 15, 11] : List Nat))) 0 0 (fun q : Nat => G q ∈ ([5, 15, 11] : List Nat)) := by
  refine Met.ofW (cc := cX5_completeFirst) (maxL := 2) (ret := none) (by decide) rfl ?_
  intro p e s m args below meth c s₁ B9 hml hv
  obtain ⟨rfl, hT, hK⟩ := hv
  have hx := B9.exec
  have hb := B9.bytes
  have hr := B9.returns
  have hts : ∀ w ∈ TS, w.before ([.ref h0, .int p0] : List Value).toArray s = true := fun w hw => hK.2.1 w hw _
  have hown : s.vm.findClass RX5 = some m.cls := findClass_of_methodNamed B9.named
  have hlocks := B9.notSynchronized
  have hS : va_S (fun q : Nat => G q ∈ ([5, 15, 11] : List Nat)) s.heap s.heap [] := va_S.rf
  have hAz : ∀ q, (fun q : Nat => G q ∈ ([5, 15, 11] : List Nat)) q → z0 ≤ q := zL hGz (by decide)
  have hW_0 := hW
  have hl := lv_entry ([.ref h0, .int p0]) (n := 2) (Nat.le_of_ble_eq_true rfl)
  rw [lg_entry_eq]
  generalize (lg_sl ([.ref h0, .int p0]) ++ List.replicate (2 - (lg_sl ([.ref h0, .int p0])).length) Slot.unset).toArray = ls at hl ⊢
  have hl : lv_has ls 2 [(0, .ref h0), (1, .int p0)] := hl
  refine lv_aload_n hx hb dX5_completeFirst_0 rfl (lv_at hl 0 rfl) ?_
  have ha_1 := tx_11 hT hG
  have hg_2 : G (R h0 1) = 5 := (tw_11 hW hG).1
  refine va_get (D := DG E) (ci := 5) (v := .ref (R h0 1)) (C := RX5) (T := TX5) (N := 6) hx hb hts iw_X5 hown hK.1 (va_one ha_1) 0 rfl rfl 1 (by decide) (hts _ fl_X5_21) (fun _ h9 => h9) rfl dX5_completeFirst_1 ?_
  refine lv_aload_n hx hb dX5_completeFirst_4 rfl (lv_at hl 0 rfl) ?_
  refine va_get (D := DG E) (ci := 5) (v := .int (B h0 0)) (C := RX5) (T := TX5) (N := 6) hx hb hts iw_X5 hown hK.1 (va_one ha_1) 0 rfl rfl 0 (by decide) (hts _ fl_X5_17) (fun _ h9 => h9) rfl dX5_completeFirst_5 ?_
  refine lv_aload_n hx hb dX5_completeFirst_8 rfl (lv_at hl 0 rfl) ?_
  refine lv_iconst (v := 0) hx hb dX5_completeFirst_9 (by decide) ?_
  refine va_callr (rnV (fun H => TX E G B R H) (As := [.int 0]) (rest := [.int (B h0 0), .ref (R h0 1)]) ⟨hx, hb, hml, hown, hts⟩ (x_X5_at l E z0 G hGz B R hW h0 (0 : Int32) hG (show 0 ≤ (0 : Int32).toInt ∧ (0 : Int32).toInt ≤ 4 from by have := i_0; first | decide | omega)) (cwV 1 hts (gdV ml_X5_35 im_X5_at se_X5_X5_at in_X5 co_X5_at rfl) rfl rfl rfl (by decide +kernel) ⟨Nat.le_of_ble_eq_true rfl, Nat.le_of_ble_eq_true rfl⟩) hT (fun U hU hW => hK.go hW hS hAz hU) (va_recv hK.1 (va_one ha_1) (ci := 5) (q0 := 0) rfl rfl) rfl rfl hl.1 rfl (lv_room (Nat.le_of_ble_eq_true rfl)) dX5_completeFirst_10 ⟨Nat.le_of_ble_eq_true rfl, Nat.le_of_ble_eq_true rfl⟩) hS (fun q _ h => h.elim) (fun q h => h.elim) (fun _ r_3 t H locs ht hvm hwr_3 hB hz hk hS => ?_)
  have hT : TX E G B R H := hT.kept (fun q hq => hk q hq (fun h => h))
  have hRr_3 := hB
  have hgr_3 : G r_3 = 13 := hRr_3.1
  have hCr_3 : C_X5_at G B R h0 (0 : Int32) r_3 := hRr_3.2
  refine lv_iload_n hx hb dX5_completeFirst_13 rfl (lv_at hl 1 rfl) ?_
  have ha_4 := tx_5 hT hg_2
  refine va_callv (rnV (fun H => TX E G B R H) (As := [.int (B h0 0), .ref r_3, .int p0]) (rest := []) ⟨hx, hb, hml, hown, hts⟩ (x_X1_complete l E z0 G hGz B R hW (R h0 1) (B h0 0) r_3 p0 hg_2 hgr_3) (cwV 3 hts (gdV ml_X5_54 im_X1_complete se_X1_X1_complete in_X1 co_X1_complete rfl) rfl rfl rfl (by decide +kernel) ⟨Nat.le_of_ble_eq_true rfl, Nat.le_of_ble_eq_true rfl⟩) hT (fun U hU hW => hK.go hW hS hAz hU) (va_recv hK.1 (va_one ha_4) (ci := 1) (q0 := 0) rfl rfl) rfl rfl hl.1 rfl (lv_room (Nat.le_of_ble_eq_true rfl)) dX5_completeFirst_14 ⟨Nat.le_of_ble_eq_true rfl, Nat.le_of_ble_eq_true rfl⟩) hS (fun q _ h => mL (L' := [5, 15]) (L := [5, 15, 11]) (by decide) h) (fun q h => mL (L' := [5, 15]) (L := [5, 15, 11]) (by decide) h) (fun U_6 t H locs ht hvm hwr_5 hB hz hk hS => ?_)
  have hT : TX E G U_6 R H := by rw [ht] at hB; exact hB
  have hWr_5 : TW G U_6 R := hwr_5.1
  have hW := hWr_5
  have hFr_5 : Fr G [5, 15] B U_6 := hwr_5.2.1
  have hCr_5 : C_X1_complete G B R (R h0 1) (B h0 0) r_3 p0 U_6 := hwr_5.2.2
  refine lv_aload_n hx hb dX5_completeFirst_17 rfl (lv_at hl 0 rfl) ?_
  refine lv_aload_n hx hb dX5_completeFirst_18 rfl (lv_at hl 0 rfl) ?_
  have ha_7 := tx_11 hT hG
  have l_8 : U_6 h0 3 = (B h0 3) := (congrFun (hFr_5 h0 (by rw [hG]; decide)) 3)
  have hb_9 := (tw_11 hW_0 hG).2.2.1
  refine va_get (D := DG E) (ci := 5) (v := .int (U_6 h0 3)) (C := RX5) (T := TX5) (N := 6) hx hb hts iw_X5 hown hK.1 (va_one ha_7) 0 rfl rfl 3 (by decide) (hts _ fl_X5_26) (fun _ h9 => h9) rfl dX5_completeFirst_19 ?_
  refine W.eq (g2 := F0 m 22 ls [.int (B h0 3), .ref h0]) (by rw [l_8]) ?_
  refine lv_iconst (v := 1) hx hb dX5_completeFirst_22 (by decide) ?_
  refine lv_iadd hx hb dX5_completeFirst_23 ?_
  refine lv_topi (fun x_10 ex_10 => ?_)
  have fx_10 : x_10.toInt = (B h0 3).toInt + 1 := by have h9 := s_add (x := (B h0 3)) (y := 1) (by rw [i_1]; omega) (by rw [i_1]; omega); rw [i_1] at h9; rw [ex_10]; exact h9
  refine lv_iconst (v := 4) hx hb dX5_completeFirst_24 (by decide) ?_
  refine lv_irem hx hb dX5_completeFirst_25 (by decide) ?_
  refine lv_topi (fun x_11 ex_11 => ?_)
  have fx_11 : x_11.toInt = x_10.toInt % 4 := by have h9 := s_rem (x := x_10) 4 (by decide) (by decide) (by omega); rw [ex_11]; exact h9
  have h9_12 := tw_11 hWr_5 hG
  refine rr_put (D := DG E) (ci := 5) (v := .int x_11) (ty := .int) (C := RX5) (T := TX5) (N := 6) hx hb hts iw_X5 tyX5 tyX5_ok nmX5 hown hK.1 ha_7 hS (by show G h0 ∈ ([5, 15, 11] : List Nat); rw [hG]; decide) rfl 3 (by decide) (hts _ fl_X5_26) (fun _ h9 => h9) rfl (by decide +kernel) rfl rfl (Nat.le_of_ble_eq_true rfl) dX5_completeFirst_26 (fun H locs hn ho hz hS => ?_)
  obtain ⟨B_13, eB_13⟩ : ∃ z : AA, z = uA U_6 h0 (upd (U_6 h0) 3 x_11) := ⟨_, rfl⟩
  have sB_13 : B_13 h0 3 = x_11 := by rw [eB_13, uA_s]; exact upd_s
  have nB_13 : ∀ k, k ≠ 3 → B_13 h0 k = U_6 h0 k := fun k hk => by rw [eB_13, uA_s]; exact upd_n hk
  have fB_13 : ∀ c, G c ≠ 11 → B_13 c = U_6 c := fun c hc => by rw [eB_13]; exact uA_n (fun e => hc (by rw [e]; exact hG))
  have hT : TX E G B_13 R H := by rw [eB_13]; exact hT.w (by rw [hG]; exact hn) ho
  have hWB_13 : TW G B_13 R := by rw [eB_13]; exact hWr_5.w (by rw [hG]; exact ⟨h9_12.1, h9_12.2.1, (show 0 ≤ (x_11 : Int32).toInt ∧ (x_11 : Int32).toInt ≤ 3 from by omega), h9_12.2.2.2⟩)
  have hW := hWB_13
  refine lv_aload_n hx hb dX5_completeFirst_29 rfl (lv_at hl 0 rfl) ?_
  refine lv_dup hx hb dX5_completeFirst_30 rfl ?_
  have ha_14 := tx_11 hT hG
  have l_15 : B_13 h0 4 = (B h0 4) := ((nB_13 4 (by decide))).trans ((congrFun (hFr_5 h0 (by rw [hG]; decide)) 4))
  have hb_16 := (tw_11 hW_0 hG).2.2.2
  refine va_get (D := DG E) (ci := 5) (v := .int (B_13 h0 4)) (C := RX5) (T := TX5) (N := 6) hx hb hts iw_X5 hown hK.1 (va_one ha_14) 0 rfl rfl 4 (by decide) (hts _ fl_X5_29) (fun _ h9 => h9) rfl dX5_completeFirst_31 ?_
  refine W.eq (g2 := F0 m 34 ls [.int (B h0 4), .ref h0]) (by rw [l_15]) ?_
  refine lv_iconst (v := 1) hx hb dX5_completeFirst_34 (by decide) ?_
  refine lv_isub hx hb dX5_completeFirst_35 ?_
  refine lv_topi (fun x_17 ex_17 => ?_)
  have fx_17 : x_17.toInt = (B h0 4).toInt - 1 := by have h9 := s_sub (x := (B h0 4)) (y := 1) (by rw [i_1]; omega) (by rw [i_1]; omega); rw [i_1] at h9; rw [ex_17]; exact h9
  have h9_18 := tw_11 hWB_13 hG
  refine rr_put (D := DG E) (ci := 5) (v := .int x_17) (ty := .int) (C := RX5) (T := TX5) (N := 6) hx hb hts iw_X5 tyX5 tyX5_ok nmX5 hown hK.1 ha_14 hS (by show G h0 ∈ ([5, 15, 11] : List Nat); rw [hG]; decide) rfl 4 (by decide) (hts _ fl_X5_29) (fun _ h9 => h9) rfl (by decide +kernel) rfl rfl (Nat.le_of_ble_eq_true rfl) dX5_completeFirst_36 (fun H locs hn ho hz hS => ?_)
  obtain ⟨B_19, eB_19⟩ : ∃ z : AA, z = uA B_13 h0 (upd (B_13 h0) 4 x_17) := ⟨_, rfl⟩
  have sB_19 : B_19 h0 4 = x_17 := by rw [eB_19, uA_s]; exact upd_s
  have nB_19 : ∀ k, k ≠ 4 → B_19 h0 k = B_13 h0 k := fun k hk => by rw [eB_19, uA_s]; exact upd_n hk
  have fB_19 : ∀ c, G c ≠ 11 → B_19 c = B_13 c := fun c hc => by rw [eB_19]; exact uA_n (fun e => hc (by rw [e]; exact hG))
  have hT : TX E G B_19 R H := by rw [eB_19]; exact hT.w (by rw [hG]; exact hn) ho
  have hWB_19 : TW G B_19 R := by rw [eB_19]; exact hWB_13.w (by rw [hG]; exact ⟨h9_18.1, h9_18.2.1, h9_18.2.2.1, (show 0 ≤ (x_17 : Int32).toInt ∧ (x_17 : Int32).toInt ≤ 4 from by omega)⟩)
  have hW := hWB_19
  exact W.vret hx hb hr (fun t ht hW9 => ⟨⟨B_19, rfl, ⟨hW, (Fr.w (Fr.w (Fr.c Fr.rf hFr_5 (by decide)) hG (by decide) eB_13) hG (by decide) eB_19), ⟨r_3, hCr_3, U_6, hFr_5, hCr_5, x_10, ex_10, fx_10, x_11, ex_11, fx_11, B_13, eB_13, x_17, ex_17, fx_17, B_19, eB_19, rfl⟩⟩, (by show TX E G B_19 R t.heap; rw [ht]; exact hT)⟩, hS.F ht⟩) hS.2.2 dX5_completeFirst_39
theorem dX5_completeAll_0 : decode cX5_completeAll 0 = .ok (.iload_n 1, 1) := by decide +kernel
theorem dX5_completeAll_1 : decode cX5_completeAll 1 = .ok (.istore_n 2, 1) := by decide +kernel
theorem dX5_completeAll_2 : decode cX5_completeAll 2 = .ok (.iconst 0, 1) := by decide +kernel
theorem dX5_completeAll_3 : decode cX5_completeAll 3 = .ok (.istore_n 3, 1) := by decide +kernel
theorem dX5_completeAll_4 : decode cX5_completeAll 4 = .ok (.iload_n 3, 1) := by decide +kernel
theorem dX5_completeAll_5 : decode cX5_completeAll 5 = .ok (.iconst 4, 1) := by decide +kernel
theorem dX5_completeAll_6 : decode cX5_completeAll 6 = .ok (.if_icmp .ge 23, 3) := by decide +kernel
theorem dX5_completeAll_9 : decode cX5_completeAll 9 = .ok (.aload_n 0, 1) := by decide +kernel
theorem dX5_completeAll_10 : decode cX5_completeAll 10 = .ok (.getfield 29, 3) := by decide +kernel
theorem dX5_completeAll_13 : decode cX5_completeAll 13 = .ok (.ifCond .le 16, 3) := by decide +kernel
theorem dX5_completeAll_16 : decode cX5_completeAll 16 = .ok (.aload_n 0, 1) := by decide +kernel
theorem dX5_completeAll_17 : decode cX5_completeAll 17 = .ok (.iload_n 2, 1) := by decide +kernel
theorem dX5_completeAll_18 : decode cX5_completeAll 18 = .ok (.invokevirtual 60, 3) := by decide +kernel
theorem dX5_completeAll_21 : decode cX5_completeAll 21 = .ok (.iconst 5, 1) := by decide +kernel
theorem dX5_completeAll_22 : decode cX5_completeAll 22 = .ok (.istore_n 2, 1) := by decide +kernel
theorem dX5_completeAll_23 : decode cX5_completeAll 23 = .ok (.iinc 3 1, 3) := by decide +kernel
theorem dX5_completeAll_26 : decode cX5_completeAll 26 = .ok (.goto (-22), 3) := by decide +kernel
theorem dX5_completeAll_29 : decode cX5_completeAll 29 = .ok (.return_, 1) := by decide +kernel
set_option maxHeartbeats 8000000 in
set_option maxRecDepth 100000 in
theorem x_X5_completeAll (l : Launch) (E : EE) (z0 : Nat) (G : Nat → Nat) (hGz : ∀ q, G q ≠ 0 → z0 ≤ q) (B : AA) (R : RR) (hW : TW G B R) (h0 : Nat) (p0 : Int32) (hG : G h0 = 11) : Met l yX5_completeAll [Cond.code yX5_completeAll cX5_completeAll 4 none] ({ frames := 2, cells := 0, slots := 0, locals := 45 } : Room) (va_Pc [.ref h0, .int p0] (fun U => TX E G B R U.heap ∧ KS E z0 U)) (va_Qv (fun (u : AA) => (TW G u R) ∧ (Fr G ([5, 15, 11] : List Nat) B u) ∧ (C_X5_completeAll G B R h0 p0 u)) (fun u t => TX E G u R t.heap) (fun q : Nat => G q ∈ ([5, 15, 11] : List Nat))) 0 0 (fun q : Nat => G q ∈ ([5, 15, 11] : List Nat)) := by
  refine Met.ofW (cc := cX5_completeAll) (maxL := 4) (ret := none) (by decide) rfl ?_
  intro p e s m args below meth c s₁ B9 hml hv
  obtain ⟨rfl, hT, hK⟩ := hv
  have hx := B9.exec
  have hb := B9.bytes
  have hr := B9.returns
  have hts : ∀ w ∈ TS, w.before ([.ref h0, .int p0] : List Value).toArray s = true := fun w hw => hK.2.1 w hw _
  have hown : s.vm.findClass RX5 = some m.cls := findClass_of_methodNamed B9.named
  have hlocks := B9.notSynchronized
  have hS : va_S (fun q : Nat => G q ∈ ([5, 15, 11] : List Nat)) s.heap s.heap [] := va_S.rf
  have hAz : ∀ q, (fun q : Nat => G q ∈ ([5, 15, 11] : List Nat)) q → z0 ≤ q := zL hGz (by decide)
  have hW_0 := hW
  have hl := lv_entry ([.ref h0, .int p0]) (n := 4) (Nat.le_of_ble_eq_true rfl)
  rw [lg_entry_eq]
  generalize (lg_sl ([.ref h0, .int p0]) ++ List.replicate (4 - (lg_sl ([.ref h0, .int p0])).length) Slot.unset).toArray = ls at hl ⊢
  have hl : lv_has ls 4 [(0, .ref h0), (1, .int p0)] := hl
  refine lv_iload_n hx hb dX5_completeAll_0 rfl (lv_at hl 1 rfl) ?_
  refine lv_istore_n (lv' := [(2, .int p0), (0, .ref h0), (1, .int p0)]) hx hb dX5_completeAll_1 rfl hl (by decide) rfl (fun ls hl => ?_)
  refine lv_iconst (v := 0) hx hb dX5_completeAll_2 (by decide) ?_
  refine lv_istore_n (lv' := [(3, .int 0), (2, .int p0), (0, .ref h0), (1, .int p0)]) hx hb dX5_completeAll_3 rfl hl (by decide) rfl (fun ls hl => ?_)
  refine lv_iload_n hx hb dX5_completeAll_4 rfl (lv_at hl 0 rfl) ?_
  refine lv_iconst (v := 4) hx hb dX5_completeAll_5 (by decide) ?_
  refine lv_icmp_ge (tgt := 29) hx hb dX5_completeAll_6 (by decide) (fun c_1 => absurd c_1 (by decide)) (fun c_1 => ?_)
  refine lv_aload_n hx hb dX5_completeAll_9 rfl (lv_at hl 2 rfl) ?_
  have ha_2 := tx_11 hT hG
  have hb_3 := (tw_11 hW_0 hG).2.2.2
  refine va_get (D := DG E) (ci := 5) (v := .int (B h0 4)) (C := RX5) (T := TX5) (N := 6) hx hb hts iw_X5 hown hK.1 (va_one ha_2) 0 rfl rfl 4 (by decide) (hts _ fl_X5_29) (fun _ h9 => h9) rfl dX5_completeAll_10 ?_
  refine lv_if_le (tgt := 29) hx hb dX5_completeAll_13 (by decide) (fun c_4 => ?_) (fun c_4 => ?_)
  · simp only [lt_I, le_I, eq_I, i_0, i_1, i_2, i_3, i_4, i_5, i_6, i_7, i_8, i_10, i_12, i_16, i_20, i_23, i_24, i_31, i_32, i_63, i_64, i_m1] at c_4
    exact W.vret hx hb hr (fun t ht hW9 => ⟨⟨B, rfl, ⟨hW, Fr.rf, (Or.inl ⟨c_4, rfl⟩)⟩, (by show TX E G B R t.heap; rw [ht]; exact hT)⟩, hS.F ht⟩) hS.2.2 dX5_completeAll_29
  · simp only [lt_I, le_I, eq_I, i_0, i_1, i_2, i_3, i_4, i_5, i_6, i_7, i_8, i_10, i_12, i_16, i_20, i_23, i_24, i_31, i_32, i_63, i_64, i_m1] at c_4
    refine lv_aload_n hx hb dX5_completeAll_16 rfl (lv_at hl 2 rfl) ?_
    refine lv_iload_n hx hb dX5_completeAll_17 rfl (lv_at hl 1 rfl) ?_
    refine va_callv (rnV (fun H => TX E G B R H) (As := [.int p0]) (rest := []) ⟨hx, hb, hml, hown, hts⟩ (x_X5_completeFirst l E z0 G hGz B R hW h0 p0 hG (show 1 ≤ (B h0 4).toInt from by first | decide | omega)) (cwV 1 hts (gdV ml_X5_60 im_X5_completeFirst se_X5_X5_completeFirst in_X5 co_X5_completeFirst rfl) rfl rfl rfl (by decide +kernel) ⟨Nat.le_of_ble_eq_true rfl, Nat.le_of_ble_eq_true rfl⟩) hT (fun U hU hW => hK.go hW hS hAz hU) (va_recv hK.1 (va_one ha_2) (ci := 5) (q0 := 0) rfl rfl) rfl rfl hl.1 rfl (lv_room (Nat.le_of_ble_eq_true rfl)) dX5_completeAll_18 ⟨Nat.le_of_ble_eq_true rfl, Nat.le_of_ble_eq_true rfl⟩) hS (fun q _ h => mL (L' := [5, 15, 11]) (L := [5, 15, 11]) (by decide) h) (fun q h => mL (L' := [5, 15, 11]) (L := [5, 15, 11]) (by decide) h) (fun U_6 t H locs ht hvm hwr_5 hB hz hk hS => ?_)
    have hT : TX E G U_6 R H := by rw [ht] at hB; exact hB
    have hWr_5 : TW G U_6 R := hwr_5.1
    have hW := hWr_5
    have hFr_5 : Fr G [5, 15, 11] B U_6 := hwr_5.2.1
    have hCr_5 : C_X5_completeFirst G B R h0 p0 U_6 := hwr_5.2.2
    refine lv_iconst (v := 5) hx hb dX5_completeAll_21 (by decide) ?_
    refine lv_istore_n (lv' := [(2, .int 5), (3, .int 0), (0, .ref h0), (1, .int p0)]) hx hb dX5_completeAll_22 rfl hl (by decide) rfl (fun ls hl => ?_)
    refine lv_iinc (v := 1) (lv' := [(3, .int 1), (2, .int 5), (0, .ref h0), (1, .int p0)]) hx hb dX5_completeAll_23 hl (k := 1) rfl (by decide) (by decide) rfl (fun ls hl => ?_)
    refine lv_goto (tgt := 4) hx hb dX5_completeAll_26 (by decide) ?_
    refine lv_iload_n hx hb dX5_completeAll_4 rfl (lv_at hl 0 rfl) ?_
    refine lv_iconst (v := 4) hx hb dX5_completeAll_5 (by decide) ?_
    refine lv_icmp_ge (tgt := 29) hx hb dX5_completeAll_6 (by decide) (fun c_7 => absurd c_7 (by decide)) (fun c_7 => ?_)
    refine lv_aload_n hx hb dX5_completeAll_9 rfl (lv_at hl 2 rfl) ?_
    have ha_8 := tx_11 hT hG
    have hb_9 := (tw_11 hWr_5 hG).2.2.2
    refine va_get (D := DG E) (ci := 5) (v := .int (U_6 h0 4)) (C := RX5) (T := TX5) (N := 6) hx hb hts iw_X5 hown hK.1 (va_one ha_8) 0 rfl rfl 4 (by decide) (hts _ fl_X5_29) (fun _ h9 => h9) rfl dX5_completeAll_10 ?_
    refine lv_if_le (tgt := 29) hx hb dX5_completeAll_13 (by decide) (fun c_10 => ?_) (fun c_10 => ?_)
    · simp only [lt_I, le_I, eq_I, i_0, i_1, i_2, i_3, i_4, i_5, i_6, i_7, i_8, i_10, i_12, i_16, i_20, i_23, i_24, i_31, i_32, i_63, i_64, i_m1] at c_10
      exact W.vret hx hb hr (fun t ht hW9 => ⟨⟨U_6, rfl, ⟨hW, (Fr.c Fr.rf hFr_5 (by decide)), (Or.inr (Or.inl ⟨c_4, U_6, hFr_5, hCr_5, c_10, rfl⟩))⟩, (by show TX E G U_6 R t.heap; rw [ht]; exact hT)⟩, hS.F ht⟩) hS.2.2 dX5_completeAll_29
    · simp only [lt_I, le_I, eq_I, i_0, i_1, i_2, i_3, i_4, i_5, i_6, i_7, i_8, i_10, i_12, i_16, i_20, i_23, i_24, i_31, i_32, i_63, i_64, i_m1] at c_10
      refine lv_aload_n hx hb dX5_completeAll_16 rfl (lv_at hl 2 rfl) ?_
      refine lv_iload_n hx hb dX5_completeAll_17 rfl (lv_at hl 1 rfl) ?_
      refine va_callv (rnV (fun H => TX E G U_6 R H) (As := [.int 5]) (rest := []) ⟨hx, hb, hml, hown, hts⟩ (x_X5_completeFirst l E z0 G hGz U_6 R hW h0 (5 : Int32) hG (show 1 ≤ (U_6 h0 4).toInt from by have := i_5; first | decide | omega)) (cwV 1 hts (gdV ml_X5_60 im_X5_completeFirst se_X5_X5_completeFirst in_X5 co_X5_completeFirst rfl) rfl rfl rfl (by decide +kernel) ⟨Nat.le_of_ble_eq_true rfl, Nat.le_of_ble_eq_true rfl⟩) hT (fun U hU hW => hK.go hW hS hAz hU) (va_recv hK.1 (va_one ha_8) (ci := 5) (q0 := 0) rfl rfl) rfl rfl hl.1 rfl (lv_room (Nat.le_of_ble_eq_true rfl)) dX5_completeAll_18 ⟨Nat.le_of_ble_eq_true rfl, Nat.le_of_ble_eq_true rfl⟩) hS (fun q _ h => mL (L' := [5, 15, 11]) (L := [5, 15, 11]) (by decide) h) (fun q h => mL (L' := [5, 15, 11]) (L := [5, 15, 11]) (by decide) h) (fun U_12 t H locs ht hvm hwr_11 hB hz hk hS => ?_)
      have hT : TX E G U_12 R H := by rw [ht] at hB; exact hB
      have hWr_11 : TW G U_12 R := hwr_11.1
      have hW := hWr_11
      have hFr_11 : Fr G [5, 15, 11] U_6 U_12 := hwr_11.2.1
      have hCr_11 : C_X5_completeFirst G U_6 R h0 (5 : Int32) U_12 := hwr_11.2.2
      refine lv_iconst (v := 5) hx hb dX5_completeAll_21 (by decide) ?_
      refine lv_istore_n (lv' := [(2, .int 5), (3, .int 1), (0, .ref h0), (1, .int p0)]) hx hb dX5_completeAll_22 rfl hl (by decide) rfl (fun ls hl => ?_)
      refine lv_iinc (v := 2) (lv' := [(3, .int 2), (2, .int 5), (0, .ref h0), (1, .int p0)]) hx hb dX5_completeAll_23 hl (k := 1) rfl (by decide) (by decide) rfl (fun ls hl => ?_)
      refine lv_goto (tgt := 4) hx hb dX5_completeAll_26 (by decide) ?_
      refine lv_iload_n hx hb dX5_completeAll_4 rfl (lv_at hl 0 rfl) ?_
      refine lv_iconst (v := 4) hx hb dX5_completeAll_5 (by decide) ?_
      refine lv_icmp_ge (tgt := 29) hx hb dX5_completeAll_6 (by decide) (fun c_13 => absurd c_13 (by decide)) (fun c_13 => ?_)
      refine lv_aload_n hx hb dX5_completeAll_9 rfl (lv_at hl 2 rfl) ?_
      have ha_14 := tx_11 hT hG
      have hb_15 := (tw_11 hWr_11 hG).2.2.2
      refine va_get (D := DG E) (ci := 5) (v := .int (U_12 h0 4)) (C := RX5) (T := TX5) (N := 6) hx hb hts iw_X5 hown hK.1 (va_one ha_14) 0 rfl rfl 4 (by decide) (hts _ fl_X5_29) (fun _ h9 => h9) rfl dX5_completeAll_10 ?_
      refine lv_if_le (tgt := 29) hx hb dX5_completeAll_13 (by decide) (fun c_16 => ?_) (fun c_16 => ?_)
      · simp only [lt_I, le_I, eq_I, i_0, i_1, i_2, i_3, i_4, i_5, i_6, i_7, i_8, i_10, i_12, i_16, i_20, i_23, i_24, i_31, i_32, i_63, i_64, i_m1] at c_16
        exact W.vret hx hb hr (fun t ht hW9 => ⟨⟨U_12, rfl, ⟨hW, (Fr.c (Fr.c Fr.rf hFr_5 (by decide)) hFr_11 (by decide)), (Or.inr (Or.inr (Or.inl ⟨c_4, U_6, hFr_5, hCr_5, c_10, U_12, hFr_11, hCr_11, c_16, rfl⟩)))⟩, (by show TX E G U_12 R t.heap; rw [ht]; exact hT)⟩, hS.F ht⟩) hS.2.2 dX5_completeAll_29
      · simp only [lt_I, le_I, eq_I, i_0, i_1, i_2, i_3, i_4, i_5, i_6, i_7, i_8, i_10, i_12, i_16, i_20, i_23, i_24, i_31, i_32, i_63, i_64, i_m1] at c_16
        refine lv_aload_n hx hb dX5_completeAll_16 rfl (lv_at hl 2 rfl) ?_
        refine lv_iload_n hx hb dX5_completeAll_17 rfl (lv_at hl 1 rfl) ?_
        refine va_callv (rnV (fun H => TX E G U_12 R H) (As := [.int 5]) (rest := []) ⟨hx, hb, hml, hown, hts⟩ (x_X5_completeFirst l E z0 G hGz U_12 R hW h0 (5 : Int32) hG (show 1 ≤ (U_12 h0 4).toInt from by have := i_5; first | decide | omega)) (cwV 1 hts (gdV ml_X5_60 im_X5_completeFirst se_X5_X5_completeFirst in_X5 co_X5_completeFirst rfl) rfl rfl rfl (by decide +kernel) ⟨Nat.le_of_ble_eq_true rfl, Nat.le_of_ble_eq_true rfl⟩) hT (fun U hU hW => hK.go hW hS hAz hU) (va_recv hK.1 (va_one ha_14) (ci := 5) (q0 := 0) rfl rfl) rfl rfl hl.1 rfl (lv_room (Nat.le_of_ble_eq_true rfl)) dX5_completeAll_18 ⟨Nat.le_of_ble_eq_true rfl, Nat.le_of_ble_eq_true rfl⟩) hS (fun q _ h => mL (L' := [5, 15, 11]) (L := [5, 15, 11]) (by decide) h) (fun q h => mL (L' := [5, 15, 11]) (L := [5, 15, 11]) (by decide) h) (fun U_18 t H locs ht hvm hwr_17 hB hz hk hS => ?_)
        have hT : TX E G U_18 R H := by rw [ht] at hB; exact hB
        have hWr_17 : TW G U_18 R := hwr_17.1
        have hW := hWr_17
        have hFr_17 : Fr G [5, 15, 11] U_12 U_18 := hwr_17.2.1
        have hCr_17 : C_X5_completeFirst G U_12 R h0 (5 : Int32) U_18 := hwr_17.2.2
        refine lv_iconst (v := 5) hx hb dX5_completeAll_21 (by decide) ?_
        refine lv_istore_n (lv' := [(2, .int 5), (3, .int 2), (0, .ref h0), (1, .int p0)]) hx hb dX5_completeAll_22 rfl hl (by decide) rfl (fun ls hl => ?_)
        refine lv_iinc (v := 3) (lv' := [(3, .int 3), (2, .int 5), (0, .ref h0), (1, .int p0)]) hx hb dX5_completeAll_23 hl (k := 1) rfl (by decide) (by decide) rfl (fun ls hl => ?_)
        refine lv_goto (tgt := 4) hx hb dX5_completeAll_26 (by decide) ?_
        refine lv_iload_n hx hb dX5_completeAll_4 rfl (lv_at hl 0 rfl) ?_
        refine lv_iconst (v := 4) hx hb dX5_completeAll_5 (by decide) ?_
        refine lv_icmp_ge (tgt := 29) hx hb dX5_completeAll_6 (by decide) (fun c_19 => absurd c_19 (by decide)) (fun c_19 => ?_)
        refine lv_aload_n hx hb dX5_completeAll_9 rfl (lv_at hl 2 rfl) ?_
        have ha_20 := tx_11 hT hG
        have hb_21 := (tw_11 hWr_17 hG).2.2.2
        refine va_get (D := DG E) (ci := 5) (v := .int (U_18 h0 4)) (C := RX5) (T := TX5) (N := 6) hx hb hts iw_X5 hown hK.1 (va_one ha_20) 0 rfl rfl 4 (by decide) (hts _ fl_X5_29) (fun _ h9 => h9) rfl dX5_completeAll_10 ?_
        refine lv_if_le (tgt := 29) hx hb dX5_completeAll_13 (by decide) (fun c_22 => ?_) (fun c_22 => ?_)
        · simp only [lt_I, le_I, eq_I, i_0, i_1, i_2, i_3, i_4, i_5, i_6, i_7, i_8, i_10, i_12, i_16, i_20, i_23, i_24, i_31, i_32, i_63, i_64, i_m1] at c_22
          exact W.vret hx hb hr (fun t ht hW9 => ⟨⟨U_18, rfl, ⟨hW, (Fr.c (Fr.c (Fr.c Fr.rf hFr_5 (by decide)) hFr_11 (by decide)) hFr_17 (by decide)), (Or.inr (Or.inr (Or.inr (Or.inl ⟨c_4, U_6, hFr_5, hCr_5, c_10, U_12, hFr_11, hCr_11, c_16, U_18, hFr_17, hCr_17, c_22, rfl⟩))))⟩, (by show TX E G U_18 R t.heap; rw [ht]; exact hT)⟩, hS.F ht⟩) hS.2.2 dX5_completeAll_29
        · simp only [lt_I, le_I, eq_I, i_0, i_1, i_2, i_3, i_4, i_5, i_6, i_7, i_8, i_10, i_12, i_16, i_20, i_23, i_24, i_31, i_32, i_63, i_64, i_m1] at c_22
          refine lv_aload_n hx hb dX5_completeAll_16 rfl (lv_at hl 2 rfl) ?_
          refine lv_iload_n hx hb dX5_completeAll_17 rfl (lv_at hl 1 rfl) ?_
          refine va_callv (rnV (fun H => TX E G U_18 R H) (As := [.int 5]) (rest := []) ⟨hx, hb, hml, hown, hts⟩ (x_X5_completeFirst l E z0 G hGz U_18 R hW h0 (5 : Int32) hG (show 1 ≤ (U_18 h0 4).toInt from by have := i_5; first | decide | omega)) (cwV 1 hts (gdV ml_X5_60 im_X5_completeFirst se_X5_X5_completeFirst in_X5 co_X5_completeFirst rfl) rfl rfl rfl (by decide +kernel) ⟨Nat.le_of_ble_eq_true rfl, Nat.le_of_ble_eq_true rfl⟩) hT (fun U hU hW => hK.go hW hS hAz hU) (va_recv hK.1 (va_one ha_20) (ci := 5) (q0 := 0) rfl rfl) rfl rfl hl.1 rfl (lv_room (Nat.le_of_ble_eq_true rfl)) dX5_completeAll_18 ⟨Nat.le_of_ble_eq_true rfl, Nat.le_of_ble_eq_true rfl⟩) hS (fun q _ h => mL (L' := [5, 15, 11]) (L := [5, 15, 11]) (by decide) h) (fun q h => mL (L' := [5, 15, 11]) (L := [5, 15, 11]) (by decide) h) (fun U_24 t H locs ht hvm hwr_23 hB hz hk hS => ?_)
          have hT : TX E G U_24 R H := by rw [ht] at hB; exact hB
          have hWr_23 : TW G U_24 R := hwr_23.1
          have hW := hWr_23
          have hFr_23 : Fr G [5, 15, 11] U_18 U_24 := hwr_23.2.1
          have hCr_23 : C_X5_completeFirst G U_18 R h0 (5 : Int32) U_24 := hwr_23.2.2
          refine lv_iconst (v := 5) hx hb dX5_completeAll_21 (by decide) ?_
          refine lv_istore_n (lv' := [(2, .int 5), (3, .int 3), (0, .ref h0), (1, .int p0)]) hx hb dX5_completeAll_22 rfl hl (by decide) rfl (fun ls hl => ?_)
          refine lv_iinc (v := 4) (lv' := [(3, .int 4), (2, .int 5), (0, .ref h0), (1, .int p0)]) hx hb dX5_completeAll_23 hl (k := 1) rfl (by decide) (by decide) rfl (fun ls hl => ?_)
          refine lv_goto (tgt := 4) hx hb dX5_completeAll_26 (by decide) ?_
          refine lv_iload_n hx hb dX5_completeAll_4 rfl (lv_at hl 0 rfl) ?_
          refine lv_iconst (v := 4) hx hb dX5_completeAll_5 (by decide) ?_
          refine lv_icmp_ge (tgt := 29) hx hb dX5_completeAll_6 (by decide) (fun c_25 => ?_) (fun c_25 => absurd c_25 (by decide))
          exact W.vret hx hb hr (fun t ht hW9 => ⟨⟨U_24, rfl, ⟨hW, (Fr.c (Fr.c (Fr.c (Fr.c Fr.rf hFr_5 (by decide)) hFr_11 (by decide)) hFr_17 (by decide)) hFr_23 (by decide)), (Or.inr (Or.inr (Or.inr (Or.inr ⟨c_4, U_6, hFr_5, hCr_5, c_10, U_12, hFr_11, hCr_11, c_16, U_18, hFr_17, hCr_17, c_22, U_24, hFr_23, hCr_23, rfl⟩))))⟩, (by show TX E G U_24 R t.heap; rw [ht]; exact hT)⟩, hS.F ht⟩) hS.2.2 dX5_completeAll_29

