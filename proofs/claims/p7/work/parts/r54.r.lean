theorem dX10_numbersOf_0 : decode cX10_numbersOf 0 = .ok (.aload_n 0, 1) := by decide +kernel
theorem dX10_numbersOf_1 : decode cX10_numbersOf 1 = .ok (.getfield 71, 3) := by decide +kernel
theorem dX10_numbersOf_4 : decode cX10_numbersOf 4 = .ok (.iload_n 1, 1) := by decide +kernel
theorem dX10_numbersOf_5 : decode cX10_numbersOf 5 = .ok (.iaload, 1) := by decide +kernel
theorem dX10_numbersOf_6 : decode cX10_numbersOf 6 = .ok (.iconst 3, 1) := by decide +kernel
theorem dX10_numbersOf_7 : decode cX10_numbersOf 7 = .ok (.iadd, 1) := by decide +kernel
theorem dX10_numbersOf_8 : decode cX10_numbersOf 8 = .ok (.iconst 4, 1) := by decide +kernel
theorem dX10_numbersOf_9 : decode cX10_numbersOf 9 = .ok (.idiv, 1) := by decide +kernel
theorem dX10_numbersOf_10 : decode cX10_numbersOf 10 = .ok (.ireturn, 1) := by decide +kernel
set_option maxHeartbeats 8000000 in
set_option maxRecDepth 100000 in
theorem u_X10_numbersOf (l : Launch) (E : EE) (z0 : Nat) (G : Nat → Nat) (hGz : ∀ q, G q ≠ 0 → z0 ≤ q) (h0 : Nat) (rf : Nat → Nat) (hR : MG G h0 rf) (t0 t1 t2 : Int32) (A : AA) (cd pk : Int32) (p0 : Int32) (hI6 : I6 (A 22) (A 23) (A 24) (A 25) (A 26)) (hy0 : 0 ≤ p0.toInt ∧ p0.toInt ≤ 15) : Met l yX10_numbersOf [Cond.code yX10_numbersOf cX10_numbersOf 2 (some .int)] ({ frames := 0, cells := 0, slots := 0, locals := 0 } : Room) (va_Pc [.ref h0, .int p0] (fun U => MH E h0 rf t0 t1 t2 A cd pk U.heap ∧ KS E z0 U)) (va_Qi (fun (r : Int32) (u : Unit) => (0 ≤ r.toInt ∧ r.toInt ≤ 3) ∧ (∀ n : Nat, (n : Int) = p0.toInt → r.toInt = NB (A 24) n) ∧ (D_X10_numbersOf A cd pk p0 r)) (fun u t => True) (fun _ : Nat => False)) 0 0 (fun _ : Nat => False) := by
  refine Met.ofW (cc := cX10_numbersOf) (maxL := 2) (ret := (some .int)) (by decide) rfl ?_
  intro p e s m args below meth c s₁ B hml hv
  obtain ⟨rfl, hM, hK⟩ := hv
  have hx := B.exec
  have hb := B.bytes
  have hr := B.returns
  have hts : ∀ w ∈ TS, w.before ([.ref h0, .int p0] : List Value).toArray s = true := fun w hw => hK.2.1 w hw _
  have hown : s.vm.findClass RX10 = some m.cls := findClass_of_methodNamed B.named
  have hlocks := B.notSynchronized
  have hS : va_S (fun _ : Nat => False) s.heap s.heap [] := va_S.rf
  have hAz : ∀ q, (fun _ : Nat => False) q → z0 ≤ q := fun _ h => h.elim
  have hl := lv_entry ([.ref h0, .int p0]) (n := 2) (Nat.le_of_ble_eq_true rfl)
  rw [lg_entry_eq]
  generalize (lg_sl ([.ref h0, .int p0]) ++ List.replicate (2 - (lg_sl ([.ref h0, .int p0])).length) Slot.unset).toArray = ls at hl ⊢
  have hl : lv_has ls 2 [(0, .ref h0), (1, .int p0)] := hl
  refine lv_aload_n hx hb dX10_numbersOf_0 rfl (lv_at hl 0 rfl) ?_
  refine va_get (D := DG E) (ci := 10) (v := .ref (rf 24)) (C := RX10) (T := TX10) (N := 49) hx hb hts iw_X10 hown hK.1 (va_one hM.1) 0 rfl rfl 24 (by decide) (hts _ fl_X10_71) (fun _ h9 => h9) rfl dX10_numbersOf_1 ?_
  refine lv_iload_n hx hb dX10_numbersOf_4 rfl (lv_at hl 1 rfl) ?_
  have hi_1 : vp_in p0 16 := vp_in_iff.mpr (by omega)
  have ha_2 : va_at (DG E) vwCl (rf 24, .inl (E.2.2 0, 16, .inl (A 24))) _ := hM.2 24 (by decide) (by decide) (by decide)
  obtain ⟨n_3, hn_3, en_3⟩ := s_nat (x := p0) (by omega)
  refine va_iald (D := DG E) hx hb hK.1 (va_one ha_2) 0 0 rfl rfl hi_1 dX10_numbersOf_5 ?_
  refine W.eq (g2 := F0 m 6 ls [.int ((A 24) n_3)]) (by rw [en_3]) ?_
  have hk_4 : n_3 < 16 := by omega
  have q_5 : 0 ≤ ((A 24) n_3).toInt := (hI6 n_3 hk_4).2.2.2.1
  have q_6 : ((A 24) n_3).toInt ≤ 12 := (hI6 n_3 hk_4).2.2.2.2.1
  have q_7 : ((A 23) n_3).toInt + ((A 24) n_3).toInt ≤ 32 := (hI6 n_3 hk_4).2.2.2.2.2.1
  refine lv_iconst (v := 3) hx hb dX10_numbersOf_6 (by decide) ?_
  refine lv_iadd hx hb dX10_numbersOf_7 ?_
  refine lv_topi (fun x_8 ex_8 => ?_)
  have fx_8 : x_8.toInt = ((A 24) n_3).toInt + 3 := by have h9 := s_add (x := ((A 24) n_3)) (y := 3) (by rw [i_3]; omega) (by rw [i_3]; omega); rw [i_3] at h9; rw [ex_8]; exact h9
  refine lv_iconst (v := 4) hx hb dX10_numbersOf_8 (by decide) ?_
  refine lv_idiv hx hb dX10_numbersOf_9 (by decide) ?_
  refine lv_topi (fun x_9 ex_9 => ?_)
  have fx_9 : x_9.toInt = x_8.toInt / 4 := by have h9 := s_div (x := x_8) 4 (by decide) (by decide) (by omega); rw [ex_9]; exact h9
  exact W.iret (v := x_9) hx hb hr (fun t ht hW => ⟨⟨x_9, (), rfl, ⟨(by show 0 ≤ x_9.toInt ∧ x_9.toInt ≤ 3; omega), (show ∀ n : Nat, (n : Int) = p0.toInt → x_9.toInt = NB (A 24) n from (fun n hn => by
        obtain rfl : n_3 = n := by omega
        unfold NB; omega)), ⟨n_3, hn_3, x_8, ex_8, fx_8, x_9, ex_9, fx_9, rfl⟩⟩, trivial⟩, hS.F ht⟩) hS.2.2 dX10_numbersOf_10
theorem dX10_hasCells_0 : decode cX10_hasCells 0 = .ok (.aload_n 0, 1) := by decide +kernel
theorem dX10_hasCells_1 : decode cX10_hasCells 1 = .ok (.getfield 65, 3) := by decide +kernel
theorem dX10_hasCells_4 : decode cX10_hasCells 4 = .ok (.iload_n 1, 1) := by decide +kernel
theorem dX10_hasCells_5 : decode cX10_hasCells 5 = .ok (.iaload, 1) := by decide +kernel
theorem dX10_hasCells_6 : decode cX10_hasCells 6 = .ok (.iconst 2, 1) := by decide +kernel
theorem dX10_hasCells_7 : decode cX10_hasCells 7 = .ok (.if_icmp .lt 7, 3) := by decide +kernel
theorem dX10_hasCells_10 : decode cX10_hasCells 10 = .ok (.iconst 1, 1) := by decide +kernel
theorem dX10_hasCells_11 : decode cX10_hasCells 11 = .ok (.goto 4, 3) := by decide +kernel
theorem dX10_hasCells_14 : decode cX10_hasCells 14 = .ok (.iconst 0, 1) := by decide +kernel
theorem dX10_hasCells_15 : decode cX10_hasCells 15 = .ok (.ireturn, 1) := by decide +kernel
set_option maxHeartbeats 8000000 in
set_option maxRecDepth 100000 in
theorem u_X10_hasCells (l : Launch) (E : EE) (z0 : Nat) (G : Nat → Nat) (hGz : ∀ q, G q ≠ 0 → z0 ≤ q) (h0 : Nat) (rf : Nat → Nat) (hR : MG G h0 rf) (t0 t1 t2 : Int32) (A : AA) (cd pk : Int32) (p0 : Int32) (hI6 : I6 (A 22) (A 23) (A 24) (A 25) (A 26)) (hy0 : 0 ≤ p0.toInt ∧ p0.toInt ≤ 15) : Met l yX10_hasCells [Cond.code yX10_hasCells cX10_hasCells 2 (some .boolean)] ({ frames := 0, cells := 0, slots := 0, locals := 0 } : Room) (va_Pc [.ref h0, .int p0] (fun U => MH E h0 rf t0 t1 t2 A cd pk U.heap ∧ KS E z0 U)) (va_Qi (fun (r : Int32) (u : Unit) => (r = 0 ∨ r = 1) ∧ (D_X10_hasCells A cd pk p0 r)) (fun u t => True) (fun _ : Nat => False)) 0 0 (fun _ : Nat => False) := by
  refine Met.ofW (cc := cX10_hasCells) (maxL := 2) (ret := (some .boolean)) (by decide) rfl ?_
  intro p e s m args below meth c s₁ B hml hv
  obtain ⟨rfl, hM, hK⟩ := hv
  have hx := B.exec
  have hb := B.bytes
  have hr := B.returns
  have hts : ∀ w ∈ TS, w.before ([.ref h0, .int p0] : List Value).toArray s = true := fun w hw => hK.2.1 w hw _
  have hown : s.vm.findClass RX10 = some m.cls := findClass_of_methodNamed B.named
  have hlocks := B.notSynchronized
  have hS : va_S (fun _ : Nat => False) s.heap s.heap [] := va_S.rf
  have hAz : ∀ q, (fun _ : Nat => False) q → z0 ≤ q := fun _ h => h.elim
  have hl := lv_entry ([.ref h0, .int p0]) (n := 2) (Nat.le_of_ble_eq_true rfl)
  rw [lg_entry_eq]
  generalize (lg_sl ([.ref h0, .int p0]) ++ List.replicate (2 - (lg_sl ([.ref h0, .int p0])).length) Slot.unset).toArray = ls at hl ⊢
  have hl : lv_has ls 2 [(0, .ref h0), (1, .int p0)] := hl
  refine lv_aload_n hx hb dX10_hasCells_0 rfl (lv_at hl 0 rfl) ?_
  refine va_get (D := DG E) (ci := 10) (v := .ref (rf 22)) (C := RX10) (T := TX10) (N := 49) hx hb hts iw_X10 hown hK.1 (va_one hM.1) 0 rfl rfl 22 (by decide) (hts _ fl_X10_65) (fun _ h9 => h9) rfl dX10_hasCells_1 ?_
  refine lv_iload_n hx hb dX10_hasCells_4 rfl (lv_at hl 1 rfl) ?_
  have hi_1 : vp_in p0 16 := vp_in_iff.mpr (by omega)
  have ha_2 : va_at (DG E) vwCl (rf 22, .inl (E.2.2 0, 16, .inl (A 22))) _ := hM.2 22 (by decide) (by decide) (by decide)
  obtain ⟨n_3, hn_3, en_3⟩ := s_nat (x := p0) (by omega)
  refine va_iald (D := DG E) hx hb hK.1 (va_one ha_2) 0 0 rfl rfl hi_1 dX10_hasCells_5 ?_
  refine W.eq (g2 := F0 m 6 ls [.int ((A 22) n_3)]) (by rw [en_3]) ?_
  have hk_4 : n_3 < 16 := by omega
  have q_5 : 0 ≤ ((A 22) n_3).toInt := (hI6 n_3 hk_4).1
  have q_6 : ((A 22) n_3).toInt ≤ 3 := (hI6 n_3 hk_4).2.1
  refine lv_iconst (v := 2) hx hb dX10_hasCells_6 (by decide) ?_
  refine lv_icmp_lt (tgt := 14) hx hb dX10_hasCells_7 (by decide) (fun c_7 => ?_) (fun c_7 => ?_)
  · simp only [lt_I, le_I, eq_I, i_0, i_1, i_2, i_3, i_4, i_5, i_6, i_7, i_8, i_10, i_12, i_16, i_20, i_23, i_24, i_31, i_32, i_63, i_64, i_m1, i_9, i_11, i_13, i_25, i_60, i_75, i_79, i_80, i_96, i_100] at c_7
    refine lv_iconst (v := 0) hx hb dX10_hasCells_14 (by decide) ?_
    exact W.zret (v := 0) (ty := .boolean) hx hb hr rfl (fun t ht hW => ⟨⟨0, (), rfl, ⟨(by decide), (Or.inl ⟨n_3, hn_3, c_7, rfl⟩)⟩, trivial⟩, hS.F ht⟩) hS.2.2 dX10_hasCells_15
  · simp only [lt_I, le_I, eq_I, i_0, i_1, i_2, i_3, i_4, i_5, i_6, i_7, i_8, i_10, i_12, i_16, i_20, i_23, i_24, i_31, i_32, i_63, i_64, i_m1, i_9, i_11, i_13, i_25, i_60, i_75, i_79, i_80, i_96, i_100] at c_7
    refine lv_iconst (v := 1) hx hb dX10_hasCells_10 (by decide) ?_
    refine lv_goto (tgt := 15) hx hb dX10_hasCells_11 (by decide) ?_
    exact W.zret (v := 1) (ty := .boolean) hx hb hr rfl (fun t ht hW => ⟨⟨1, (), rfl, ⟨(by decide), (Or.inr ⟨n_3, hn_3, c_7, rfl⟩)⟩, trivial⟩, hS.F ht⟩) hS.2.2 dX10_hasCells_15
theorem dX10_requestOf_0 : decode cX10_requestOf 0 = .ok (.iconst 4, 1) := by decide +kernel
theorem dX10_requestOf_1 : decode cX10_requestOf 1 = .ok (.iload_n 1, 1) := by decide +kernel
theorem dX10_requestOf_2 : decode cX10_requestOf 2 = .ok (.imul, 1) := by decide +kernel
theorem dX10_requestOf_3 : decode cX10_requestOf 3 = .ok (.istore_n 3, 1) := by decide +kernel
theorem dX10_requestOf_4 : decode cX10_requestOf 4 = .ok (.iload_n 3, 1) := by decide +kernel
theorem dX10_requestOf_5 : decode cX10_requestOf 5 = .ok (.iconst 4, 1) := by decide +kernel
theorem dX10_requestOf_6 : decode cX10_requestOf 6 = .ok (.iload_n 1, 1) := by decide +kernel
theorem dX10_requestOf_7 : decode cX10_requestOf 7 = .ok (.imul, 1) := by decide +kernel
theorem dX10_requestOf_8 : decode cX10_requestOf 8 = .ok (.iconst 3, 1) := by decide +kernel
theorem dX10_requestOf_9 : decode cX10_requestOf 9 = .ok (.iadd, 1) := by decide +kernel
theorem dX10_requestOf_10 : decode cX10_requestOf 10 = .ok (.if_icmp .ge 27, 3) := by decide +kernel
theorem dX10_requestOf_13 : decode cX10_requestOf 13 = .ok (.aload_n 0, 1) := by decide +kernel
theorem dX10_requestOf_14 : decode cX10_requestOf 14 = .ok (.getfield 86, 3) := by decide +kernel
theorem dX10_requestOf_17 : decode cX10_requestOf 17 = .ok (.iload_n 3, 1) := by decide +kernel
theorem dX10_requestOf_18 : decode cX10_requestOf 18 = .ok (.iaload, 1) := by decide +kernel
theorem dX10_requestOf_19 : decode cX10_requestOf 19 = .ok (.iload_n 2, 1) := by decide +kernel
theorem dX10_requestOf_20 : decode cX10_requestOf 20 = .ok (.invokestatic 174, 3) := by decide +kernel
theorem dX10_requestOf_23 : decode cX10_requestOf 23 = .ok (.aload_n 0, 1) := by decide +kernel
theorem dX10_requestOf_24 : decode cX10_requestOf 24 = .ok (.iload_n 3, 1) := by decide +kernel
theorem dX10_requestOf_25 : decode cX10_requestOf 25 = .ok (.invokevirtual 178, 3) := by decide +kernel
theorem dX10_requestOf_28 : decode cX10_requestOf 28 = .ok (.if_icmp .lt 9, 3) := by decide +kernel
theorem dX10_requestOf_31 : decode cX10_requestOf 31 = .ok (.iinc 3 1, 3) := by decide +kernel
theorem dX10_requestOf_34 : decode cX10_requestOf 34 = .ok (.goto (-30), 3) := by decide +kernel
theorem dX10_requestOf_37 : decode cX10_requestOf 37 = .ok (.iload_n 3, 1) := by decide +kernel
theorem dX10_requestOf_38 : decode cX10_requestOf 38 = .ok (.ireturn, 1) := by decide +kernel
set_option maxHeartbeats 8000000 in
set_option maxRecDepth 100000 in
theorem u_X10_requestOf (l : Launch) (E : EE) (z0 : Nat) (G : Nat → Nat) (hGz : ∀ q, G q ≠ 0 → z0 ≤ q) (h0 : Nat) (rf : Nat → Nat) (hR : MG G h0 rf) (t0 t1 t2 : Int32) (A : AA) (cd pk : Int32) (p0 : Int32) (p1 : Int32) (hI6 : I6 (A 22) (A 23) (A 24) (A 25) (A 26)) (hy0 : 0 ≤ p0.toInt ∧ p0.toInt ≤ 3) : Met l yX10_requestOf [Cond.code yX10_requestOf cX10_requestOf 4 (some .int)] ({ frames := 1, cells := 0, slots := 0, locals := 21 } : Room) (va_Pc [.ref h0, .int p0, .int p1] (fun U => MH E h0 rf t0 t1 t2 A cd pk U.heap ∧ KS E z0 U)) (va_Qi (fun (r : Int32) (u : Unit) => (0 ≤ r.toInt ∧ r.toInt ≤ 15) ∧ (∀ n : Nat, (n : Int) = p0.toInt → RO (A 29) (A 24) n p1 r.toInt)) (fun u t => True) (fun _ : Nat => False)) 0 0 (fun _ : Nat => False) := by
  refine Met.ofW (cc := cX10_requestOf) (maxL := 4) (ret := (some .int)) (by decide) rfl ?_
  intro p e s m args below meth c s₁ B hml hv
  obtain ⟨rfl, hM, hK⟩ := hv
  have hx := B.exec
  have hb := B.bytes
  have hr := B.returns
  have hts : ∀ w ∈ TS, w.before ([.ref h0, .int p0, .int p1] : List Value).toArray s = true := fun w hw => hK.2.1 w hw _
  have hown : s.vm.findClass RX10 = some m.cls := findClass_of_methodNamed B.named
  have hlocks := B.notSynchronized
  have hS : va_S (fun _ : Nat => False) s.heap s.heap [] := va_S.rf
  have hAz : ∀ q, (fun _ : Nat => False) q → z0 ≤ q := fun _ h => h.elim
  have hl := lv_entry ([.ref h0, .int p0, .int p1]) (n := 4) (Nat.le_of_ble_eq_true rfl)
  rw [lg_entry_eq]
  generalize (lg_sl ([.ref h0, .int p0, .int p1]) ++ List.replicate (4 - (lg_sl ([.ref h0, .int p0, .int p1])).length) Slot.unset).toArray = ls at hl ⊢
  have hl : lv_has ls 4 [(0, .ref h0), (1, .int p0), (2, .int p1)] := hl
  obtain ⟨n_1, hn_1, en_1⟩ := s_nat (x := p0) (by omega)
  refine lv_iconst (v := 4) hx hb dX10_requestOf_0 (by decide) ?_
  refine lv_iload_n hx hb dX10_requestOf_1 rfl (lv_at hl 1 rfl) ?_
  refine lv_imul hx hb dX10_requestOf_2 ?_
  refine lv_topi (fun x_2 ex_2 => ?_)
  have fx_2 : x_2.toInt = 4 * p0.toInt := by rw [ex_2]; exact s_mulK i_4 (by omega) (by omega)
  refine lv_istore_n (lv' := [(3, .int x_2), (0, .ref h0), (1, .int p0), (2, .int p1)]) hx hb dX10_requestOf_3 rfl hl (by decide) rfl (fun ls hl => ?_)
  refine lv_iload_n hx hb dX10_requestOf_4 rfl (lv_at hl 0 rfl) ?_
  refine lv_iconst (v := 4) hx hb dX10_requestOf_5 (by decide) ?_
  refine lv_iload_n hx hb dX10_requestOf_6 rfl (lv_at hl 2 rfl) ?_
  refine lv_imul hx hb dX10_requestOf_7 ?_
  refine W.eq (g2 := F0 m 8 ls [.int x_2, .int x_2]) (by rw [ex_2]) ?_
  refine lv_iconst (v := 3) hx hb dX10_requestOf_8 (by decide) ?_
  refine lv_iadd hx hb dX10_requestOf_9 ?_
  refine lv_topi (fun x_3 ex_3 => ?_)
  have fx_3 : x_3.toInt = x_2.toInt + 3 := by have h9 := s_add (x := x_2) (y := 3) (by rw [i_3]; omega) (by rw [i_3]; omega); rw [i_3] at h9; rw [ex_3]; exact h9
  refine lv_icmp_ge (tgt := 37) hx hb dX10_requestOf_10 (by decide) (fun c_4 => by exfalso; simp only [lt_I, le_I, eq_I, i_0, i_1, i_2, i_3, i_4, i_5, i_6, i_7, i_8, i_10, i_12, i_16, i_20, i_23, i_24, i_31, i_32, i_63, i_64, i_m1, i_9, i_11, i_13, i_25, i_60, i_75, i_79, i_80, i_96, i_100] at c_4; omega) (fun c_4 => ?_)
  simp only [lt_I, le_I, eq_I, i_0, i_1, i_2, i_3, i_4, i_5, i_6, i_7, i_8, i_10, i_12, i_16, i_20, i_23, i_24, i_31, i_32, i_63, i_64, i_m1, i_9, i_11, i_13, i_25, i_60, i_75, i_79, i_80, i_96, i_100] at c_4
  refine lv_aload_n hx hb dX10_requestOf_13 rfl (lv_at hl 1 rfl) ?_
  refine va_get (D := DG E) (ci := 10) (v := .ref (rf 29)) (C := RX10) (T := TX10) (N := 49) hx hb hts iw_X10 hown hK.1 (va_one hM.1) 0 rfl rfl 29 (by decide) (hts _ fl_X10_86) (fun _ h9 => h9) rfl dX10_requestOf_14 ?_
  refine lv_iload_n hx hb dX10_requestOf_17 rfl (lv_at hl 0 rfl) ?_
  have hi_5 : vp_in x_2 16 := vp_in_iff.mpr (by omega)
  have ha_6 : va_at (DG E) vwCl (rf 29, .inl (E.2.2 0, 16, .inl (A 29))) _ := hM.2 29 (by decide) (by decide) (by decide)
  obtain ⟨n_7, hn_7, en_7⟩ := s_nat (x := x_2) (by omega)
  refine va_iald (D := DG E) hx hb hK.1 (va_one ha_6) 0 0 rfl rfl hi_5 dX10_requestOf_18 ?_
  refine W.eq (g2 := F0 m 19 ls [.int ((A 29) n_7)]) (by rw [en_7]) ?_
  refine lv_iload_n hx hb dX10_requestOf_19 rfl (lv_at hl 3 rfl) ?_
  refine W.callR (W.runS (As := [.int ((A 29) n_7), .int p1]) (rest := []) ⟨hx, hb, hml, hown, hts⟩ (c_X10_far l (((A 29) n_7)) p1) (cwS 2 hts (gdS ml_X10_174 st_X10_far in_X10 co_X10_far rfl) rfl rfl rfl (by decide +kernel) ⟨Nat.le_of_ble_eq_true rfl, Nat.le_of_ble_eq_true rfl⟩) preEq rfl rfl hl.1 rfl (lv_room (Nat.le_of_ble_eq_true rfl)) dX10_requestOf_20 ⟨Nat.le_of_ble_eq_true rfl, Nat.le_of_ble_eq_true rfl⟩) ?_
  refine W.eq (g2 := F0 m 23 ls [.int (((p1 - ((A 29) n_7)) + 64) - ((p1 - ((A 29) n_7)) + 64) / 64 * 64)]) (by rfl) ?_
  refine lv_topi (fun x_8 ex_8 => ?_)
  have kx_8 : x_8.toInt = (farI ((A 29) n_7) p1).toInt := by rw [ex_8]; rfl
  refine lv_aload_n hx hb dX10_requestOf_23 rfl (lv_at hl 1 rfl) ?_
  refine lv_iload_n hx hb dX10_requestOf_24 rfl (lv_at hl 0 rfl) ?_
  refine va_calli (rnV (fun H => MH E h0 rf t0 t1 t2 A cd pk H) (As := [.int x_2]) (rest := [.int x_8]) ⟨hx, hb, hml, hown, hts⟩ (u_X10_numbersOf l E z0 G hGz h0 rf hR t0 t1 t2 A cd pk x_2 hI6 (show 0 ≤ x_2.toInt ∧ x_2.toInt ≤ 15 from by first | decide | omega)) (cwV 1 hts (gdV ml_X10_178 im_X10_numbersOf se_X10_X10_numbersOf in_X10 co_X10_numbersOf rfl) rfl rfl rfl (by decide +kernel) ⟨Nat.le_of_ble_eq_true rfl, Nat.le_of_ble_eq_true rfl⟩) hM (fun U hU hW => hK.go hW hS hAz hU) (va_recv hK.1 (va_one hM.1) (ci := 10) (q0 := 0) rfl rfl) rfl rfl hl.1 rfl (lv_room (Nat.le_of_ble_eq_true rfl)) dX10_requestOf_25 ⟨Nat.le_of_ble_eq_true rfl, Nat.le_of_ble_eq_true rfl⟩) hS (fun q _ h => h.elim) (fun q h => h.elim) (fun r_9 ur_9 t H locs ht hvm hwr_9 hB hz hk hS => ?_)
  have hM := hM.kept (fun q hq => hk q hq (fun h => h))
  have hDr_9 : D_X10_numbersOf A cd pk x_2 r_9 := hwr_9.2.2
  have hpr_9_0 : 0 ≤ r_9.toInt ∧ r_9.toInt ≤ 3 := hwr_9.1
  have hpr_9_1 : ∀ n : Nat, (n : Int) = x_2.toInt → r_9.toInt = NB (A 24) n := hwr_9.2.1
  have iahpr_9_1 := hpr_9_1 n_7 (by omega)
  have ro0 : (r_9.toInt = NB (A 24) n_7) ∧ (x_8.toInt = (farI ((A 29) n_7) p1).toInt) := ⟨iahpr_9_1, kx_8⟩
  refine lv_icmp_lt (tgt := 37) hx hb dX10_requestOf_28 (by decide) (fun c_11 => ?_) (fun c_11 => ?_)
  · simp only [lt_I, le_I, eq_I, i_0, i_1, i_2, i_3, i_4, i_5, i_6, i_7, i_8, i_10, i_12, i_16, i_20, i_23, i_24, i_31, i_32, i_63, i_64, i_m1, i_9, i_11, i_13, i_25, i_60, i_75, i_79, i_80, i_96, i_100] at c_11
    refine lv_iload_n hx hb dX10_requestOf_37 rfl (lv_at hl 0 rfl) ?_
    exact W.iret (v := x_2) hx hb hr (fun t ht hW => ⟨⟨x_2, (), rfl, ⟨(by show 0 ≤ x_2.toInt ∧ x_2.toInt ≤ 15; omega), (show ∀ n : Nat, (n : Int) = p0.toInt → RO (A 29) (A 24) n p1 x_2.toInt from (fun n hn => by
        obtain rfl : n_1 = n := by omega
        refine ⟨0, by decide, by omega, fun j hj => ?_, ?_⟩
        · exact absurd hj (by omega)
        · right; rw [show 4 * n_1 + 0 = n_7 by omega]; omega))⟩, trivial⟩, hS.F ht⟩) hS.2.2 dX10_requestOf_38
  · simp only [lt_I, le_I, eq_I, i_0, i_1, i_2, i_3, i_4, i_5, i_6, i_7, i_8, i_10, i_12, i_16, i_20, i_23, i_24, i_31, i_32, i_63, i_64, i_m1, i_9, i_11, i_13, i_25, i_60, i_75, i_79, i_80, i_96, i_100] at c_11
    obtain ⟨x_12, ex_12⟩ : ∃ z : Int32, x_2 + Int32.ofInt 1 = z := ⟨_, rfl⟩
    have fx_12 : x_12.toInt = x_2.toInt + 1 := by have h9 := s_add (x := x_2) (y := 1) (by rw [i_1]; omega) (by rw [i_1]; omega); rw [i_1] at h9; rw [← ex_12]; exact h9
    refine lv_iinc (v := x_12) (lv' := [(3, .int x_12), (0, .ref h0), (1, .int p0), (2, .int p1)]) hx hb dX10_requestOf_31 hl (k := 0) rfl ex_12 (by decide) rfl (fun ls hl => ?_)
    refine lv_goto (tgt := 4) hx hb dX10_requestOf_34 (by decide) ?_
    refine lv_iload_n hx hb dX10_requestOf_4 rfl (lv_at hl 0 rfl) ?_
    refine lv_iconst (v := 4) hx hb dX10_requestOf_5 (by decide) ?_
    refine lv_iload_n hx hb dX10_requestOf_6 rfl (lv_at hl 2 rfl) ?_
    refine lv_imul hx hb dX10_requestOf_7 ?_
    refine W.eq (g2 := F0 m 8 ls [.int x_2, .int x_12]) (by rw [ex_2]) ?_
    refine lv_iconst (v := 3) hx hb dX10_requestOf_8 (by decide) ?_
    refine lv_iadd hx hb dX10_requestOf_9 ?_
    refine W.eq (g2 := F0 m 10 ls [.int x_3, .int x_12]) (by rw [ex_3]) ?_
    refine lv_icmp_ge (tgt := 37) hx hb dX10_requestOf_10 (by decide) (fun c_13 => by exfalso; simp only [lt_I, le_I, eq_I, i_0, i_1, i_2, i_3, i_4, i_5, i_6, i_7, i_8, i_10, i_12, i_16, i_20, i_23, i_24, i_31, i_32, i_63, i_64, i_m1, i_9, i_11, i_13, i_25, i_60, i_75, i_79, i_80, i_96, i_100] at c_13; omega) (fun c_13 => ?_)
    simp only [lt_I, le_I, eq_I, i_0, i_1, i_2, i_3, i_4, i_5, i_6, i_7, i_8, i_10, i_12, i_16, i_20, i_23, i_24, i_31, i_32, i_63, i_64, i_m1, i_9, i_11, i_13, i_25, i_60, i_75, i_79, i_80, i_96, i_100] at c_13
    refine lv_aload_n hx hb dX10_requestOf_13 rfl (lv_at hl 1 rfl) ?_
    refine va_get (D := DG E) (ci := 10) (v := .ref (rf 29)) (C := RX10) (T := TX10) (N := 49) hx hb hts iw_X10 hown hK.1 (va_one hM.1) 0 rfl rfl 29 (by decide) (hts _ fl_X10_86) (fun _ h9 => h9) rfl dX10_requestOf_14 ?_
    refine lv_iload_n hx hb dX10_requestOf_17 rfl (lv_at hl 0 rfl) ?_
    have hi_14 : vp_in x_12 16 := vp_in_iff.mpr (by omega)
    have ha_15 : va_at (DG E) vwCl (rf 29, .inl (E.2.2 0, 16, .inl (A 29))) _ := hM.2 29 (by decide) (by decide) (by decide)
    obtain ⟨n_16, hn_16, en_16⟩ := s_nat (x := x_12) (by omega)
    refine va_iald (D := DG E) hx hb hK.1 (va_one ha_15) 0 0 rfl rfl hi_14 dX10_requestOf_18 ?_
    refine W.eq (g2 := F0 m 19 ls [.int ((A 29) n_16)]) (by rw [en_16]) ?_
    refine lv_iload_n hx hb dX10_requestOf_19 rfl (lv_at hl 3 rfl) ?_
    refine W.callR (W.runS (As := [.int ((A 29) n_16), .int p1]) (rest := []) ⟨hx, hb, hml, hown, hts⟩ (c_X10_far l (((A 29) n_16)) p1) (cwS 2 hts (gdS ml_X10_174 st_X10_far in_X10 co_X10_far rfl) rfl rfl rfl (by decide +kernel) ⟨Nat.le_of_ble_eq_true rfl, Nat.le_of_ble_eq_true rfl⟩) preEq rfl rfl hl.1 rfl (lv_room (Nat.le_of_ble_eq_true rfl)) dX10_requestOf_20 ⟨Nat.le_of_ble_eq_true rfl, Nat.le_of_ble_eq_true rfl⟩) ?_
    refine W.eq (g2 := F0 m 23 ls [.int (((p1 - ((A 29) n_16)) + 64) - ((p1 - ((A 29) n_16)) + 64) / 64 * 64)]) (by rfl) ?_
    refine lv_topi (fun x_17 ex_17 => ?_)
    have kx_17 : x_17.toInt = (farI ((A 29) n_16) p1).toInt := by rw [ex_17]; rfl
    refine lv_aload_n hx hb dX10_requestOf_23 rfl (lv_at hl 1 rfl) ?_
    refine lv_iload_n hx hb dX10_requestOf_24 rfl (lv_at hl 0 rfl) ?_
    refine va_calli (rnV (fun H => MH E h0 rf t0 t1 t2 A cd pk H) (As := [.int x_12]) (rest := [.int x_17]) ⟨hx, hb, hml, hown, hts⟩ (u_X10_numbersOf l E z0 G hGz h0 rf hR t0 t1 t2 A cd pk x_12 hI6 (show 0 ≤ x_12.toInt ∧ x_12.toInt ≤ 15 from by first | decide | omega)) (cwV 1 hts (gdV ml_X10_178 im_X10_numbersOf se_X10_X10_numbersOf in_X10 co_X10_numbersOf rfl) rfl rfl rfl (by decide +kernel) ⟨Nat.le_of_ble_eq_true rfl, Nat.le_of_ble_eq_true rfl⟩) hM (fun U hU hW => hK.go hW hS hAz hU) (va_recv hK.1 (va_one hM.1) (ci := 10) (q0 := 0) rfl rfl) rfl rfl hl.1 rfl (lv_room (Nat.le_of_ble_eq_true rfl)) dX10_requestOf_25 ⟨Nat.le_of_ble_eq_true rfl, Nat.le_of_ble_eq_true rfl⟩) hS (fun q _ h => h.elim) (fun q h => h.elim) (fun r_18 ur_18 t H locs ht hvm hwr_18 hB hz hk hS => ?_)
    have hM := hM.kept (fun q hq => hk q hq (fun h => h))
    have hDr_18 : D_X10_numbersOf A cd pk x_12 r_18 := hwr_18.2.2
    have hpr_18_0 : 0 ≤ r_18.toInt ∧ r_18.toInt ≤ 3 := hwr_18.1
    have hpr_18_1 : ∀ n : Nat, (n : Int) = x_12.toInt → r_18.toInt = NB (A 24) n := hwr_18.2.1
    have iahpr_18_1 := hpr_18_1 n_16 (by omega)
    have ro1 : (r_18.toInt = NB (A 24) n_16) ∧ (x_17.toInt = (farI ((A 29) n_16) p1).toInt) := ⟨iahpr_18_1, kx_17⟩
    refine lv_icmp_lt (tgt := 37) hx hb dX10_requestOf_28 (by decide) (fun c_20 => ?_) (fun c_20 => ?_)
    · simp only [lt_I, le_I, eq_I, i_0, i_1, i_2, i_3, i_4, i_5, i_6, i_7, i_8, i_10, i_12, i_16, i_20, i_23, i_24, i_31, i_32, i_63, i_64, i_m1, i_9, i_11, i_13, i_25, i_60, i_75, i_79, i_80, i_96, i_100] at c_20
      refine lv_iload_n hx hb dX10_requestOf_37 rfl (lv_at hl 0 rfl) ?_
      exact W.iret (v := x_12) hx hb hr (fun t ht hW => ⟨⟨x_12, (), rfl, ⟨(by show 0 ≤ x_12.toInt ∧ x_12.toInt ≤ 15; omega), (show ∀ n : Nat, (n : Int) = p0.toInt → RO (A 29) (A 24) n p1 x_12.toInt from (fun n hn => by
        obtain rfl : n_1 = n := by omega
        refine ⟨1, by decide, by omega, fun j hj => ?_, ?_⟩
        · rcases (show j = 0 by omega) with rfl
          rw [show 4 * n_1 + 0 = n_7 by omega]; omega
        · right; rw [show 4 * n_1 + 1 = n_16 by omega]; omega))⟩, trivial⟩, hS.F ht⟩) hS.2.2 dX10_requestOf_38
    · simp only [lt_I, le_I, eq_I, i_0, i_1, i_2, i_3, i_4, i_5, i_6, i_7, i_8, i_10, i_12, i_16, i_20, i_23, i_24, i_31, i_32, i_63, i_64, i_m1, i_9, i_11, i_13, i_25, i_60, i_75, i_79, i_80, i_96, i_100] at c_20
      obtain ⟨x_21, ex_21⟩ : ∃ z : Int32, x_12 + Int32.ofInt 1 = z := ⟨_, rfl⟩
      have fx_21 : x_21.toInt = x_12.toInt + 1 := by have h9 := s_add (x := x_12) (y := 1) (by rw [i_1]; omega) (by rw [i_1]; omega); rw [i_1] at h9; rw [← ex_21]; exact h9
      refine lv_iinc (v := x_21) (lv' := [(3, .int x_21), (0, .ref h0), (1, .int p0), (2, .int p1)]) hx hb dX10_requestOf_31 hl (k := 0) rfl ex_21 (by decide) rfl (fun ls hl => ?_)
      refine lv_goto (tgt := 4) hx hb dX10_requestOf_34 (by decide) ?_
      refine lv_iload_n hx hb dX10_requestOf_4 rfl (lv_at hl 0 rfl) ?_
      refine lv_iconst (v := 4) hx hb dX10_requestOf_5 (by decide) ?_
      refine lv_iload_n hx hb dX10_requestOf_6 rfl (lv_at hl 2 rfl) ?_
      refine lv_imul hx hb dX10_requestOf_7 ?_
      refine W.eq (g2 := F0 m 8 ls [.int x_2, .int x_21]) (by rw [ex_2]) ?_
      refine lv_iconst (v := 3) hx hb dX10_requestOf_8 (by decide) ?_
      refine lv_iadd hx hb dX10_requestOf_9 ?_
      refine W.eq (g2 := F0 m 10 ls [.int x_3, .int x_21]) (by rw [ex_3]) ?_
      refine lv_icmp_ge (tgt := 37) hx hb dX10_requestOf_10 (by decide) (fun c_22 => by exfalso; simp only [lt_I, le_I, eq_I, i_0, i_1, i_2, i_3, i_4, i_5, i_6, i_7, i_8, i_10, i_12, i_16, i_20, i_23, i_24, i_31, i_32, i_63, i_64, i_m1, i_9, i_11, i_13, i_25, i_60, i_75, i_79, i_80, i_96, i_100] at c_22; omega) (fun c_22 => ?_)
      simp only [lt_I, le_I, eq_I, i_0, i_1, i_2, i_3, i_4, i_5, i_6, i_7, i_8, i_10, i_12, i_16, i_20, i_23, i_24, i_31, i_32, i_63, i_64, i_m1, i_9, i_11, i_13, i_25, i_60, i_75, i_79, i_80, i_96, i_100] at c_22
      refine lv_aload_n hx hb dX10_requestOf_13 rfl (lv_at hl 1 rfl) ?_
      refine va_get (D := DG E) (ci := 10) (v := .ref (rf 29)) (C := RX10) (T := TX10) (N := 49) hx hb hts iw_X10 hown hK.1 (va_one hM.1) 0 rfl rfl 29 (by decide) (hts _ fl_X10_86) (fun _ h9 => h9) rfl dX10_requestOf_14 ?_
      refine lv_iload_n hx hb dX10_requestOf_17 rfl (lv_at hl 0 rfl) ?_
      have hi_23 : vp_in x_21 16 := vp_in_iff.mpr (by omega)
      have ha_24 : va_at (DG E) vwCl (rf 29, .inl (E.2.2 0, 16, .inl (A 29))) _ := hM.2 29 (by decide) (by decide) (by decide)
      obtain ⟨n_25, hn_25, en_25⟩ := s_nat (x := x_21) (by omega)
      refine va_iald (D := DG E) hx hb hK.1 (va_one ha_24) 0 0 rfl rfl hi_23 dX10_requestOf_18 ?_
      refine W.eq (g2 := F0 m 19 ls [.int ((A 29) n_25)]) (by rw [en_25]) ?_
      refine lv_iload_n hx hb dX10_requestOf_19 rfl (lv_at hl 3 rfl) ?_
      refine W.callR (W.runS (As := [.int ((A 29) n_25), .int p1]) (rest := []) ⟨hx, hb, hml, hown, hts⟩ (c_X10_far l (((A 29) n_25)) p1) (cwS 2 hts (gdS ml_X10_174 st_X10_far in_X10 co_X10_far rfl) rfl rfl rfl (by decide +kernel) ⟨Nat.le_of_ble_eq_true rfl, Nat.le_of_ble_eq_true rfl⟩) preEq rfl rfl hl.1 rfl (lv_room (Nat.le_of_ble_eq_true rfl)) dX10_requestOf_20 ⟨Nat.le_of_ble_eq_true rfl, Nat.le_of_ble_eq_true rfl⟩) ?_
      refine W.eq (g2 := F0 m 23 ls [.int (((p1 - ((A 29) n_25)) + 64) - ((p1 - ((A 29) n_25)) + 64) / 64 * 64)]) (by rfl) ?_
      refine lv_topi (fun x_26 ex_26 => ?_)
      have kx_26 : x_26.toInt = (farI ((A 29) n_25) p1).toInt := by rw [ex_26]; rfl
      refine lv_aload_n hx hb dX10_requestOf_23 rfl (lv_at hl 1 rfl) ?_
      refine lv_iload_n hx hb dX10_requestOf_24 rfl (lv_at hl 0 rfl) ?_
      refine va_calli (rnV (fun H => MH E h0 rf t0 t1 t2 A cd pk H) (As := [.int x_21]) (rest := [.int x_26]) ⟨hx, hb, hml, hown, hts⟩ (u_X10_numbersOf l E z0 G hGz h0 rf hR t0 t1 t2 A cd pk x_21 hI6 (show 0 ≤ x_21.toInt ∧ x_21.toInt ≤ 15 from by first | decide | omega)) (cwV 1 hts (gdV ml_X10_178 im_X10_numbersOf se_X10_X10_numbersOf in_X10 co_X10_numbersOf rfl) rfl rfl rfl (by decide +kernel) ⟨Nat.le_of_ble_eq_true rfl, Nat.le_of_ble_eq_true rfl⟩) hM (fun U hU hW => hK.go hW hS hAz hU) (va_recv hK.1 (va_one hM.1) (ci := 10) (q0 := 0) rfl rfl) rfl rfl hl.1 rfl (lv_room (Nat.le_of_ble_eq_true rfl)) dX10_requestOf_25 ⟨Nat.le_of_ble_eq_true rfl, Nat.le_of_ble_eq_true rfl⟩) hS (fun q _ h => h.elim) (fun q h => h.elim) (fun r_27 ur_27 t H locs ht hvm hwr_27 hB hz hk hS => ?_)
      have hM := hM.kept (fun q hq => hk q hq (fun h => h))
      have hDr_27 : D_X10_numbersOf A cd pk x_21 r_27 := hwr_27.2.2
      have hpr_27_0 : 0 ≤ r_27.toInt ∧ r_27.toInt ≤ 3 := hwr_27.1
      have hpr_27_1 : ∀ n : Nat, (n : Int) = x_21.toInt → r_27.toInt = NB (A 24) n := hwr_27.2.1
      have iahpr_27_1 := hpr_27_1 n_25 (by omega)
      have ro2 : (r_27.toInt = NB (A 24) n_25) ∧ (x_26.toInt = (farI ((A 29) n_25) p1).toInt) := ⟨iahpr_27_1, kx_26⟩
      refine lv_icmp_lt (tgt := 37) hx hb dX10_requestOf_28 (by decide) (fun c_29 => ?_) (fun c_29 => ?_)
      · simp only [lt_I, le_I, eq_I, i_0, i_1, i_2, i_3, i_4, i_5, i_6, i_7, i_8, i_10, i_12, i_16, i_20, i_23, i_24, i_31, i_32, i_63, i_64, i_m1, i_9, i_11, i_13, i_25, i_60, i_75, i_79, i_80, i_96, i_100] at c_29
        refine lv_iload_n hx hb dX10_requestOf_37 rfl (lv_at hl 0 rfl) ?_
        exact W.iret (v := x_21) hx hb hr (fun t ht hW => ⟨⟨x_21, (), rfl, ⟨(by show 0 ≤ x_21.toInt ∧ x_21.toInt ≤ 15; omega), (show ∀ n : Nat, (n : Int) = p0.toInt → RO (A 29) (A 24) n p1 x_21.toInt from (fun n hn => by
        obtain rfl : n_1 = n := by omega
        refine ⟨2, by decide, by omega, fun j hj => ?_, ?_⟩
        · rcases (show j = 0 ∨ j = 1 by omega) with rfl | rfl
          · rw [show 4 * n_1 + 0 = n_7 by omega]; omega
          · rw [show 4 * n_1 + 1 = n_16 by omega]; omega
        · right; rw [show 4 * n_1 + 2 = n_25 by omega]; omega))⟩, trivial⟩, hS.F ht⟩) hS.2.2 dX10_requestOf_38
      · simp only [lt_I, le_I, eq_I, i_0, i_1, i_2, i_3, i_4, i_5, i_6, i_7, i_8, i_10, i_12, i_16, i_20, i_23, i_24, i_31, i_32, i_63, i_64, i_m1, i_9, i_11, i_13, i_25, i_60, i_75, i_79, i_80, i_96, i_100] at c_29
        obtain ⟨x_30, ex_30⟩ : ∃ z : Int32, x_21 + Int32.ofInt 1 = z := ⟨_, rfl⟩
        have fx_30 : x_30.toInt = x_21.toInt + 1 := by have h9 := s_add (x := x_21) (y := 1) (by rw [i_1]; omega) (by rw [i_1]; omega); rw [i_1] at h9; rw [← ex_30]; exact h9
        refine lv_iinc (v := x_30) (lv' := [(3, .int x_30), (0, .ref h0), (1, .int p0), (2, .int p1)]) hx hb dX10_requestOf_31 hl (k := 0) rfl ex_30 (by decide) rfl (fun ls hl => ?_)
        refine lv_goto (tgt := 4) hx hb dX10_requestOf_34 (by decide) ?_
        refine lv_iload_n hx hb dX10_requestOf_4 rfl (lv_at hl 0 rfl) ?_
        refine lv_iconst (v := 4) hx hb dX10_requestOf_5 (by decide) ?_
        refine lv_iload_n hx hb dX10_requestOf_6 rfl (lv_at hl 2 rfl) ?_
        refine lv_imul hx hb dX10_requestOf_7 ?_
        refine W.eq (g2 := F0 m 8 ls [.int x_2, .int x_30]) (by rw [ex_2]) ?_
        refine lv_iconst (v := 3) hx hb dX10_requestOf_8 (by decide) ?_
        refine lv_iadd hx hb dX10_requestOf_9 ?_
        refine W.eq (g2 := F0 m 10 ls [.int x_3, .int x_30]) (by rw [ex_3]) ?_
        refine lv_icmp_ge (tgt := 37) hx hb dX10_requestOf_10 (by decide) (fun c_31 => ?_) (fun c_31 => by exfalso; simp only [lt_I, le_I, eq_I, i_0, i_1, i_2, i_3, i_4, i_5, i_6, i_7, i_8, i_10, i_12, i_16, i_20, i_23, i_24, i_31, i_32, i_63, i_64, i_m1, i_9, i_11, i_13, i_25, i_60, i_75, i_79, i_80, i_96, i_100] at c_31; omega)
        simp only [lt_I, le_I, eq_I, i_0, i_1, i_2, i_3, i_4, i_5, i_6, i_7, i_8, i_10, i_12, i_16, i_20, i_23, i_24, i_31, i_32, i_63, i_64, i_m1, i_9, i_11, i_13, i_25, i_60, i_75, i_79, i_80, i_96, i_100] at c_31
        refine lv_iload_n hx hb dX10_requestOf_37 rfl (lv_at hl 0 rfl) ?_
        exact W.iret (v := x_30) hx hb hr (fun t ht hW => ⟨⟨x_30, (), rfl, ⟨(by show 0 ≤ x_30.toInt ∧ x_30.toInt ≤ 15; omega), (show ∀ n : Nat, (n : Int) = p0.toInt → RO (A 29) (A 24) n p1 x_30.toInt from (fun n hn => by
        obtain rfl : n_1 = n := by omega
        refine ⟨3, by decide, by omega, fun j hj => ?_, ?_⟩
        · rcases (show j = 0 ∨ j = 1 ∨ j = 2 by omega) with rfl | rfl | rfl
          · rw [show 4 * n_1 + 0 = n_7 by omega]; omega
          · rw [show 4 * n_1 + 1 = n_16 by omega]; omega
          · rw [show 4 * n_1 + 2 = n_25 by omega]; omega
        · exact Or.inl rfl))⟩, trivial⟩, hS.F ht⟩) hS.2.2 dX10_requestOf_38
theorem dX10_post_0 : decode cX10_post 0 = .ok (.iconst 4, 1) := by decide +kernel
theorem dX10_post_1 : decode cX10_post 1 = .ok (.iload_n 1, 1) := by decide +kernel
theorem dX10_post_2 : decode cX10_post 2 = .ok (.imul, 1) := by decide +kernel
theorem dX10_post_3 : decode cX10_post 3 = .ok (.aload_n 0, 1) := by decide +kernel
theorem dX10_post_4 : decode cX10_post 4 = .ok (.getfield 59, 3) := by decide +kernel
theorem dX10_post_7 : decode cX10_post 7 = .ok (.iload_n 1, 1) := by decide +kernel
theorem dX10_post_8 : decode cX10_post 8 = .ok (.iaload, 1) := by decide +kernel
theorem dX10_post_9 : decode cX10_post 9 = .ok (.iadd, 1) := by decide +kernel
theorem dX10_post_10 : decode cX10_post 10 = .ok (.istore 8, 2) := by decide +kernel
theorem dX10_post_12 : decode cX10_post 12 = .ok (.aload_n 0, 1) := by decide +kernel
theorem dX10_post_13 : decode cX10_post 13 = .ok (.getfield 65, 3) := by decide +kernel
theorem dX10_post_16 : decode cX10_post 16 = .ok (.iload 8, 2) := by decide +kernel
theorem dX10_post_18 : decode cX10_post 18 = .ok (.iload_n 2, 1) := by decide +kernel
theorem dX10_post_19 : decode cX10_post 19 = .ok (.iastore, 1) := by decide +kernel
theorem dX10_post_20 : decode cX10_post 20 = .ok (.aload_n 0, 1) := by decide +kernel
theorem dX10_post_21 : decode cX10_post 21 = .ok (.getfield 68, 3) := by decide +kernel
theorem dX10_post_24 : decode cX10_post 24 = .ok (.iload 8, 2) := by decide +kernel
theorem dX10_post_26 : decode cX10_post 26 = .ok (.iload_n 3, 1) := by decide +kernel
theorem dX10_post_27 : decode cX10_post 27 = .ok (.iastore, 1) := by decide +kernel
theorem dX10_post_28 : decode cX10_post 28 = .ok (.aload_n 0, 1) := by decide +kernel
theorem dX10_post_29 : decode cX10_post 29 = .ok (.getfield 71, 3) := by decide +kernel
theorem dX10_post_32 : decode cX10_post 32 = .ok (.iload 8, 2) := by decide +kernel
theorem dX10_post_34 : decode cX10_post 34 = .ok (.iload 4, 2) := by decide +kernel
theorem dX10_post_36 : decode cX10_post 36 = .ok (.iastore, 1) := by decide +kernel
theorem dX10_post_37 : decode cX10_post 37 = .ok (.aload_n 0, 1) := by decide +kernel
theorem dX10_post_38 : decode cX10_post 38 = .ok (.getfield 74, 3) := by decide +kernel
theorem dX10_post_41 : decode cX10_post 41 = .ok (.iload 8, 2) := by decide +kernel
theorem dX10_post_43 : decode cX10_post 43 = .ok (.iload 5, 2) := by decide +kernel
theorem dX10_post_45 : decode cX10_post 45 = .ok (.iastore, 1) := by decide +kernel
theorem dX10_post_46 : decode cX10_post 46 = .ok (.aload_n 0, 1) := by decide +kernel
theorem dX10_post_47 : decode cX10_post 47 = .ok (.getfield 77, 3) := by decide +kernel
theorem dX10_post_50 : decode cX10_post 50 = .ok (.iload 8, 2) := by decide +kernel
theorem dX10_post_52 : decode cX10_post 52 = .ok (.iload 6, 2) := by decide +kernel
theorem dX10_post_54 : decode cX10_post 54 = .ok (.iastore, 1) := by decide +kernel
theorem dX10_post_55 : decode cX10_post 55 = .ok (.aload_n 0, 1) := by decide +kernel
theorem dX10_post_56 : decode cX10_post 56 = .ok (.getfield 80, 3) := by decide +kernel
theorem dX10_post_59 : decode cX10_post 59 = .ok (.iload 8, 2) := by decide +kernel
theorem dX10_post_61 : decode cX10_post 61 = .ok (.iload 7, 2) := by decide +kernel
theorem dX10_post_63 : decode cX10_post 63 = .ok (.iastore, 1) := by decide +kernel
theorem dX10_post_64 : decode cX10_post 64 = .ok (.aload_n 0, 1) := by decide +kernel
theorem dX10_post_65 : decode cX10_post 65 = .ok (.getfield 83, 3) := by decide +kernel
theorem dX10_post_68 : decode cX10_post 68 = .ok (.iload 8, 2) := by decide +kernel
theorem dX10_post_70 : decode cX10_post 70 = .ok (.aload_n 0, 1) := by decide +kernel
theorem dX10_post_71 : decode cX10_post 71 = .ok (.getfield 62, 3) := by decide +kernel
theorem dX10_post_74 : decode cX10_post 74 = .ok (.iload_n 1, 1) := by decide +kernel
theorem dX10_post_75 : decode cX10_post 75 = .ok (.iaload, 1) := by decide +kernel
theorem dX10_post_76 : decode cX10_post 76 = .ok (.iastore, 1) := by decide +kernel
theorem dX10_post_77 : decode cX10_post 77 = .ok (.aload_n 0, 1) := by decide +kernel
theorem dX10_post_78 : decode cX10_post 78 = .ok (.getfield 86, 3) := by decide +kernel
theorem dX10_post_81 : decode cX10_post 81 = .ok (.iload 8, 2) := by decide +kernel
theorem dX10_post_83 : decode cX10_post 83 = .ok (.aload_n 0, 1) := by decide +kernel
theorem dX10_post_84 : decode cX10_post 84 = .ok (.getfield 31, 3) := by decide +kernel
theorem dX10_post_87 : decode cX10_post 87 = .ok (.iload_n 1, 1) := by decide +kernel
theorem dX10_post_88 : decode cX10_post 88 = .ok (.iaload, 1) := by decide +kernel
theorem dX10_post_89 : decode cX10_post 89 = .ok (.iastore, 1) := by decide +kernel
theorem dX10_post_90 : decode cX10_post 90 = .ok (.aload_n 0, 1) := by decide +kernel
theorem dX10_post_91 : decode cX10_post 91 = .ok (.getfield 31, 3) := by decide +kernel
theorem dX10_post_94 : decode cX10_post 94 = .ok (.iload_n 1, 1) := by decide +kernel
theorem dX10_post_95 : decode cX10_post 95 = .ok (.aload_n 0, 1) := by decide +kernel
theorem dX10_post_96 : decode cX10_post 96 = .ok (.getfield 31, 3) := by decide +kernel
theorem dX10_post_99 : decode cX10_post 99 = .ok (.iload_n 1, 1) := by decide +kernel
theorem dX10_post_100 : decode cX10_post 100 = .ok (.iaload, 1) := by decide +kernel
theorem dX10_post_101 : decode cX10_post 101 = .ok (.aload_n 0, 1) := by decide +kernel
theorem dX10_post_102 : decode cX10_post 102 = .ok (.iload 8, 2) := by decide +kernel
theorem dX10_post_104 : decode cX10_post 104 = .ok (.invokevirtual 178, 3) := by decide +kernel
theorem dX10_post_107 : decode cX10_post 107 = .ok (.iadd, 1) := by decide +kernel
theorem dX10_post_108 : decode cX10_post 108 = .ok (.bipush 64, 2) := by decide +kernel
theorem dX10_post_110 : decode cX10_post 110 = .ok (.irem, 1) := by decide +kernel
theorem dX10_post_111 : decode cX10_post 111 = .ok (.iastore, 1) := by decide +kernel
theorem dX10_post_112 : decode cX10_post 112 = .ok (.aload_n 0, 1) := by decide +kernel
theorem dX10_post_113 : decode cX10_post 113 = .ok (.getfield 59, 3) := by decide +kernel
theorem dX10_post_116 : decode cX10_post 116 = .ok (.iload_n 1, 1) := by decide +kernel
theorem dX10_post_117 : decode cX10_post 117 = .ok (.dup2, 1) := by decide +kernel
theorem dX10_post_118 : decode cX10_post 118 = .ok (.iaload, 1) := by decide +kernel
theorem dX10_post_119 : decode cX10_post 119 = .ok (.iconst 1, 1) := by decide +kernel
theorem dX10_post_120 : decode cX10_post 120 = .ok (.iadd, 1) := by decide +kernel
theorem dX10_post_121 : decode cX10_post 121 = .ok (.iastore, 1) := by decide +kernel
theorem dX10_post_122 : decode cX10_post 122 = .ok (.aload_n 0, 1) := by decide +kernel
theorem dX10_post_123 : decode cX10_post 123 = .ok (.getfield 62, 3) := by decide +kernel
theorem dX10_post_126 : decode cX10_post 126 = .ok (.iload_n 1, 1) := by decide +kernel
theorem dX10_post_127 : decode cX10_post 127 = .ok (.dup2, 1) := by decide +kernel
theorem dX10_post_128 : decode cX10_post 128 = .ok (.iaload, 1) := by decide +kernel
theorem dX10_post_129 : decode cX10_post 129 = .ok (.iconst 1, 1) := by decide +kernel
theorem dX10_post_130 : decode cX10_post 130 = .ok (.iadd, 1) := by decide +kernel
theorem dX10_post_131 : decode cX10_post 131 = .ok (.iastore, 1) := by decide +kernel
theorem dX10_post_132 : decode cX10_post 132 = .ok (.aload_n 0, 1) := by decide +kernel
theorem dX10_post_133 : decode cX10_post 133 = .ok (.getfield 62, 3) := by decide +kernel
theorem dX10_post_136 : decode cX10_post 136 = .ok (.iload_n 1, 1) := by decide +kernel
theorem dX10_post_137 : decode cX10_post 137 = .ok (.iaload, 1) := by decide +kernel
theorem dX10_post_138 : decode cX10_post 138 = .ok (.iconst 1, 1) := by decide +kernel
theorem dX10_post_139 : decode cX10_post 139 = .ok (.isub, 1) := by decide +kernel
theorem dX10_post_140 : decode cX10_post 140 = .ok (.ireturn, 1) := by decide +kernel
set_option maxHeartbeats 8000000 in
set_option maxRecDepth 100000 in
theorem u_X10_post (l : Launch) (E : EE) (z0 : Nat) (G : Nat → Nat) (hGz : ∀ q, G q ≠ 0 → z0 ≤ q) (h0 : Nat) (rf : Nat → Nat) (hR : MG G h0 rf) (t0 t1 t2 : Int32) (A : AA) (cd pk : Int32) (p0 : Int32) (p1 : Int32) (p2 : Int32) (p3 : Int32) (p4 : Int32) (p5 : Int32) (p6 : Int32) (hI4 : I4 (A 10) (A 20) (A 29) (A 24) (A 11) (A 12) (A 13)) (hI6 : I6 (A 22) (A 23) (A 24) (A 25) (A 26)) (hI8 : I8 (A 20) (A 30) (A 37) (A 36)) (hy0 : 0 ≤ p0.toInt ∧ p0.toInt ≤ 3) (hy1 : 0 ≤ p1.toInt ∧ p1.toInt ≤ 3) (hy2 : 0 ≤ p2.toInt ∧ p2.toInt ≤ 32) (hy3 : 1 ≤ p3.toInt ∧ p3.toInt ≤ 12) (hy4 : p2.toInt + p3.toInt ≤ 32) (hy5 : p1.toInt = 0 ∨ (0 ≤ p4.toInt ∧ p4.toInt ≤ 5)) (hy6 : -1 ≤ p5.toInt ∧ p5.toInt ≤ 31) (hy7 : ∀ n : Nat, (n : Int) = p0.toInt → ((A 10) n).toInt = 1 ∧ ((A 20) n).toInt ≠ 4) : Met l yX10_post [Cond.code yX10_post cX10_post 9 (some .int)] ({ frames := 1, cells := 0, slots := 0, locals := 21 } : Room) (va_Pc [.ref h0, .int p0, .int p1, .int p2, .int p3, .int p4, .int p5, .int p6] (fun U => MH E h0 rf t0 t1 t2 A cd pk U.heap ∧ KS E z0 U)) (va_Qi (fun (r : Int32) (u : (Nat → Int32) × (Nat → Int32) × (Nat → Int32) × (Nat → Int32) × (Nat → Int32) × (Nat → Int32) × (Nat → Int32) × (Nat → Int32) × (Nat → Int32) × (Nat → Int32) × (Nat → Int32)) => (I4 (A 10) (u.2.1) (u.2.2.2.2.2.2.2.2.2.2) (u.2.2.2.2.2.1) (u.1) (A 12) (A 13)) ∧ (I6 (u.2.2.2.1) (u.2.2.2.2.1) (u.2.2.2.2.2.1) (u.2.2.2.2.2.2.1) (u.2.2.2.2.2.2.2.1)) ∧ (I8 (u.2.1) (A 30) (A 37) (A 36)) ∧ (D_X10_post A cd pk p0 p1 p2 p3 p4 p5 p6 (uA (uA (uA (uA (uA (uA (uA (uA (uA (uA (uA A 11 (u.1)) 20 (u.2.1)) 21 (u.2.2.1)) 22 (u.2.2.2.1)) 23 (u.2.2.2.2.1)) 24 (u.2.2.2.2.2.1)) 25 (u.2.2.2.2.2.2.1)) 26 (u.2.2.2.2.2.2.2.1)) 27 (u.2.2.2.2.2.2.2.2.1)) 28 (u.2.2.2.2.2.2.2.2.2.1)) 29 (u.2.2.2.2.2.2.2.2.2.2)) cd pk r)) (fun u t => MH E h0 rf t0 t1 t2 (uA (uA (uA (uA (uA (uA (uA (uA (uA (uA (uA A 11 (u.1)) 20 (u.2.1)) 21 (u.2.2.1)) 22 (u.2.2.2.1)) 23 (u.2.2.2.2.1)) 24 (u.2.2.2.2.2.1)) 25 (u.2.2.2.2.2.2.1)) 26 (u.2.2.2.2.2.2.2.1)) 27 (u.2.2.2.2.2.2.2.2.1)) 28 (u.2.2.2.2.2.2.2.2.2.1)) 29 (u.2.2.2.2.2.2.2.2.2.2)) cd pk t.heap) (fun q : Nat => G q ≠ 0)) 0 0 (fun q : Nat => G q ≠ 0) := by
  refine Met.ofW (cc := cX10_post) (maxL := 9) (ret := (some .int)) (by decide) rfl ?_
  intro p e s m args below meth c s₁ B hml hv
  obtain ⟨rfl, hM, hK⟩ := hv
  have hx := B.exec
  have hb := B.bytes
  have hr := B.returns
  have hts : ∀ w ∈ TS, w.before ([.ref h0, .int p0, .int p1, .int p2, .int p3, .int p4, .int p5, .int p6] : List Value).toArray s = true := fun w hw => hK.2.1 w hw _
  have hown : s.vm.findClass RX10 = some m.cls := findClass_of_methodNamed B.named
  have hlocks := B.notSynchronized
  have hS : va_S (fun q : Nat => G q ≠ 0) s.heap s.heap [] := va_S.rf
  have hAz : ∀ q, (fun q : Nat => G q ≠ 0) q → z0 ≤ q := hGz
  have hl := lv_entry ([.ref h0, .int p0, .int p1, .int p2, .int p3, .int p4, .int p5, .int p6]) (n := 9) (Nat.le_of_ble_eq_true rfl)
  rw [lg_entry_eq]
  generalize (lg_sl ([.ref h0, .int p0, .int p1, .int p2, .int p3, .int p4, .int p5, .int p6]) ++ List.replicate (9 - (lg_sl ([.ref h0, .int p0, .int p1, .int p2, .int p3, .int p4, .int p5, .int p6])).length) Slot.unset).toArray = ls at hl ⊢
  have hl : lv_has ls 9 [(0, .ref h0), (1, .int p0), (2, .int p1), (3, .int p2), (4, .int p3), (5, .int p4), (6, .int p5), (7, .int p6)] := hl
  obtain ⟨n_1, hn_1, en_1⟩ := s_nat (x := p0) (by omega)
  obtain ⟨hst0, hrq0⟩ := hy7 n_1 (by omega)
  have rg0 := ((hI4 n_1 (by omega)).1 hst0).rng
  refine lv_iconst (v := 4) hx hb dX10_post_0 (by decide) ?_
  refine lv_iload_n hx hb dX10_post_1 rfl (lv_at hl 1 rfl) ?_
  refine lv_imul hx hb dX10_post_2 ?_
  refine lv_topi (fun x_2 ex_2 => ?_)
  have fx_2 : x_2.toInt = 4 * p0.toInt := by rw [ex_2]; exact s_mulK i_4 (by omega) (by omega)
  refine lv_aload_n hx hb dX10_post_3 rfl (lv_at hl 0 rfl) ?_
  refine va_get (D := DG E) (ci := 10) (v := .ref (rf 20)) (C := RX10) (T := TX10) (N := 49) hx hb hts iw_X10 hown hK.1 (va_one hM.1) 0 rfl rfl 20 (by decide) (hts _ fl_X10_59) (fun _ h9 => h9) rfl dX10_post_4 ?_
  refine lv_iload_n hx hb dX10_post_7 rfl (lv_at hl 1 rfl) ?_
  have hi_3 : vp_in p0 4 := vp_in_iff.mpr (by omega)
  have ha_4 : va_at (DG E) vwCl (rf 20, .inl (E.2.2 0, 4, .inl (A 20))) _ := hM.2 20 (by decide) (by decide) (by decide)
  refine va_iald (D := DG E) hx hb hK.1 (va_one ha_4) 0 0 rfl rfl hi_3 dX10_post_8 ?_
  refine W.eq (g2 := F0 m 9 ls [.int ((A 20) n_1), .int x_2]) (by rw [en_1]) ?_
  have hk_5 : n_1 < 4 := by omega
  have q_6 : 0 ≤ ((A 20) n_1).toInt := (hI8 n_1 hk_5).1
  have q_7 : ((A 20) n_1).toInt ≤ 4 := (hI8 n_1 hk_5).2.1
  refine lv_iadd hx hb dX10_post_9 ?_
  refine lv_topi (fun x_8 ex_8 => ?_)
  have fx_8 : x_8.toInt = x_2.toInt + ((A 20) n_1).toInt := by have h9 := s_add (x := x_2) (y := ((A 20) n_1)) (by omega) (by omega); rw [ex_8]; exact h9
  refine lv_istore (lv' := [(8, .int x_8), (0, .ref h0), (1, .int p0), (2, .int p1), (3, .int p2), (4, .int p3), (5, .int p4), (6, .int p5), (7, .int p6)]) hx hb dX10_post_10 hl (by decide) rfl (fun ls hl => ?_)
  refine lv_aload_n hx hb dX10_post_12 rfl (lv_at hl 1 rfl) ?_
  refine va_get (D := DG E) (ci := 10) (v := .ref (rf 22)) (C := RX10) (T := TX10) (N := 49) hx hb hts iw_X10 hown hK.1 (va_one hM.1) 0 rfl rfl 22 (by decide) (hts _ fl_X10_65) (fun _ h9 => h9) rfl dX10_post_13 ?_
  refine lv_iload hx hb dX10_post_16 (lv_at hl 0 rfl) ?_
  refine lv_iload_n hx hb dX10_post_18 rfl (lv_at hl 3 rfl) ?_
  have hi_9 : vp_in x_8 16 := vp_in_iff.mpr (by omega)
  have ha_10 : va_at (DG E) vwCl (rf 22, .inl (E.2.2 0, 16, .inl (A 22))) _ := hM.2 22 (by decide) (by decide) (by decide)
  obtain ⟨n_11, hn_11, en_11⟩ := s_nat (x := x_8) (by omega)
  refine rr_iast (D := DG E) hx hb hK.1 0 ha_10 hS (by show G (rf 22) ≠ 0; rw [hR.2 22 (by decide) (by decide) (by decide)]; decide) rfl hi_9 dX10_post_19 (fun H locs hn ho hz hS => ?_)
  rw [en_11] at hn
  obtain ⟨g_10, eg_10⟩ : ∃ z : Nat → Int32, z = upd (A 22) n_11 p1 := ⟨_, rfl⟩
  have sg_10 : g_10 n_11 = p1 := by rw [eg_10]; exact upd_s
  have ng_10 : ∀ k, k ≠ n_11 → g_10 k = (A 22) k := fun k hk => by rw [eg_10]; exact upd_n hk
  have hn : va_at (DG E) vwCl (rf 22, .inl (E.2.2 0, 16, .inl g_10)) H := by rw [eg_10]; exact hn
  have hM : MH E h0 rf t0 t1 t2 (uA A 22 g_10) cd pk H := hM.w hR 22 (by decide) (by decide) (by decide) hn ho
  refine lv_aload_n hx hb dX10_post_20 rfl (lv_at hl 1 rfl) ?_
  refine va_get (D := DG E) (ci := 10) (v := .ref (rf 23)) (C := RX10) (T := TX10) (N := 49) hx hb hts iw_X10 hown hK.1 (va_one hM.1) 0 rfl rfl 23 (by decide) (hts _ fl_X10_68) (fun _ h9 => h9) rfl dX10_post_21 ?_
  refine lv_iload hx hb dX10_post_24 (lv_at hl 0 rfl) ?_
  refine lv_iload_n hx hb dX10_post_26 rfl (lv_at hl 4 rfl) ?_
  have ha_12 : va_at (DG E) vwCl (rf 23, .inl (E.2.2 0, 16, .inl (A 23))) _ := hM.2 23 (by decide) (by decide) (by decide)
  refine rr_iast (D := DG E) hx hb hK.1 0 ha_12 hS (by show G (rf 23) ≠ 0; rw [hR.2 23 (by decide) (by decide) (by decide)]; decide) rfl hi_9 dX10_post_27 (fun H locs hn ho hz hS => ?_)
  rw [en_11] at hn
  obtain ⟨g_12, eg_12⟩ : ∃ z : Nat → Int32, z = upd (A 23) n_11 p2 := ⟨_, rfl⟩
  have sg_12 : g_12 n_11 = p2 := by rw [eg_12]; exact upd_s
  have ng_12 : ∀ k, k ≠ n_11 → g_12 k = (A 23) k := fun k hk => by rw [eg_12]; exact upd_n hk
  have hn : va_at (DG E) vwCl (rf 23, .inl (E.2.2 0, 16, .inl g_12)) H := by rw [eg_12]; exact hn
  have hM : MH E h0 rf t0 t1 t2 (uA (uA A 22 g_10) 23 g_12) cd pk H := hM.w hR 23 (by decide) (by decide) (by decide) hn ho
  refine lv_aload_n hx hb dX10_post_28 rfl (lv_at hl 1 rfl) ?_
  refine va_get (D := DG E) (ci := 10) (v := .ref (rf 24)) (C := RX10) (T := TX10) (N := 49) hx hb hts iw_X10 hown hK.1 (va_one hM.1) 0 rfl rfl 24 (by decide) (hts _ fl_X10_71) (fun _ h9 => h9) rfl dX10_post_29 ?_
  refine lv_iload hx hb dX10_post_32 (lv_at hl 0 rfl) ?_
  refine lv_iload hx hb dX10_post_34 (lv_at hl 5 rfl) ?_
  have ha_13 : va_at (DG E) vwCl (rf 24, .inl (E.2.2 0, 16, .inl (A 24))) _ := hM.2 24 (by decide) (by decide) (by decide)
  refine rr_iast (D := DG E) hx hb hK.1 0 ha_13 hS (by show G (rf 24) ≠ 0; rw [hR.2 24 (by decide) (by decide) (by decide)]; decide) rfl hi_9 dX10_post_36 (fun H locs hn ho hz hS => ?_)
  rw [en_11] at hn
  obtain ⟨g_13, eg_13⟩ : ∃ z : Nat → Int32, z = upd (A 24) n_11 p3 := ⟨_, rfl⟩
  have sg_13 : g_13 n_11 = p3 := by rw [eg_13]; exact upd_s
  have ng_13 : ∀ k, k ≠ n_11 → g_13 k = (A 24) k := fun k hk => by rw [eg_13]; exact upd_n hk
  have hn : va_at (DG E) vwCl (rf 24, .inl (E.2.2 0, 16, .inl g_13)) H := by rw [eg_13]; exact hn
  have hM : MH E h0 rf t0 t1 t2 (uA (uA (uA A 22 g_10) 23 g_12) 24 g_13) cd pk H := hM.w hR 24 (by decide) (by decide) (by decide) hn ho
  refine lv_aload_n hx hb dX10_post_37 rfl (lv_at hl 1 rfl) ?_
  refine va_get (D := DG E) (ci := 10) (v := .ref (rf 25)) (C := RX10) (T := TX10) (N := 49) hx hb hts iw_X10 hown hK.1 (va_one hM.1) 0 rfl rfl 25 (by decide) (hts _ fl_X10_74) (fun _ h9 => h9) rfl dX10_post_38 ?_
  refine lv_iload hx hb dX10_post_41 (lv_at hl 0 rfl) ?_
  refine lv_iload hx hb dX10_post_43 (lv_at hl 6 rfl) ?_
  have ha_14 : va_at (DG E) vwCl (rf 25, .inl (E.2.2 0, 16, .inl (A 25))) _ := hM.2 25 (by decide) (by decide) (by decide)
  refine rr_iast (D := DG E) hx hb hK.1 0 ha_14 hS (by show G (rf 25) ≠ 0; rw [hR.2 25 (by decide) (by decide) (by decide)]; decide) rfl hi_9 dX10_post_45 (fun H locs hn ho hz hS => ?_)
  rw [en_11] at hn
  obtain ⟨g_14, eg_14⟩ : ∃ z : Nat → Int32, z = upd (A 25) n_11 p4 := ⟨_, rfl⟩
  have sg_14 : g_14 n_11 = p4 := by rw [eg_14]; exact upd_s
  have ng_14 : ∀ k, k ≠ n_11 → g_14 k = (A 25) k := fun k hk => by rw [eg_14]; exact upd_n hk
  have hn : va_at (DG E) vwCl (rf 25, .inl (E.2.2 0, 16, .inl g_14)) H := by rw [eg_14]; exact hn
  have hM : MH E h0 rf t0 t1 t2 (uA (uA (uA (uA A 22 g_10) 23 g_12) 24 g_13) 25 g_14) cd pk H := hM.w hR 25 (by decide) (by decide) (by decide) hn ho
  refine lv_aload_n hx hb dX10_post_46 rfl (lv_at hl 1 rfl) ?_
  refine va_get (D := DG E) (ci := 10) (v := .ref (rf 26)) (C := RX10) (T := TX10) (N := 49) hx hb hts iw_X10 hown hK.1 (va_one hM.1) 0 rfl rfl 26 (by decide) (hts _ fl_X10_77) (fun _ h9 => h9) rfl dX10_post_47 ?_
  refine lv_iload hx hb dX10_post_50 (lv_at hl 0 rfl) ?_
  refine lv_iload hx hb dX10_post_52 (lv_at hl 7 rfl) ?_
  have ha_15 : va_at (DG E) vwCl (rf 26, .inl (E.2.2 0, 16, .inl (A 26))) _ := hM.2 26 (by decide) (by decide) (by decide)
  refine rr_iast (D := DG E) hx hb hK.1 0 ha_15 hS (by show G (rf 26) ≠ 0; rw [hR.2 26 (by decide) (by decide) (by decide)]; decide) rfl hi_9 dX10_post_54 (fun H locs hn ho hz hS => ?_)
  rw [en_11] at hn
  obtain ⟨g_15, eg_15⟩ : ∃ z : Nat → Int32, z = upd (A 26) n_11 p5 := ⟨_, rfl⟩
  have sg_15 : g_15 n_11 = p5 := by rw [eg_15]; exact upd_s
  have ng_15 : ∀ k, k ≠ n_11 → g_15 k = (A 26) k := fun k hk => by rw [eg_15]; exact upd_n hk
  have hn : va_at (DG E) vwCl (rf 26, .inl (E.2.2 0, 16, .inl g_15)) H := by rw [eg_15]; exact hn
  have hM : MH E h0 rf t0 t1 t2 (uA (uA (uA (uA (uA A 22 g_10) 23 g_12) 24 g_13) 25 g_14) 26 g_15) cd pk H := hM.w hR 26 (by decide) (by decide) (by decide) hn ho
  refine lv_aload_n hx hb dX10_post_55 rfl (lv_at hl 1 rfl) ?_
  refine va_get (D := DG E) (ci := 10) (v := .ref (rf 27)) (C := RX10) (T := TX10) (N := 49) hx hb hts iw_X10 hown hK.1 (va_one hM.1) 0 rfl rfl 27 (by decide) (hts _ fl_X10_80) (fun _ h9 => h9) rfl dX10_post_56 ?_
  refine lv_iload hx hb dX10_post_59 (lv_at hl 0 rfl) ?_
  refine lv_iload hx hb dX10_post_61 (lv_at hl 8 rfl) ?_
  have ha_16 : va_at (DG E) vwCl (rf 27, .inl (E.2.2 0, 16, .inl (A 27))) _ := hM.2 27 (by decide) (by decide) (by decide)
  refine rr_iast (D := DG E) hx hb hK.1 0 ha_16 hS (by show G (rf 27) ≠ 0; rw [hR.2 27 (by decide) (by decide) (by decide)]; decide) rfl hi_9 dX10_post_63 (fun H locs hn ho hz hS => ?_)
  rw [en_11] at hn
  obtain ⟨g_16, eg_16⟩ : ∃ z : Nat → Int32, z = upd (A 27) n_11 p6 := ⟨_, rfl⟩
  have sg_16 : g_16 n_11 = p6 := by rw [eg_16]; exact upd_s
  have ng_16 : ∀ k, k ≠ n_11 → g_16 k = (A 27) k := fun k hk => by rw [eg_16]; exact upd_n hk
  have hn : va_at (DG E) vwCl (rf 27, .inl (E.2.2 0, 16, .inl g_16)) H := by rw [eg_16]; exact hn
  have hM : MH E h0 rf t0 t1 t2 (uA (uA (uA (uA (uA (uA A 22 g_10) 23 g_12) 24 g_13) 25 g_14) 26 g_15) 27 g_16) cd pk H := hM.w hR 27 (by decide) (by decide) (by decide) hn ho
  refine lv_aload_n hx hb dX10_post_64 rfl (lv_at hl 1 rfl) ?_
  refine va_get (D := DG E) (ci := 10) (v := .ref (rf 28)) (C := RX10) (T := TX10) (N := 49) hx hb hts iw_X10 hown hK.1 (va_one hM.1) 0 rfl rfl 28 (by decide) (hts _ fl_X10_83) (fun _ h9 => h9) rfl dX10_post_65 ?_
  refine lv_iload hx hb dX10_post_68 (lv_at hl 0 rfl) ?_
  refine lv_aload_n hx hb dX10_post_70 rfl (lv_at hl 1 rfl) ?_
  refine va_get (D := DG E) (ci := 10) (v := .ref (rf 21)) (C := RX10) (T := TX10) (N := 49) hx hb hts iw_X10 hown hK.1 (va_one hM.1) 0 rfl rfl 21 (by decide) (hts _ fl_X10_62) (fun _ h9 => h9) rfl dX10_post_71 ?_
  refine lv_iload_n hx hb dX10_post_74 rfl (lv_at hl 2 rfl) ?_
  have ha_17 : va_at (DG E) vwCl (rf 21, .inl (E.2.2 0, 4, .inl (A 21))) _ := hM.2 21 (by decide) (by decide) (by decide)
  refine va_iald (D := DG E) hx hb hK.1 (va_one ha_17) 0 0 rfl rfl hi_3 dX10_post_75 ?_
  refine W.eq (g2 := F0 m 76 ls [.int ((A 21) n_1), .int x_8, .ref (rf 28)]) (by rw [en_1]) ?_
  have ha_18 : va_at (DG E) vwCl (rf 28, .inl (E.2.2 0, 16, .inl (A 28))) _ := hM.2 28 (by decide) (by decide) (by decide)
  refine rr_iast (D := DG E) hx hb hK.1 0 ha_18 hS (by show G (rf 28) ≠ 0; rw [hR.2 28 (by decide) (by decide) (by decide)]; decide) rfl hi_9 dX10_post_76 (fun H locs hn ho hz hS => ?_)
  rw [en_11] at hn
  obtain ⟨g_18, eg_18⟩ : ∃ z : Nat → Int32, z = upd (A 28) n_11 ((A 21) n_1) := ⟨_, rfl⟩
  have sg_18 : g_18 n_11 = ((A 21) n_1) := by rw [eg_18]; exact upd_s
  have ng_18 : ∀ k, k ≠ n_11 → g_18 k = (A 28) k := fun k hk => by rw [eg_18]; exact upd_n hk
  have hn : va_at (DG E) vwCl (rf 28, .inl (E.2.2 0, 16, .inl g_18)) H := by rw [eg_18]; exact hn
  have hM : MH E h0 rf t0 t1 t2 (uA (uA (uA (uA (uA (uA (uA A 22 g_10) 23 g_12) 24 g_13) 25 g_14) 26 g_15) 27 g_16) 28 g_18) cd pk H := hM.w hR 28 (by decide) (by decide) (by decide) hn ho
  refine lv_aload_n hx hb dX10_post_77 rfl (lv_at hl 1 rfl) ?_
  refine va_get (D := DG E) (ci := 10) (v := .ref (rf 29)) (C := RX10) (T := TX10) (N := 49) hx hb hts iw_X10 hown hK.1 (va_one hM.1) 0 rfl rfl 29 (by decide) (hts _ fl_X10_86) (fun _ h9 => h9) rfl dX10_post_78 ?_
  refine lv_iload hx hb dX10_post_81 (lv_at hl 0 rfl) ?_
  refine lv_aload_n hx hb dX10_post_83 rfl (lv_at hl 1 rfl) ?_
  refine va_get (D := DG E) (ci := 10) (v := .ref (rf 11)) (C := RX10) (T := TX10) (N := 49) hx hb hts iw_X10 hown hK.1 (va_one hM.1) 0 rfl rfl 11 (by decide) (hts _ fl_X10_31) (fun _ h9 => h9) rfl dX10_post_84 ?_
  refine lv_iload_n hx hb dX10_post_87 rfl (lv_at hl 2 rfl) ?_
  have ha_19 : va_at (DG E) vwCl (rf 11, .inl (E.2.2 0, 4, .inl (A 11))) _ := hM.2 11 (by decide) (by decide) (by decide)
  refine va_iald (D := DG E) hx hb hK.1 (va_one ha_19) 0 0 rfl rfl hi_3 dX10_post_88 ?_
  refine W.eq (g2 := F0 m 89 ls [.int ((A 11) n_1), .int x_8, .ref (rf 29)]) (by rw [en_1]) ?_
  have ha_20 : va_at (DG E) vwCl (rf 29, .inl (E.2.2 0, 16, .inl (A 29))) _ := hM.2 29 (by decide) (by decide) (by decide)
  refine rr_iast (D := DG E) hx hb hK.1 0 ha_20 hS (by show G (rf 29) ≠ 0; rw [hR.2 29 (by decide) (by decide) (by decide)]; decide) rfl hi_9 dX10_post_89 (fun H locs hn ho hz hS => ?_)
  rw [en_11] at hn
  obtain ⟨g_20, eg_20⟩ : ∃ z : Nat → Int32, z = upd (A 29) n_11 ((A 11) n_1) := ⟨_, rfl⟩
  have sg_20 : g_20 n_11 = ((A 11) n_1) := by rw [eg_20]; exact upd_s
  have ng_20 : ∀ k, k ≠ n_11 → g_20 k = (A 29) k := fun k hk => by rw [eg_20]; exact upd_n hk
  have hn : va_at (DG E) vwCl (rf 29, .inl (E.2.2 0, 16, .inl g_20)) H := by rw [eg_20]; exact hn
  have hM : MH E h0 rf t0 t1 t2 (uA (uA (uA (uA (uA (uA (uA (uA A 22 g_10) 23 g_12) 24 g_13) 25 g_14) 26 g_15) 27 g_16) 28 g_18) 29 g_20) cd pk H := hM.w hR 29 (by decide) (by decide) (by decide) hn ho
  refine lv_aload_n hx hb dX10_post_90 rfl (lv_at hl 1 rfl) ?_
  refine va_get (D := DG E) (ci := 10) (v := .ref (rf 11)) (C := RX10) (T := TX10) (N := 49) hx hb hts iw_X10 hown hK.1 (va_one hM.1) 0 rfl rfl 11 (by decide) (hts _ fl_X10_31) (fun _ h9 => h9) rfl dX10_post_91 ?_
  refine lv_iload_n hx hb dX10_post_94 rfl (lv_at hl 2 rfl) ?_
  refine lv_aload_n hx hb dX10_post_95 rfl (lv_at hl 1 rfl) ?_
  refine va_get (D := DG E) (ci := 10) (v := .ref (rf 11)) (C := RX10) (T := TX10) (N := 49) hx hb hts iw_X10 hown hK.1 (va_one hM.1) 0 rfl rfl 11 (by decide) (hts _ fl_X10_31) (fun _ h9 => h9) rfl dX10_post_96 ?_
  refine lv_iload_n hx hb dX10_post_99 rfl (lv_at hl 2 rfl) ?_
  have ha_21 : va_at (DG E) vwCl (rf 11, .inl (E.2.2 0, 4, .inl (A 11))) _ := hM.2 11 (by decide) (by decide) (by decide)
  refine va_iald (D := DG E) hx hb hK.1 (va_one ha_21) 0 0 rfl rfl hi_3 dX10_post_100 ?_
  refine W.eq (g2 := F0 m 101 ls [.int ((A 11) n_1), .int p0, .ref (rf 11)]) (by rw [en_1]) ?_
  refine lv_aload_n hx hb dX10_post_101 rfl (lv_at hl 1 rfl) ?_
  refine lv_iload hx hb dX10_post_102 (lv_at hl 0 rfl) ?_
  have hI6_22 : I6 g_10 g_12 g_13 g_14 g_15 := by
    intro n9 hn9
    have h9 : 0 ≤ ((A 22) n9).toInt ∧ ((A 22) n9).toInt ≤ 3 ∧ 0 ≤ ((A 23) n9).toInt ∧ 0 ≤ ((A 24) n9).toInt ∧ ((A 24) n9).toInt ≤ 12 ∧ ((A 23) n9).toInt + ((A 24) n9).toInt ≤ 32 ∧ (((A 22) n9).toInt = 0 ∨ (0 ≤ ((A 25) n9).toInt ∧ ((A 25) n9).toInt ≤ 5)) ∧ -1 ≤ ((A 26) n9).toInt ∧ ((A 26) n9).toInt ≤ 31 := hI6 n9 hn9
    show 0 ≤ (g_10 n9).toInt ∧ (g_10 n9).toInt ≤ 3 ∧ 0 ≤ (g_12 n9).toInt ∧ 0 ≤ (g_13 n9).toInt ∧ (g_13 n9).toInt ≤ 12 ∧ (g_12 n9).toInt + (g_13 n9).toInt ≤ 32 ∧ ((g_10 n9).toInt = 0 ∨ (0 ≤ (g_14 n9).toInt ∧ (g_14 n9).toInt ≤ 5)) ∧ -1 ≤ (g_15 n9).toInt ∧ (g_15 n9).toInt ≤ 31
    by_cases ezn_11 : n9 = n_11
    · rw [ezn_11] at h9 ⊢
      rw [sg_10]
      rw [sg_12]
      rw [sg_13]
      rw [sg_14]
      rw [sg_15]
      clear h9
      exact ⟨by omega, by omega, by omega, by omega, by omega, by omega, by omega, by omega, by omega⟩
    · rw [ng_10 n9 ezn_11]
      rw [ng_12 n9 ezn_11]
      rw [ng_13 n9 ezn_11]
      rw [ng_14 n9 ezn_11]
      rw [ng_15 n9 ezn_11]
      exact h9
  refine va_calli (rnV (fun H => MH E h0 rf t0 t1 t2 (uA (uA (uA (uA (uA (uA (uA (uA A 22 g_10) 23 g_12) 24 g_13) 25 g_14) 26 g_15) 27 g_16) 28 g_18) 29 g_20) cd pk H) (As := [.int x_8]) (rest := [.int ((A 11) n_1), .int p0, .ref (rf 11)]) ⟨hx, hb, hml, hown, hts⟩ (u_X10_numbersOf l E z0 G hGz h0 rf hR t0 t1 t2 (uA (uA (uA (uA (uA (uA (uA (uA A 22 g_10) 23 g_12) 24 g_13) 25 g_14) 26 g_15) 27 g_16) 28 g_18) 29 g_20) cd pk x_8 hI6_22 (show 0 ≤ x_8.toInt ∧ x_8.toInt ≤ 15 from by first | decide | omega)) (cwV 1 hts (gdV ml_X10_178 im_X10_numbersOf se_X10_X10_numbersOf in_X10 co_X10_numbersOf rfl) rfl rfl rfl (by decide +kernel) ⟨Nat.le_of_ble_eq_true rfl, Nat.le_of_ble_eq_true rfl⟩) hM (fun U hU hW => hK.go hW hS hAz hU) (va_recv hK.1 (va_one hM.1) (ci := 10) (q0 := 0) rfl rfl) rfl rfl hl.1 rfl (lv_room (Nat.le_of_ble_eq_true rfl)) dX10_post_104 ⟨Nat.le_of_ble_eq_true rfl, Nat.le_of_ble_eq_true rfl⟩) hS (fun q _ h => h.elim) (fun q h => h.elim) (fun r_23 ur_23 t H locs ht hvm hwr_23 hB hz hk hS => ?_)
  have hM := hM.kept (fun q hq => hk q hq (fun h => h))
  have hDr_23 : D_X10_numbersOf (uA (uA (uA (uA (uA (uA (uA (uA A 22 g_10) 23 g_12) 24 g_13) 25 g_14) 26 g_15) 27 g_16) 28 g_18) 29 g_20) cd pk x_8 r_23 := hwr_23.2.2
  have hpr_23_0 : 0 ≤ r_23.toInt ∧ r_23.toInt ≤ 3 := hwr_23.1
  have hpr_23_1 : ∀ n : Nat, (n : Int) = x_8.toInt → r_23.toInt = NB g_13 n := hwr_23.2.1
  have iahpr_23_1 := hpr_23_1 n_11 (by omega)
  refine lv_iadd hx hb dX10_post_107 ?_
  refine lv_topi (fun x_24 ex_24 => ?_)
  have fx_24 : x_24.toInt = ((A 11) n_1).toInt + r_23.toInt := by have h9 := s_add (x := ((A 11) n_1)) (y := r_23) (by omega) (by omega); rw [ex_24]; exact h9
  refine lv_bipush (v := 64) hx hb dX10_post_108 (by decide) ?_
  refine lv_irem hx hb dX10_post_110 (by decide) ?_
  refine lv_topi (fun x_25 ex_25 => ?_)
  have fx_25 : x_25.toInt = x_24.toInt % 64 := by have h9 := s_rem (x := x_24) 64 (by decide) (by decide) (by omega); rw [ex_25]; exact h9
  have ha_26 : va_at (DG E) vwCl (rf 11, .inl (E.2.2 0, 4, .inl (A 11))) _ := hM.2 11 (by decide) (by decide) (by decide)
  refine rr_iast (D := DG E) hx hb hK.1 0 ha_26 hS (by show G (rf 11) ≠ 0; rw [hR.2 11 (by decide) (by decide) (by decide)]; decide) rfl hi_3 dX10_post_111 (fun H locs hn ho hz hS => ?_)
  rw [en_1] at hn
  obtain ⟨g_26, eg_26⟩ : ∃ z : Nat → Int32, z = upd (A 11) n_1 x_25 := ⟨_, rfl⟩
  have sg_26 : g_26 n_1 = x_25 := by rw [eg_26]; exact upd_s
  have ng_26 : ∀ k, k ≠ n_1 → g_26 k = (A 11) k := fun k hk => by rw [eg_26]; exact upd_n hk
  have hn : va_at (DG E) vwCl (rf 11, .inl (E.2.2 0, 4, .inl g_26)) H := by rw [eg_26]; exact hn
  have hM : MH E h0 rf t0 t1 t2 (uA (uA (uA (uA (uA (uA (uA (uA (uA A 22 g_10) 23 g_12) 24 g_13) 25 g_14) 26 g_15) 27 g_16) 28 g_18) 29 g_20) 11 g_26) cd pk H := hM.w hR 11 (by decide) (by decide) (by decide) hn ho
  refine lv_aload_n hx hb dX10_post_112 rfl (lv_at hl 1 rfl) ?_
  refine va_get (D := DG E) (ci := 10) (v := .ref (rf 20)) (C := RX10) (T := TX10) (N := 49) hx hb hts iw_X10 hown hK.1 (va_one hM.1) 0 rfl rfl 20 (by decide) (hts _ fl_X10_59) (fun _ h9 => h9) rfl dX10_post_113 ?_
  refine lv_iload_n hx hb dX10_post_116 rfl (lv_at hl 2 rfl) ?_
  refine lv_dup2_11 hx hb dX10_post_117 rfl rfl ?_
  have ha_27 : va_at (DG E) vwCl (rf 20, .inl (E.2.2 0, 4, .inl (A 20))) _ := hM.2 20 (by decide) (by decide) (by decide)
  refine va_iald (D := DG E) hx hb hK.1 (va_one ha_27) 0 0 rfl rfl hi_3 dX10_post_118 ?_
  refine W.eq (g2 := F0 m 119 ls [.int ((A 20) n_1), .int p0, .ref (rf 20)]) (by rw [en_1]) ?_
  refine lv_iconst (v := 1) hx hb dX10_post_119 (by decide) ?_
  refine lv_iadd hx hb dX10_post_120 ?_
  refine lv_topi (fun x_28 ex_28 => ?_)
  have fx_28 : x_28.toInt = ((A 20) n_1).toInt + 1 := by have h9 := s_add (x := ((A 20) n_1)) (y := 1) (by rw [i_1]; omega) (by rw [i_1]; omega); rw [i_1] at h9; rw [ex_28]; exact h9
  have ha_29 : va_at (DG E) vwCl (rf 20, .inl (E.2.2 0, 4, .inl (A 20))) _ := hM.2 20 (by decide) (by decide) (by decide)
  refine rr_iast (D := DG E) hx hb hK.1 0 ha_29 hS (by show G (rf 20) ≠ 0; rw [hR.2 20 (by decide) (by decide) (by decide)]; decide) rfl hi_3 dX10_post_121 (fun H locs hn ho hz hS => ?_)
  rw [en_1] at hn
  obtain ⟨g_29, eg_29⟩ : ∃ z : Nat → Int32, z = upd (A 20) n_1 x_28 := ⟨_, rfl⟩
  have sg_29 : g_29 n_1 = x_28 := by rw [eg_29]; exact upd_s
  have ng_29 : ∀ k, k ≠ n_1 → g_29 k = (A 20) k := fun k hk => by rw [eg_29]; exact upd_n hk
  have hn : va_at (DG E) vwCl (rf 20, .inl (E.2.2 0, 4, .inl g_29)) H := by rw [eg_29]; exact hn
  have hM : MH E h0 rf t0 t1 t2 (uA (uA (uA (uA (uA (uA (uA (uA (uA (uA A 22 g_10) 23 g_12) 24 g_13) 25 g_14) 26 g_15) 27 g_16) 28 g_18) 29 g_20) 11 g_26) 20 g_29) cd pk H := hM.w hR 20 (by decide) (by decide) (by decide) hn ho
  refine lv_aload_n hx hb dX10_post_122 rfl (lv_at hl 1 rfl) ?_
  refine va_get (D := DG E) (ci := 10) (v := .ref (rf 21)) (C := RX10) (T := TX10) (N := 49) hx hb hts iw_X10 hown hK.1 (va_one hM.1) 0 rfl rfl 21 (by decide) (hts _ fl_X10_62) (fun _ h9 => h9) rfl dX10_post_123 ?_
  refine lv_iload_n hx hb dX10_post_126 rfl (lv_at hl 2 rfl) ?_
  refine lv_dup2_11 hx hb dX10_post_127 rfl rfl ?_
  have ha_30 : va_at (DG E) vwCl (rf 21, .inl (E.2.2 0, 4, .inl (A 21))) _ := hM.2 21 (by decide) (by decide) (by decide)
  refine va_iald (D := DG E) hx hb hK.1 (va_one ha_30) 0 0 rfl rfl hi_3 dX10_post_128 ?_
  refine W.eq (g2 := F0 m 129 ls [.int ((A 21) n_1), .int p0, .ref (rf 21)]) (by rw [en_1]) ?_
  refine lv_iconst (v := 1) hx hb dX10_post_129 (by decide) ?_
  refine lv_iadd hx hb dX10_post_130 ?_
  refine lv_topi (fun x_31 ex_31 => ?_)
  have ha_32 : va_at (DG E) vwCl (rf 21, .inl (E.2.2 0, 4, .inl (A 21))) _ := hM.2 21 (by decide) (by decide) (by decide)
  refine rr_iast (D := DG E) hx hb hK.1 0 ha_32 hS (by show G (rf 21) ≠ 0; rw [hR.2 21 (by decide) (by decide) (by decide)]; decide) rfl hi_3 dX10_post_131 (fun H locs hn ho hz hS => ?_)
  rw [en_1] at hn
  obtain ⟨g_32, eg_32⟩ : ∃ z : Nat → Int32, z = upd (A 21) n_1 x_31 := ⟨_, rfl⟩
  have sg_32 : g_32 n_1 = x_31 := by rw [eg_32]; exact upd_s
  have ng_32 : ∀ k, k ≠ n_1 → g_32 k = (A 21) k := fun k hk => by rw [eg_32]; exact upd_n hk
  have hn : va_at (DG E) vwCl (rf 21, .inl (E.2.2 0, 4, .inl g_32)) H := by rw [eg_32]; exact hn
  have hM : MH E h0 rf t0 t1 t2 (uA (uA (uA (uA (uA (uA (uA (uA (uA (uA (uA A 22 g_10) 23 g_12) 24 g_13) 25 g_14) 26 g_15) 27 g_16) 28 g_18) 29 g_20) 11 g_26) 20 g_29) 21 g_32) cd pk H := hM.w hR 21 (by decide) (by decide) (by decide) hn ho
  refine lv_aload_n hx hb dX10_post_132 rfl (lv_at hl 1 rfl) ?_
  refine va_get (D := DG E) (ci := 10) (v := .ref (rf 21)) (C := RX10) (T := TX10) (N := 49) hx hb hts iw_X10 hown hK.1 (va_one hM.1) 0 rfl rfl 21 (by decide) (hts _ fl_X10_62) (fun _ h9 => h9) rfl dX10_post_133 ?_
  refine lv_iload_n hx hb dX10_post_136 rfl (lv_at hl 2 rfl) ?_
  have ha_33 : va_at (DG E) vwCl (rf 21, .inl (E.2.2 0, 4, .inl g_32)) _ := hM.2 21 (by decide) (by decide) (by decide)
  refine va_iald (D := DG E) hx hb hK.1 (va_one ha_33) 0 0 rfl rfl hi_3 dX10_post_137 ?_
  refine W.eq (g2 := F0 m 138 ls [.int x_31]) (by rw [en_1, sg_32]) ?_
  refine lv_iconst (v := 1) hx hb dX10_post_138 (by decide) ?_
  refine lv_isub hx hb dX10_post_139 ?_
  refine lv_topi (fun x_34 ex_34 => ?_)
  have hI4_35 : I4 (A 10) g_29 g_20 g_13 g_26 (A 12) (A 13) := by
    intro k hk
    by_cases e : k = n_1
    · rw [e]
      refine ⟨fun _ => ?_, Or.inl hst0⟩
      have e20 : (g_29 n_1).toInt = ((A 20) n_1).toInt + 1 := by rw [sg_29]; omega
      rw [e20]
      refine ((hI4 n_1 (by omega)).1 hst0).post (by omega) n_11 (by omega) ng_20 ng_13 sg_20 ⟨by rw [sg_13]; omega, by rw [sg_13]; omega⟩ ?_
      rw [sg_26]; omega
    · exact (hI4 k hk).cg rfl (ng_29 k e) (fun i hi => ng_20 _ (by omega)) (fun i hi => ng_13 _ (by omega)) (ng_26 k e) rfl rfl
  have hI8_36 : I8 g_29 (A 30) (A 37) (A 36) := by
    intro n9 hn9
    have h9 : 0 ≤ ((A 20) n9).toInt ∧ ((A 20) n9).toInt ≤ 4 ∧ 0 ≤ ((A 30) n9).toInt ∧ ((A 30) n9).toInt ≤ 4 ∧ 0 ≤ ((A 37) n9).toInt ∧ ((A 37) n9).toInt ≤ 2 ∧ (((A 36) n9).toInt = 0 ∨ 1 ≤ ((A 30) n9).toInt) := hI8 n9 hn9
    show 0 ≤ (g_29 n9).toInt ∧ (g_29 n9).toInt ≤ 4 ∧ 0 ≤ ((A 30) n9).toInt ∧ ((A 30) n9).toInt ≤ 4 ∧ 0 ≤ ((A 37) n9).toInt ∧ ((A 37) n9).toInt ≤ 2 ∧ (((A 36) n9).toInt = 0 ∨ 1 ≤ ((A 30) n9).toInt)
    by_cases ezn_1 : n9 = n_1
    · rw [ezn_1] at h9 ⊢
      rw [sg_29]
      exact ⟨by first | exact h9.1 | omega, by first | exact h9.2.1 | omega, by first | exact h9.2.2.1 | omega, by first | exact h9.2.2.2.1 | omega, by first | exact h9.2.2.2.2.1 | omega, by first | exact h9.2.2.2.2.2.1 | omega, by first | exact h9.2.2.2.2.2.2 | omega⟩
    · rw [ng_29 n9 ezn_1]
      exact h9
  exact W.iret (v := x_34) hx hb hr (fun t ht hW => ⟨⟨x_34, (g_26, g_29, g_32, g_10, g_12, g_13, g_14, g_15, g_16, g_18, g_20), rfl, ⟨hI4_35, hI6_22, hI8_36, ⟨n_1, hn_1, x_2, ex_2, fx_2, x_8, ex_8, fx_8, n_11, hn_11, g_10, eg_10, g_12, eg_12, g_13, eg_13, g_14, eg_14, g_15, eg_15, g_16, eg_16, g_18, eg_18, g_20, eg_20, r_23, hDr_23, hpr_23_0, hpr_23_1, x_24, ex_24, fx_24, x_25, ex_25, fx_25, g_26, eg_26, x_28, ex_28, fx_28, g_29, eg_29, x_31, ex_31, g_32, eg_32, x_34, ex_34, rfl, rfl, rfl, rfl⟩⟩, (by show MH E h0 rf t0 t1 t2 (uA (uA (uA (uA (uA (uA (uA (uA (uA (uA (uA A 11 g_26) 20 g_29) 21 g_32) 22 g_10) 23 g_12) 24 g_13) 25 g_14) 26 g_15) 27 g_16) 28 g_18) 29 g_20) cd pk t.heap; rw [ht]; exact hM.cg9 rfl rfl rfl rfl rfl rfl rfl rfl rfl rfl rfl rfl rfl rfl rfl rfl rfl rfl rfl rfl rfl rfl rfl rfl rfl rfl rfl rfl rfl rfl rfl rfl rfl rfl rfl rfl rfl rfl rfl rfl rfl rfl rfl rfl)⟩, hS.F ht⟩) hS.2.2 dX10_post_140

