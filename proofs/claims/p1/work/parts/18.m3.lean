theorem dX10_tickPair_0 : decode cX10_tickPair 0 = .ok (.aload_n 0, 1) := by decide +kernel
theorem dX10_tickPair_1 : decode cX10_tickPair 1 = .ok (.getfield 28, 3) := by decide +kernel
theorem dX10_tickPair_4 : decode cX10_tickPair 4 = .ok (.iload_n 1, 1) := by decide +kernel
theorem dX10_tickPair_5 : decode cX10_tickPair 5 = .ok (.iaload, 1) := by decide +kernel
theorem dX10_tickPair_6 : decode cX10_tickPair 6 = .ok (.iconst 1, 1) := by decide +kernel
theorem dX10_tickPair_7 : decode cX10_tickPair 7 = .ok (.if_icmp .ne 27, 3) := by decide +kernel
theorem dX10_tickPair_10 : decode cX10_tickPair 10 = .ok (.aload_n 0, 1) := by decide +kernel
theorem dX10_tickPair_11 : decode cX10_tickPair 11 = .ok (.getfield 37, 3) := by decide +kernel
theorem dX10_tickPair_14 : decode cX10_tickPair 14 = .ok (.iload_n 1, 1) := by decide +kernel
theorem dX10_tickPair_15 : decode cX10_tickPair 15 = .ok (.iaload, 1) := by decide +kernel
theorem dX10_tickPair_16 : decode cX10_tickPair 16 = .ok (.aload_n 0, 1) := by decide +kernel
theorem dX10_tickPair_17 : decode cX10_tickPair 17 = .ok (.getfield 34, 3) := by decide +kernel
theorem dX10_tickPair_20 : decode cX10_tickPair 20 = .ok (.iload_n 1, 1) := by decide +kernel
theorem dX10_tickPair_21 : decode cX10_tickPair 21 = .ok (.iaload, 1) := by decide +kernel
theorem dX10_tickPair_22 : decode cX10_tickPair 22 = .ok (.if_icmp .ne 14, 3) := by decide +kernel
theorem dX10_tickPair_25 : decode cX10_tickPair 25 = .ok (.aload_n 0, 1) := by decide +kernel
theorem dX10_tickPair_26 : decode cX10_tickPair 26 = .ok (.getfield 52, 3) := by decide +kernel
theorem dX10_tickPair_29 : decode cX10_tickPair 29 = .ok (.iload_n 1, 1) := by decide +kernel
theorem dX10_tickPair_30 : decode cX10_tickPair 30 = .ok (.baload, 1) := by decide +kernel
theorem dX10_tickPair_31 : decode cX10_tickPair 31 = .ok (.ifCond .ne 5, 3) := by decide +kernel
theorem dX10_tickPair_34 : decode cX10_tickPair 34 = .ok (.iconst 0, 1) := by decide +kernel
theorem dX10_tickPair_35 : decode cX10_tickPair 35 = .ok (.ireturn, 1) := by decide +kernel
theorem dX10_tickPair_36 : decode cX10_tickPair 36 = .ok (.aload_n 0, 1) := by decide +kernel
theorem dX10_tickPair_37 : decode cX10_tickPair 37 = .ok (.getfield 43, 3) := by decide +kernel
theorem dX10_tickPair_40 : decode cX10_tickPair 40 = .ok (.iload_n 1, 1) := by decide +kernel
theorem dX10_tickPair_41 : decode cX10_tickPair 41 = .ok (.dup2, 1) := by decide +kernel
theorem dX10_tickPair_42 : decode cX10_tickPair 42 = .ok (.iaload, 1) := by decide +kernel
theorem dX10_tickPair_43 : decode cX10_tickPair 43 = .ok (.iconst 1, 1) := by decide +kernel
theorem dX10_tickPair_44 : decode cX10_tickPair 44 = .ok (.iadd, 1) := by decide +kernel
theorem dX10_tickPair_45 : decode cX10_tickPair 45 = .ok (.iastore, 1) := by decide +kernel
theorem dX10_tickPair_46 : decode cX10_tickPair 46 = .ok (.aload_n 0, 1) := by decide +kernel
theorem dX10_tickPair_47 : decode cX10_tickPair 47 = .ok (.getfield 52, 3) := by decide +kernel
theorem dX10_tickPair_50 : decode cX10_tickPair 50 = .ok (.iload_n 1, 1) := by decide +kernel
theorem dX10_tickPair_51 : decode cX10_tickPair 51 = .ok (.baload, 1) := by decide +kernel
theorem dX10_tickPair_52 : decode cX10_tickPair 52 = .ok (.ifCond .eq 31, 3) := by decide +kernel
theorem dX10_tickPair_55 : decode cX10_tickPair 55 = .ok (.aload_n 0, 1) := by decide +kernel
theorem dX10_tickPair_56 : decode cX10_tickPair 56 = .ok (.getfield 43, 3) := by decide +kernel
theorem dX10_tickPair_59 : decode cX10_tickPair 59 = .ok (.iload_n 1, 1) := by decide +kernel
theorem dX10_tickPair_60 : decode cX10_tickPair 60 = .ok (.iaload, 1) := by decide +kernel
theorem dX10_tickPair_61 : decode cX10_tickPair 61 = .ok (.iconst 3, 1) := by decide +kernel
theorem dX10_tickPair_62 : decode cX10_tickPair 62 = .ok (.if_icmp .ge 5, 3) := by decide +kernel
theorem dX10_tickPair_65 : decode cX10_tickPair 65 = .ok (.iconst 0, 1) := by decide +kernel
theorem dX10_tickPair_66 : decode cX10_tickPair 66 = .ok (.ireturn, 1) := by decide +kernel
theorem dX10_tickPair_67 : decode cX10_tickPair 67 = .ok (.aload_n 0, 1) := by decide +kernel
theorem dX10_tickPair_68 : decode cX10_tickPair 68 = .ok (.getfield 52, 3) := by decide +kernel
theorem dX10_tickPair_71 : decode cX10_tickPair 71 = .ok (.iload_n 1, 1) := by decide +kernel
theorem dX10_tickPair_72 : decode cX10_tickPair 72 = .ok (.iconst 0, 1) := by decide +kernel
theorem dX10_tickPair_73 : decode cX10_tickPair 73 = .ok (.bastore, 1) := by decide +kernel
theorem dX10_tickPair_74 : decode cX10_tickPair 74 = .ok (.aload_n 0, 1) := by decide +kernel
theorem dX10_tickPair_75 : decode cX10_tickPair 75 = .ok (.getfield 43, 3) := by decide +kernel
theorem dX10_tickPair_78 : decode cX10_tickPair 78 = .ok (.iload_n 1, 1) := by decide +kernel
theorem dX10_tickPair_79 : decode cX10_tickPair 79 = .ok (.iconst 0, 1) := by decide +kernel
theorem dX10_tickPair_80 : decode cX10_tickPair 80 = .ok (.iastore, 1) := by decide +kernel
theorem dX10_tickPair_81 : decode cX10_tickPair 81 = .ok (.iconst 0, 1) := by decide +kernel
theorem dX10_tickPair_82 : decode cX10_tickPair 82 = .ok (.ireturn, 1) := by decide +kernel
theorem dX10_tickPair_83 : decode cX10_tickPair 83 = .ok (.aload_n 0, 1) := by decide +kernel
theorem dX10_tickPair_84 : decode cX10_tickPair 84 = .ok (.getfield 43, 3) := by decide +kernel
theorem dX10_tickPair_87 : decode cX10_tickPair 87 = .ok (.iload_n 1, 1) := by decide +kernel
theorem dX10_tickPair_88 : decode cX10_tickPair 88 = .ok (.iaload, 1) := by decide +kernel
theorem dX10_tickPair_89 : decode cX10_tickPair 89 = .ok (.aload_n 0, 1) := by decide +kernel
theorem dX10_tickPair_90 : decode cX10_tickPair 90 = .ok (.getfield 143, 3) := by decide +kernel
theorem dX10_tickPair_93 : decode cX10_tickPair 93 = .ok (.if_icmp .eq 5, 3) := by decide +kernel
theorem dX10_tickPair_96 : decode cX10_tickPair 96 = .ok (.iconst 0, 1) := by decide +kernel
theorem dX10_tickPair_97 : decode cX10_tickPair 97 = .ok (.ireturn, 1) := by decide +kernel
theorem dX10_tickPair_98 : decode cX10_tickPair 98 = .ok (.aload_n 0, 1) := by decide +kernel
theorem dX10_tickPair_99 : decode cX10_tickPair 99 = .ok (.getfield 43, 3) := by decide +kernel
theorem dX10_tickPair_102 : decode cX10_tickPair 102 = .ok (.iload_n 1, 1) := by decide +kernel
theorem dX10_tickPair_103 : decode cX10_tickPair 103 = .ok (.iconst 0, 1) := by decide +kernel
theorem dX10_tickPair_104 : decode cX10_tickPair 104 = .ok (.iastore, 1) := by decide +kernel
theorem dX10_tickPair_105 : decode cX10_tickPair 105 = .ok (.aload_n 0, 1) := by decide +kernel
theorem dX10_tickPair_106 : decode cX10_tickPair 106 = .ok (.getfield 46, 3) := by decide +kernel
theorem dX10_tickPair_109 : decode cX10_tickPair 109 = .ok (.iload_n 1, 1) := by decide +kernel
theorem dX10_tickPair_110 : decode cX10_tickPair 110 = .ok (.dup2, 1) := by decide +kernel
theorem dX10_tickPair_111 : decode cX10_tickPair 111 = .ok (.iaload, 1) := by decide +kernel
theorem dX10_tickPair_112 : decode cX10_tickPair 112 = .ok (.iconst 1, 1) := by decide +kernel
theorem dX10_tickPair_113 : decode cX10_tickPair 113 = .ok (.iadd, 1) := by decide +kernel
theorem dX10_tickPair_114 : decode cX10_tickPair 114 = .ok (.iastore, 1) := by decide +kernel
theorem dX10_tickPair_115 : decode cX10_tickPair 115 = .ok (.aload_n 0, 1) := by decide +kernel
theorem dX10_tickPair_116 : decode cX10_tickPair 116 = .ok (.getfield 46, 3) := by decide +kernel
theorem dX10_tickPair_119 : decode cX10_tickPair 119 = .ok (.iload_n 1, 1) := by decide +kernel
theorem dX10_tickPair_120 : decode cX10_tickPair 120 = .ok (.iaload, 1) := by decide +kernel
theorem dX10_tickPair_121 : decode cX10_tickPair 121 = .ok (.aload_n 0, 1) := by decide +kernel
theorem dX10_tickPair_122 : decode cX10_tickPair 122 = .ok (.getfield 147, 3) := by decide +kernel
theorem dX10_tickPair_125 : decode cX10_tickPair 125 = .ok (.if_icmp .le 12, 3) := by decide +kernel
theorem dX10_tickPair_128 : decode cX10_tickPair 128 = .ok (.aload_n 0, 1) := by decide +kernel
theorem dX10_tickPair_129 : decode cX10_tickPair 129 = .ok (.iload_n 1, 1) := by decide +kernel
theorem dX10_tickPair_130 : decode cX10_tickPair 130 = .ok (.iconst 1, 1) := by decide +kernel
theorem dX10_tickPair_131 : decode cX10_tickPair 131 = .ok (.iconst 0, 1) := by decide +kernel
theorem dX10_tickPair_132 : decode cX10_tickPair 132 = .ok (.invokevirtual 221, 3) := by decide +kernel
theorem dX10_tickPair_135 : decode cX10_tickPair 135 = .ok (.iconst 1, 1) := by decide +kernel
theorem dX10_tickPair_136 : decode cX10_tickPair 136 = .ok (.ireturn, 1) := by decide +kernel
theorem dX10_tickPair_137 : decode cX10_tickPair 137 = .ok (.aload_n 0, 1) := by decide +kernel
theorem dX10_tickPair_138 : decode cX10_tickPair 138 = .ok (.getfield 37, 3) := by decide +kernel
theorem dX10_tickPair_141 : decode cX10_tickPair 141 = .ok (.iload_n 1, 1) := by decide +kernel
theorem dX10_tickPair_142 : decode cX10_tickPair 142 = .ok (.aload_n 0, 1) := by decide +kernel
theorem dX10_tickPair_143 : decode cX10_tickPair 143 = .ok (.getfield 34, 3) := by decide +kernel
theorem dX10_tickPair_146 : decode cX10_tickPair 146 = .ok (.iload_n 1, 1) := by decide +kernel
theorem dX10_tickPair_147 : decode cX10_tickPair 147 = .ok (.iaload, 1) := by decide +kernel
theorem dX10_tickPair_148 : decode cX10_tickPair 148 = .ok (.iastore, 1) := by decide +kernel
theorem dX10_tickPair_149 : decode cX10_tickPair 149 = .ok (.iconst 0, 1) := by decide +kernel
theorem dX10_tickPair_150 : decode cX10_tickPair 150 = .ok (.ireturn, 1) := by decide +kernel
set_option maxHeartbeats 4000000 in
set_option maxRecDepth 100000 in
theorem c_X10_tickPair (l : Launch) (E : EE) (z0 : Nat) (G : Nat → Nat) (hGz : ∀ q, G q ≠ 0 → z0 ≤ q) (h0 : Nat) (p0 : Int32) (hG : G h0 = 20) (hq : 0 ≤ p0.toInt ∧ p0.toInt < 4) : Met l yX10_tickPair [Cond.code yX10_tickPair cX10_tickPair 2 (some .int)] ({ frames := 0, cells := 0, slots := 0, locals := 0 } : Room) (va_Pc [.ref h0, .int p0] (fun U => TH E (T0 E) G [] U.heap ∧ KS E z0 U)) (va_Qi (fun (r : Int32) (_ : Unit) => r = 0) (fun _ _ => True) (fun _ : Nat => False)) 0 0 (fun _ : Nat => False) := by
  refine Met.ofW (cc := cX10_tickPair) (maxL := 2) (ret := (some .int)) (by decide) rfl ?_
  intro p e s m args below meth c s₁ B hml hv
  obtain ⟨rfl, hT, hK⟩ := hv
  have hx := B.exec
  have hb := B.bytes
  have hr := B.returns
  have hts : ∀ w ∈ TS, w.before ([.ref h0, .int p0] : List Value).toArray s = true := fun w hw => hK.2.1 w hw _
  have hown : s.vm.findClass RX10 = some m.cls := findClass_of_methodNamed B.named
  have hlocks := B.notSynchronized
  have hS : va_S (fun _ : Nat => False) s.heap s.heap [] := va_S.rf
  have hAz : ∀ q, (fun _ : Nat => False) q → z0 ≤ q := fun _ h => h.elim
  have hl := lv_entry ([.ref h0, .int p0]) (n := 2) (Nat.le_of_ble_eq_true rfl)
  rw [lg_entry_eq]
  generalize (lg_sl ([.ref h0, .int p0]) ++ List.replicate (2 - (lg_sl ([.ref h0, .int p0])).length) Slot.unset).toArray = ls at hl ⊢
  have hl : lv_has ls 2 [(0, .ref h0), (1, .int p0)] := hl
  refine lv_aload_n hx hb dX10_tickPair_0 rfl (lv_at hl 0 rfl) ?_
  obtain ⟨t0_1, t1_1, t2_1, r_1, ha_1, hg_1⟩ := tg_20 hT hG nx_0
  refine va_get (D := DG E) (ci := 10) (v := .ref (r_1 10)) (C := RX10) (T := TX10) (N := 49) hx hb hts iw_X10 hown hK.1 (va_one ha_1) 0 rfl rfl 10 (by decide) (hts _ fl_X10_28) (fun _ h9 => h9) rfl dX10_tickPair_1 ?_
  refine lv_iload_n hx hb dX10_tickPair_4 rfl (lv_at hl 1 rfl) ?_
  have ha_2 : va_at (DG E) vwCl ((r_1 10), .inl (E.2.2 0, 4, .inl (fun _ => 0))) _ := tg_arr (j := 10) hT (hg_1 10 (by decide) (by decide) (by decide)) nx_0
  refine va_iald (D := DG E) hx hb hK.1 (va_one ha_2) 0 0 rfl rfl (show vp_in p0 4 from vp_in_iff.mpr (by omega)) dX10_tickPair_5 ?_
  refine W.eq (g2 := F0 m 6 ls [.int 0]) (by rfl) ?_
  refine lv_iconst (v := 1) hx hb dX10_tickPair_6 (by decide) ?_
  refine lv_icmp_ne (tgt := 34) hx hb dX10_tickPair_7 (by decide) (fun c_3 => ?_) (fun c_3 => absurd c_3 (by decide))
  refine lv_iconst (v := 0) hx hb dX10_tickPair_34 (by decide) ?_
  exact W.iret (v := 0) hx hb hr (fun t ht hW => ⟨⟨0, (), rfl, rfl, trivial⟩, hS.F ht⟩) hS.2.2 dX10_tickPair_35
theorem dX10_tick_0 : decode cX10_tick 0 = .ok (.aload_n 0, 1) := by decide +kernel
theorem dX10_tick_1 : decode cX10_tick 1 = .ok (.iconst 0, 1) := by decide +kernel
theorem dX10_tick_2 : decode cX10_tick 2 = .ok (.putfield 153, 3) := by decide +kernel
theorem dX10_tick_5 : decode cX10_tick 5 = .ok (.iconst 0, 1) := by decide +kernel
theorem dX10_tick_6 : decode cX10_tick 6 = .ok (.istore_n 1, 1) := by decide +kernel
theorem dX10_tick_7 : decode cX10_tick 7 = .ok (.iconst 0, 1) := by decide +kernel
theorem dX10_tick_8 : decode cX10_tick 8 = .ok (.istore_n 2, 1) := by decide +kernel
theorem dX10_tick_9 : decode cX10_tick 9 = .ok (.iload_n 2, 1) := by decide +kernel
theorem dX10_tick_10 : decode cX10_tick 10 = .ok (.iconst 4, 1) := by decide +kernel
theorem dX10_tick_11 : decode cX10_tick 11 = .ok (.if_icmp .ge 17, 3) := by decide +kernel
theorem dX10_tick_14 : decode cX10_tick 14 = .ok (.iload_n 1, 1) := by decide +kernel
theorem dX10_tick_15 : decode cX10_tick 15 = .ok (.aload_n 0, 1) := by decide +kernel
theorem dX10_tick_16 : decode cX10_tick 16 = .ok (.iload_n 2, 1) := by decide +kernel
theorem dX10_tick_17 : decode cX10_tick 17 = .ok (.invokevirtual 277, 3) := by decide +kernel
theorem dX10_tick_20 : decode cX10_tick 20 = .ok (.iadd, 1) := by decide +kernel
theorem dX10_tick_21 : decode cX10_tick 21 = .ok (.istore_n 1, 1) := by decide +kernel
theorem dX10_tick_22 : decode cX10_tick 22 = .ok (.iinc 2 1, 3) := by decide +kernel
theorem dX10_tick_25 : decode cX10_tick 25 = .ok (.goto (-16), 3) := by decide +kernel
theorem dX10_tick_28 : decode cX10_tick 28 = .ok (.iload_n 1, 1) := by decide +kernel
theorem dX10_tick_29 : decode cX10_tick 29 = .ok (.ireturn, 1) := by decide +kernel
set_option maxHeartbeats 4000000 in
set_option maxRecDepth 100000 in
theorem c_X10_tick (l : Launch) (E : EE) (z0 : Nat) (G : Nat → Nat) (hGz : ∀ q, G q ≠ 0 → z0 ≤ q) (h0 : Nat) (hG : G h0 = 20) : Met l yX10_tick [Cond.code yX10_tick cX10_tick 3 (some .int)] ({ frames := 1, cells := 0, slots := 0, locals := 21 } : Room) (va_Pc [.ref h0] (fun U => TH E (T0 E) G [] U.heap ∧ KS E z0 U)) (va_Qi (fun (r : Int32) (_ : Unit) => r = 0) (fun _ _ => True) (fun q : Nat => G q ≠ 0)) 0 0 (fun q : Nat => G q ≠ 0) := by
  refine Met.ofW (cc := cX10_tick) (maxL := 3) (ret := (some .int)) (by decide) rfl ?_
  intro p e s m args below meth c s₁ B hml hv
  obtain ⟨rfl, hT, hK⟩ := hv
  have hx := B.exec
  have hb := B.bytes
  have hr := B.returns
  have hts : ∀ w ∈ TS, w.before ([.ref h0] : List Value).toArray s = true := fun w hw => hK.2.1 w hw _
  have hown : s.vm.findClass RX10 = some m.cls := findClass_of_methodNamed B.named
  have hlocks := B.notSynchronized
  have hS : va_S (fun q : Nat => G q ≠ 0) s.heap s.heap [] := va_S.rf
  have hAz : ∀ q, (fun q : Nat => G q ≠ 0) q → z0 ≤ q := hGz
  have hl := lv_entry ([.ref h0]) (n := 3) (Nat.le_of_ble_eq_true rfl)
  rw [lg_entry_eq]
  generalize (lg_sl ([.ref h0]) ++ List.replicate (3 - (lg_sl ([.ref h0])).length) Slot.unset).toArray = ls at hl ⊢
  have hl : lv_has ls 3 [(0, .ref h0)] := hl
  refine lv_aload_n hx hb dX10_tick_0 rfl (lv_at hl 0 rfl) ?_
  refine lv_iconst (v := 0) hx hb dX10_tick_1 (by decide) ?_
  obtain ⟨t0_1, t1_1, t2_1, r_1, ha_1, hg_1⟩ := tg_20 hT hG nx_0
  refine rr_put (D := DG E) (ci := 10) (v := .int 0) (ty := .int) (C := RX10) (T := TX10) (N := 49) hx hb hts iw_X10 tyX10 tyX10_ok nmX10 hown hK.1 ha_1 hS (by show G h0 ≠ 0; rw [hG]; decide) rfl 3 (by decide) (hts _ fl_X10_153) (fun _ h9 => h9) rfl (by decide +kernel) rfl rfl (Nat.le_of_ble_eq_true rfl) dX10_tick_2 (fun H locs hn ho hz hS => ?_)
  have hr_2 : va_at (DG E) vwCl (h0, .inr (10, mfs t0_1 t1_1 t2_1 0 r_1 0)) H := hn
  have hT : TH E (T0 E) G [] H := hT.set hG (show T0 E G 20 _ from ⟨t0_1, t1_1, t2_1, r_1, rfl, hg_1⟩) hr_2 ho
  refine lv_iconst (v := 0) hx hb dX10_tick_5 (by decide) ?_
  refine lv_istore_n (lv' := [(1, .int 0), (0, .ref h0)]) hx hb dX10_tick_6 rfl hl (by decide) rfl (fun ls hl => ?_)
  refine lv_iconst (v := 0) hx hb dX10_tick_7 (by decide) ?_
  refine lv_istore_n (lv' := [(2, .int 0), (1, .int 0), (0, .ref h0)]) hx hb dX10_tick_8 rfl hl (by decide) rfl (fun ls hl => ?_)
  refine lv_iload_n hx hb dX10_tick_9 rfl (lv_at hl 0 rfl) ?_
  refine lv_iconst (v := 4) hx hb dX10_tick_10 (by decide) ?_
  refine lv_icmp_ge (tgt := 28) hx hb dX10_tick_11 (by decide) (fun c_3 => absurd c_3 (by decide)) (fun c_3 => ?_)
  refine lv_iload_n hx hb dX10_tick_14 rfl (lv_at hl 1 rfl) ?_
  refine lv_aload_n hx hb dX10_tick_15 rfl (lv_at hl 2 rfl) ?_
  refine lv_iload_n hx hb dX10_tick_16 rfl (lv_at hl 0 rfl) ?_
  obtain ⟨t0_4, t1_4, t2_4, r_4, ha_4, hg_4⟩ := tg_20 hT hG nx_0
  refine va_calli (rnV (fun H => TH E (T0 E) G [] H) (As := [.int 0]) (rest := [.int 0]) ⟨hx, hb, hml, hown, hts⟩ (c_X10_tickPair l E z0 G hGz h0 0 hG (by decide)) (cwV 1 hts (gdV ml_X10_277 im_X10_tickPair se_X10_X10_tickPair in_X10 co_X10_tickPair rfl) rfl rfl rfl (by decide +kernel) ⟨Nat.le_of_ble_eq_true rfl, Nat.le_of_ble_eq_true rfl⟩) hT (fun U hU hW => hK.go hW hS hAz hU) (va_recv hK.1 (va_one ha_4) (ci := 10) (q0 := 0) rfl rfl) rfl rfl hl.1 rfl (lv_room (Nat.le_of_ble_eq_true rfl)) dX10_tick_17 ⟨Nat.le_of_ble_eq_true rfl, Nat.le_of_ble_eq_true rfl⟩) hS (fun q _ h => h.elim) (fun q h => h.elim) (fun r_5 _ t H locs ht hvm hw hB hz hk hS => ?_)
  have hT : TH E (T0 E) G [] H := hT.kept (fun q hq => hk q hq (fun h => h))
  obtain rfl : r_5 = 0 := hw
  refine lv_iadd hx hb dX10_tick_20 ?_
  refine W.eq (g2 := F0 m 21 ls [.int 0]) (by rfl) ?_
  refine lv_istore_n (lv' := [(1, .int 0), (2, .int 0), (0, .ref h0)]) hx hb dX10_tick_21 rfl hl (by decide) rfl (fun ls hl => ?_)
  refine lv_iinc (v := 1) (lv' := [(2, .int 1), (1, .int 0), (0, .ref h0)]) hx hb dX10_tick_22 hl (k := 1) rfl (by decide) (by decide) rfl (fun ls hl => ?_)
  refine lv_goto (tgt := 9) hx hb dX10_tick_25 (by decide) ?_
  refine lv_iload_n hx hb dX10_tick_9 rfl (lv_at hl 0 rfl) ?_
  refine lv_iconst (v := 4) hx hb dX10_tick_10 (by decide) ?_
  refine lv_icmp_ge (tgt := 28) hx hb dX10_tick_11 (by decide) (fun c_6 => absurd c_6 (by decide)) (fun c_6 => ?_)
  refine lv_iload_n hx hb dX10_tick_14 rfl (lv_at hl 1 rfl) ?_
  refine lv_aload_n hx hb dX10_tick_15 rfl (lv_at hl 2 rfl) ?_
  refine lv_iload_n hx hb dX10_tick_16 rfl (lv_at hl 0 rfl) ?_
  obtain ⟨t0_7, t1_7, t2_7, r_7, ha_7, hg_7⟩ := tg_20 hT hG nx_0
  refine va_calli (rnV (fun H => TH E (T0 E) G [] H) (As := [.int 1]) (rest := [.int 0]) ⟨hx, hb, hml, hown, hts⟩ (c_X10_tickPair l E z0 G hGz h0 1 hG (by decide)) (cwV 1 hts (gdV ml_X10_277 im_X10_tickPair se_X10_X10_tickPair in_X10 co_X10_tickPair rfl) rfl rfl rfl (by decide +kernel) ⟨Nat.le_of_ble_eq_true rfl, Nat.le_of_ble_eq_true rfl⟩) hT (fun U hU hW => hK.go hW hS hAz hU) (va_recv hK.1 (va_one ha_7) (ci := 10) (q0 := 0) rfl rfl) rfl rfl hl.1 rfl (lv_room (Nat.le_of_ble_eq_true rfl)) dX10_tick_17 ⟨Nat.le_of_ble_eq_true rfl, Nat.le_of_ble_eq_true rfl⟩) hS (fun q _ h => h.elim) (fun q h => h.elim) (fun r_8 _ t H locs ht hvm hw hB hz hk hS => ?_)
  have hT : TH E (T0 E) G [] H := hT.kept (fun q hq => hk q hq (fun h => h))
  obtain rfl : r_8 = 0 := hw
  refine lv_iadd hx hb dX10_tick_20 ?_
  refine W.eq (g2 := F0 m 21 ls [.int 0]) (by rfl) ?_
  refine lv_istore_n (lv' := [(1, .int 0), (2, .int 1), (0, .ref h0)]) hx hb dX10_tick_21 rfl hl (by decide) rfl (fun ls hl => ?_)
  refine lv_iinc (v := 2) (lv' := [(2, .int 2), (1, .int 0), (0, .ref h0)]) hx hb dX10_tick_22 hl (k := 1) rfl (by decide) (by decide) rfl (fun ls hl => ?_)
  refine lv_goto (tgt := 9) hx hb dX10_tick_25 (by decide) ?_
  refine lv_iload_n hx hb dX10_tick_9 rfl (lv_at hl 0 rfl) ?_
  refine lv_iconst (v := 4) hx hb dX10_tick_10 (by decide) ?_
  refine lv_icmp_ge (tgt := 28) hx hb dX10_tick_11 (by decide) (fun c_9 => absurd c_9 (by decide)) (fun c_9 => ?_)
  refine lv_iload_n hx hb dX10_tick_14 rfl (lv_at hl 1 rfl) ?_
  refine lv_aload_n hx hb dX10_tick_15 rfl (lv_at hl 2 rfl) ?_
  refine lv_iload_n hx hb dX10_tick_16 rfl (lv_at hl 0 rfl) ?_
  obtain ⟨t0_10, t1_10, t2_10, r_10, ha_10, hg_10⟩ := tg_20 hT hG nx_0
  refine va_calli (rnV (fun H => TH E (T0 E) G [] H) (As := [.int 2]) (rest := [.int 0]) ⟨hx, hb, hml, hown, hts⟩ (c_X10_tickPair l E z0 G hGz h0 2 hG (by decide)) (cwV 1 hts (gdV ml_X10_277 im_X10_tickPair se_X10_X10_tickPair in_X10 co_X10_tickPair rfl) rfl rfl rfl (by decide +kernel) ⟨Nat.le_of_ble_eq_true rfl, Nat.le_of_ble_eq_true rfl⟩) hT (fun U hU hW => hK.go hW hS hAz hU) (va_recv hK.1 (va_one ha_10) (ci := 10) (q0 := 0) rfl rfl) rfl rfl hl.1 rfl (lv_room (Nat.le_of_ble_eq_true rfl)) dX10_tick_17 ⟨Nat.le_of_ble_eq_true rfl, Nat.le_of_ble_eq_true rfl⟩) hS (fun q _ h => h.elim) (fun q h => h.elim) (fun r_11 _ t H locs ht hvm hw hB hz hk hS => ?_)
  have hT : TH E (T0 E) G [] H := hT.kept (fun q hq => hk q hq (fun h => h))
  obtain rfl : r_11 = 0 := hw
  refine lv_iadd hx hb dX10_tick_20 ?_
  refine W.eq (g2 := F0 m 21 ls [.int 0]) (by rfl) ?_
  refine lv_istore_n (lv' := [(1, .int 0), (2, .int 2), (0, .ref h0)]) hx hb dX10_tick_21 rfl hl (by decide) rfl (fun ls hl => ?_)
  refine lv_iinc (v := 3) (lv' := [(2, .int 3), (1, .int 0), (0, .ref h0)]) hx hb dX10_tick_22 hl (k := 1) rfl (by decide) (by decide) rfl (fun ls hl => ?_)
  refine lv_goto (tgt := 9) hx hb dX10_tick_25 (by decide) ?_
  refine lv_iload_n hx hb dX10_tick_9 rfl (lv_at hl 0 rfl) ?_
  refine lv_iconst (v := 4) hx hb dX10_tick_10 (by decide) ?_
  refine lv_icmp_ge (tgt := 28) hx hb dX10_tick_11 (by decide) (fun c_12 => absurd c_12 (by decide)) (fun c_12 => ?_)
  refine lv_iload_n hx hb dX10_tick_14 rfl (lv_at hl 1 rfl) ?_
  refine lv_aload_n hx hb dX10_tick_15 rfl (lv_at hl 2 rfl) ?_
  refine lv_iload_n hx hb dX10_tick_16 rfl (lv_at hl 0 rfl) ?_
  obtain ⟨t0_13, t1_13, t2_13, r_13, ha_13, hg_13⟩ := tg_20 hT hG nx_0
  refine va_calli (rnV (fun H => TH E (T0 E) G [] H) (As := [.int 3]) (rest := [.int 0]) ⟨hx, hb, hml, hown, hts⟩ (c_X10_tickPair l E z0 G hGz h0 3 hG (by decide)) (cwV 1 hts (gdV ml_X10_277 im_X10_tickPair se_X10_X10_tickPair in_X10 co_X10_tickPair rfl) rfl rfl rfl (by decide +kernel) ⟨Nat.le_of_ble_eq_true rfl, Nat.le_of_ble_eq_true rfl⟩) hT (fun U hU hW => hK.go hW hS hAz hU) (va_recv hK.1 (va_one ha_13) (ci := 10) (q0 := 0) rfl rfl) rfl rfl hl.1 rfl (lv_room (Nat.le_of_ble_eq_true rfl)) dX10_tick_17 ⟨Nat.le_of_ble_eq_true rfl, Nat.le_of_ble_eq_true rfl⟩) hS (fun q _ h => h.elim) (fun q h => h.elim) (fun r_14 _ t H locs ht hvm hw hB hz hk hS => ?_)
  have hT : TH E (T0 E) G [] H := hT.kept (fun q hq => hk q hq (fun h => h))
  obtain rfl : r_14 = 0 := hw
  refine lv_iadd hx hb dX10_tick_20 ?_
  refine W.eq (g2 := F0 m 21 ls [.int 0]) (by rfl) ?_
  refine lv_istore_n (lv' := [(1, .int 0), (2, .int 3), (0, .ref h0)]) hx hb dX10_tick_21 rfl hl (by decide) rfl (fun ls hl => ?_)
  refine lv_iinc (v := 4) (lv' := [(2, .int 4), (1, .int 0), (0, .ref h0)]) hx hb dX10_tick_22 hl (k := 1) rfl (by decide) (by decide) rfl (fun ls hl => ?_)
  refine lv_goto (tgt := 9) hx hb dX10_tick_25 (by decide) ?_
  refine lv_iload_n hx hb dX10_tick_9 rfl (lv_at hl 0 rfl) ?_
  refine lv_iconst (v := 4) hx hb dX10_tick_10 (by decide) ?_
  refine lv_icmp_ge (tgt := 28) hx hb dX10_tick_11 (by decide) (fun c_15 => ?_) (fun c_15 => absurd c_15 (by decide))
  refine lv_iload_n hx hb dX10_tick_28 rfl (lv_at hl 1 rfl) ?_
  exact W.iret (v := 0) hx hb hr (fun t ht hW => ⟨⟨0, (), rfl, rfl, trivial⟩, hS.F ht⟩) hS.2.2 dX10_tick_29
theorem dX10_pair_0 : decode cX10_pair 0 = .ok (.aload_n 0, 1) := by decide +kernel
theorem dX10_pair_1 : decode cX10_pair 1 = .ok (.iconst 0, 1) := by decide +kernel
theorem dX10_pair_2 : decode cX10_pair 2 = .ok (.putfield 153, 3) := by decide +kernel
theorem dX10_pair_5 : decode cX10_pair 5 = .ok (.iload_n 1, 1) := by decide +kernel
theorem dX10_pair_6 : decode cX10_pair 6 = .ok (.iconst 3, 1) := by decide +kernel
theorem dX10_pair_7 : decode cX10_pair 7 = .ok (.invokestatic 156, 3) := by decide +kernel
theorem dX10_pair_10 : decode cX10_pair 10 = .ok (.ifCond .ne 5, 3) := by decide +kernel
theorem dX10_pair_13 : decode cX10_pair 13 = .ok (.iconst (-1), 1) := by decide +kernel
theorem dX10_pair_14 : decode cX10_pair 14 = .ok (.ireturn, 1) := by decide +kernel
theorem dX10_pair_15 : decode cX10_pair 15 = .ok (.aload_n 0, 1) := by decide +kernel
theorem dX10_pair_16 : decode cX10_pair 16 = .ok (.getfield 28, 3) := by decide +kernel
theorem dX10_pair_19 : decode cX10_pair 19 = .ok (.iload_n 1, 1) := by decide +kernel
theorem dX10_pair_20 : decode cX10_pair 20 = .ok (.iaload, 1) := by decide +kernel
theorem dX10_pair_21 : decode cX10_pair 21 = .ok (.iconst 1, 1) := by decide +kernel
theorem dX10_pair_22 : decode cX10_pair 22 = .ok (.if_icmp .ne 7, 3) := by decide +kernel
theorem dX10_pair_25 : decode cX10_pair 25 = .ok (.iconst 1, 1) := by decide +kernel
theorem dX10_pair_26 : decode cX10_pair 26 = .ok (.goto 4, 3) := by decide +kernel
theorem dX10_pair_29 : decode cX10_pair 29 = .ok (.iconst 0, 1) := by decide +kernel
theorem dX10_pair_30 : decode cX10_pair 30 = .ok (.istore_n 3, 1) := by decide +kernel
theorem dX10_pair_31 : decode cX10_pair 31 = .ok (.iload_n 2, 1) := by decide +kernel
theorem dX10_pair_32 : decode cX10_pair 32 = .ok (.tableswitch 144 0 7 #[48, 55, 70, 85, 100, 115, 122, 129], 48) := by decide +kernel
theorem dX10_pair_80 : decode cX10_pair 80 = .ok (.aload_n 0, 1) := by decide +kernel
theorem dX10_pair_81 : decode cX10_pair 81 = .ok (.getfield 28, 3) := by decide +kernel
theorem dX10_pair_84 : decode cX10_pair 84 = .ok (.iload_n 1, 1) := by decide +kernel
theorem dX10_pair_85 : decode cX10_pair 85 = .ok (.iaload, 1) := by decide +kernel
theorem dX10_pair_86 : decode cX10_pair 86 = .ok (.ireturn, 1) := by decide +kernel
theorem dX10_pair_87 : decode cX10_pair 87 = .ok (.iload_n 3, 1) := by decide +kernel
theorem dX10_pair_88 : decode cX10_pair 88 = .ok (.ifCond .eq 12, 3) := by decide +kernel
theorem dX10_pair_91 : decode cX10_pair 91 = .ok (.aload_n 0, 1) := by decide +kernel
theorem dX10_pair_92 : decode cX10_pair 92 = .ok (.getfield 31, 3) := by decide +kernel
theorem dX10_pair_95 : decode cX10_pair 95 = .ok (.iload_n 1, 1) := by decide +kernel
theorem dX10_pair_96 : decode cX10_pair 96 = .ok (.iaload, 1) := by decide +kernel
theorem dX10_pair_97 : decode cX10_pair 97 = .ok (.goto 4, 3) := by decide +kernel
theorem dX10_pair_100 : decode cX10_pair 100 = .ok (.iconst (-1), 1) := by decide +kernel
theorem dX10_pair_101 : decode cX10_pair 101 = .ok (.ireturn, 1) := by decide +kernel
theorem dX10_pair_102 : decode cX10_pair 102 = .ok (.iload_n 3, 1) := by decide +kernel
theorem dX10_pair_103 : decode cX10_pair 103 = .ok (.ifCond .eq 12, 3) := by decide +kernel
theorem dX10_pair_106 : decode cX10_pair 106 = .ok (.aload_n 0, 1) := by decide +kernel
theorem dX10_pair_107 : decode cX10_pair 107 = .ok (.getfield 34, 3) := by decide +kernel
theorem dX10_pair_110 : decode cX10_pair 110 = .ok (.iload_n 1, 1) := by decide +kernel
theorem dX10_pair_111 : decode cX10_pair 111 = .ok (.iaload, 1) := by decide +kernel
theorem dX10_pair_112 : decode cX10_pair 112 = .ok (.goto 4, 3) := by decide +kernel
theorem dX10_pair_115 : decode cX10_pair 115 = .ok (.iconst (-1), 1) := by decide +kernel
theorem dX10_pair_116 : decode cX10_pair 116 = .ok (.ireturn, 1) := by decide +kernel
theorem dX10_pair_117 : decode cX10_pair 117 = .ok (.iload_n 3, 1) := by decide +kernel
theorem dX10_pair_118 : decode cX10_pair 118 = .ok (.ifCond .eq 12, 3) := by decide +kernel
theorem dX10_pair_121 : decode cX10_pair 121 = .ok (.aload_n 0, 1) := by decide +kernel
theorem dX10_pair_122 : decode cX10_pair 122 = .ok (.getfield 37, 3) := by decide +kernel
theorem dX10_pair_125 : decode cX10_pair 125 = .ok (.iload_n 1, 1) := by decide +kernel
theorem dX10_pair_126 : decode cX10_pair 126 = .ok (.iaload, 1) := by decide +kernel
theorem dX10_pair_127 : decode cX10_pair 127 = .ok (.goto 4, 3) := by decide +kernel
theorem dX10_pair_130 : decode cX10_pair 130 = .ok (.iconst (-1), 1) := by decide +kernel
theorem dX10_pair_131 : decode cX10_pair 131 = .ok (.ireturn, 1) := by decide +kernel
theorem dX10_pair_132 : decode cX10_pair 132 = .ok (.iload_n 3, 1) := by decide +kernel
theorem dX10_pair_133 : decode cX10_pair 133 = .ok (.ifCond .eq 12, 3) := by decide +kernel
theorem dX10_pair_136 : decode cX10_pair 136 = .ok (.aload_n 0, 1) := by decide +kernel
theorem dX10_pair_137 : decode cX10_pair 137 = .ok (.getfield 40, 3) := by decide +kernel
theorem dX10_pair_140 : decode cX10_pair 140 = .ok (.iload_n 1, 1) := by decide +kernel
theorem dX10_pair_141 : decode cX10_pair 141 = .ok (.iaload, 1) := by decide +kernel
theorem dX10_pair_142 : decode cX10_pair 142 = .ok (.goto 4, 3) := by decide +kernel
theorem dX10_pair_145 : decode cX10_pair 145 = .ok (.iconst (-1), 1) := by decide +kernel
theorem dX10_pair_146 : decode cX10_pair 146 = .ok (.ireturn, 1) := by decide +kernel
theorem dX10_pair_147 : decode cX10_pair 147 = .ok (.aload_n 0, 1) := by decide +kernel
theorem dX10_pair_148 : decode cX10_pair 148 = .ok (.getfield 59, 3) := by decide +kernel
theorem dX10_pair_151 : decode cX10_pair 151 = .ok (.iload_n 1, 1) := by decide +kernel
theorem dX10_pair_152 : decode cX10_pair 152 = .ok (.iaload, 1) := by decide +kernel
theorem dX10_pair_153 : decode cX10_pair 153 = .ok (.ireturn, 1) := by decide +kernel
theorem dX10_pair_154 : decode cX10_pair 154 = .ok (.aload_n 0, 1) := by decide +kernel
theorem dX10_pair_155 : decode cX10_pair 155 = .ok (.getfield 89, 3) := by decide +kernel
theorem dX10_pair_158 : decode cX10_pair 158 = .ok (.iload_n 1, 1) := by decide +kernel
theorem dX10_pair_159 : decode cX10_pair 159 = .ok (.iaload, 1) := by decide +kernel
theorem dX10_pair_160 : decode cX10_pair 160 = .ok (.ireturn, 1) := by decide +kernel
theorem dX10_pair_161 : decode cX10_pair 161 = .ok (.aload_n 0, 1) := by decide +kernel
theorem dX10_pair_162 : decode cX10_pair 162 = .ok (.getfield 52, 3) := by decide +kernel
theorem dX10_pair_165 : decode cX10_pair 165 = .ok (.iload_n 1, 1) := by decide +kernel
theorem dX10_pair_166 : decode cX10_pair 166 = .ok (.baload, 1) := by decide +kernel
theorem dX10_pair_167 : decode cX10_pair 167 = .ok (.ifCond .eq 7, 3) := by decide +kernel
theorem dX10_pair_170 : decode cX10_pair 170 = .ok (.iconst 1, 1) := by decide +kernel
theorem dX10_pair_171 : decode cX10_pair 171 = .ok (.goto 4, 3) := by decide +kernel
theorem dX10_pair_174 : decode cX10_pair 174 = .ok (.iconst 0, 1) := by decide +kernel
theorem dX10_pair_175 : decode cX10_pair 175 = .ok (.ireturn, 1) := by decide +kernel
theorem dX10_pair_176 : decode cX10_pair 176 = .ok (.iconst (-1), 1) := by decide +kernel
theorem dX10_pair_177 : decode cX10_pair 177 = .ok (.ireturn, 1) := by decide +kernel
set_option maxHeartbeats 4000000 in
set_option maxRecDepth 100000 in
theorem c_X10_pair (l : Launch) (E : EE) (z0 : Nat) (G : Nat → Nat) (hGz : ∀ q, G q ≠ 0 → z0 ≤ q) (h0 : Nat) (p0 p1 : Int32) (hG : G h0 = 20) : Met l yX10_pair [Cond.code yX10_pair cX10_pair 4 (some .int)] ({ frames := 1, cells := 0, slots := 0, locals := 21 } : Room) (va_Pc [.ref h0, .int p0, .int p1] (fun U => TH E (T0 E) G [] U.heap ∧ KS E z0 U)) (va_Qi (fun (r : Int32) (_ : Unit) => r = if (0 ≤ p0.toInt ∧ p0.toInt < 4) ∧ (p1.toInt = 0 ∨ (5 ≤ p1.toInt ∧ p1.toInt ≤ 7)) then 0 else -1) (fun _ _ => True) (fun q : Nat => G q ≠ 0)) 0 0 (fun q : Nat => G q ≠ 0) := by
  refine Met.ofW (cc := cX10_pair) (maxL := 4) (ret := (some .int)) (by decide) rfl ?_
  intro p e s m args below meth c s₁ B hml hv
  obtain ⟨rfl, hT, hK⟩ := hv
  have hx := B.exec
  have hb := B.bytes
  have hr := B.returns
  have hts : ∀ w ∈ TS, w.before ([.ref h0, .int p0, .int p1] : List Value).toArray s = true := fun w hw => hK.2.1 w hw _
  have hown : s.vm.findClass RX10 = some m.cls := findClass_of_methodNamed B.named
  have hlocks := B.notSynchronized
  have hS : va_S (fun q : Nat => G q ≠ 0) s.heap s.heap [] := va_S.rf
  have hAz : ∀ q, (fun q : Nat => G q ≠ 0) q → z0 ≤ q := hGz
  have hl := lv_entry ([.ref h0, .int p0, .int p1]) (n := 4) (Nat.le_of_ble_eq_true rfl)
  rw [lg_entry_eq]
  generalize (lg_sl ([.ref h0, .int p0, .int p1]) ++ List.replicate (4 - (lg_sl ([.ref h0, .int p0, .int p1])).length) Slot.unset).toArray = ls at hl ⊢
  have hl : lv_has ls 4 [(0, .ref h0), (1, .int p0), (2, .int p1)] := hl
  refine lv_aload_n hx hb dX10_pair_0 rfl (lv_at hl 0 rfl) ?_
  refine lv_iconst (v := 0) hx hb dX10_pair_1 (by decide) ?_
  obtain ⟨t0_1, t1_1, t2_1, r_1, ha_1, hg_1⟩ := tg_20 hT hG nx_0
  refine rr_put (D := DG E) (ci := 10) (v := .int 0) (ty := .int) (C := RX10) (T := TX10) (N := 49) hx hb hts iw_X10 tyX10 tyX10_ok nmX10 hown hK.1 ha_1 hS (by show G h0 ≠ 0; rw [hG]; decide) rfl 3 (by decide) (hts _ fl_X10_153) (fun _ h9 => h9) rfl (by decide +kernel) rfl rfl (Nat.le_of_ble_eq_true rfl) dX10_pair_2 (fun H locs hn ho hz hS => ?_)
  have hr_2 : va_at (DG E) vwCl (h0, .inr (10, mfs t0_1 t1_1 t2_1 0 r_1 0)) H := hn
  have hT : TH E (T0 E) G [] H := hT.set hG (show T0 E G 20 _ from ⟨t0_1, t1_1, t2_1, r_1, rfl, hg_1⟩) hr_2 ho
  refine lv_iload_n hx hb dX10_pair_5 rfl (lv_at hl 1 rfl) ?_
  refine lv_iconst (v := 3) hx hb dX10_pair_6 (by decide) ?_
  refine W.callR (W.runS (As := [.int p0, .int 3]) (rest := []) ⟨hx, hb, hml, hown, hts⟩ (c_X10_within l p0 3) (cwS 2 hts (gdS ml_X10_156 st_X10_within in_X10 co_X10_within rfl) rfl rfl rfl (by decide +kernel) ⟨Nat.le_of_ble_eq_true rfl, Nat.le_of_ble_eq_true rfl⟩) preEq rfl rfl hl.1 rfl (lv_room (Nat.le_of_ble_eq_true rfl)) dX10_pair_7 ⟨Nat.le_of_ble_eq_true rfl, Nat.le_of_ble_eq_true rfl⟩) ?_
  refine W.eq (g2 := F0 m 10 ls [.int (bI (0 ≤ p0.toInt ∧ p0.toInt ≤ (3 : Int32).toInt))]) (by rfl) ?_
  refine lv_if_ne (tgt := 15) hx hb dX10_pair_10 (by decide) (fun c_3 => ?_) (fun c_3 => ?_)
  · have c_3 := bI_n c_3
    try simp only [lt_I, le_I, eq_I, i_0, i_1, i_2, i_3, i_4, i_5, i_6, i_7, i_8, i_10, i_12, i_16, i_20, i_23, i_24, i_31, i_32, i_63, i_64, i_m1] at c_3
    refine lv_aload_n hx hb dX10_pair_15 rfl (lv_at hl 0 rfl) ?_
    obtain ⟨t0_4, t1_4, t2_4, r_4, ha_4, hg_4⟩ := tg_20 hT hG nx_0
    refine va_get (D := DG E) (ci := 10) (v := .ref (r_4 10)) (C := RX10) (T := TX10) (N := 49) hx hb hts iw_X10 hown hK.1 (va_one ha_4) 0 rfl rfl 10 (by decide) (hts _ fl_X10_28) (fun _ h9 => h9) rfl dX10_pair_16 ?_
    refine lv_iload_n hx hb dX10_pair_19 rfl (lv_at hl 1 rfl) ?_
    have ha_5 : va_at (DG E) vwCl ((r_4 10), .inl (E.2.2 0, 4, .inl (fun _ => 0))) _ := tg_arr (j := 10) hT (hg_4 10 (by decide) (by decide) (by decide)) nx_0
    refine va_iald (D := DG E) hx hb hK.1 (va_one ha_5) 0 0 rfl rfl (show vp_in p0 4 from vp_in_iff.mpr (by omega)) dX10_pair_20 ?_
    refine W.eq (g2 := F0 m 21 ls [.int 0]) (by rfl) ?_
    refine lv_iconst (v := 1) hx hb dX10_pair_21 (by decide) ?_
    refine lv_icmp_ne (tgt := 29) hx hb dX10_pair_22 (by decide) (fun c_6 => ?_) (fun c_6 => absurd c_6 (by decide))
    refine lv_iconst (v := 0) hx hb dX10_pair_29 (by decide) ?_
    refine lv_istore_n (lv' := [(3, .int 0), (0, .ref h0), (1, .int p0), (2, .int p1)]) hx hb dX10_pair_30 rfl hl (by decide) rfl (fun ls hl => ?_)
    refine lv_iload_n hx hb dX10_pair_31 rfl (lv_at hl 3 rfl) ?_
    rcases (show p1.toInt = 0 ∨ p1.toInt = 1 ∨ p1.toInt = 2 ∨ p1.toInt = 3 ∨ p1.toInt = 4 ∨ p1.toInt = 5 ∨ p1.toInt = 6 ∨ p1.toInt = 7 ∨ (p1.toInt < 0 ∨ 7 < p1.toInt) by omega) with c_7 | c_7 | c_7 | c_7 | c_7 | c_7 | c_7 | c_7 | c_7
    · refine lv_tableIn (tgt := 80) (off := 48) hx hb dX10_pair_32 (by omega) (by omega) (by rw [c_7]; rfl) (by decide) ?_
      refine lv_aload_n hx hb dX10_pair_80 rfl (lv_at hl 1 rfl) ?_
      obtain ⟨t0_8, t1_8, t2_8, r_8, ha_8, hg_8⟩ := tg_20 hT hG nx_0
      refine va_get (D := DG E) (ci := 10) (v := .ref (r_8 10)) (C := RX10) (T := TX10) (N := 49) hx hb hts iw_X10 hown hK.1 (va_one ha_8) 0 rfl rfl 10 (by decide) (hts _ fl_X10_28) (fun _ h9 => h9) rfl dX10_pair_81 ?_
      refine lv_iload_n hx hb dX10_pair_84 rfl (lv_at hl 2 rfl) ?_
      have ha_9 : va_at (DG E) vwCl ((r_8 10), .inl (E.2.2 0, 4, .inl (fun _ => 0))) _ := tg_arr (j := 10) hT (hg_8 10 (by decide) (by decide) (by decide)) nx_0
      refine va_iald (D := DG E) hx hb hK.1 (va_one ha_9) 0 0 rfl rfl (show vp_in p0 4 from vp_in_iff.mpr (by omega)) dX10_pair_85 ?_
      refine W.eq (g2 := F0 m 86 ls [.int 0]) (by rfl) ?_
      exact W.iret (v := 0) hx hb hr (fun t ht hW => ⟨⟨0, (), rfl, (by first | rw [if_pos (by omega)] | rw [if_neg (by omega)]), trivial⟩, hS.F ht⟩) hS.2.2 dX10_pair_86
    · refine lv_tableIn (tgt := 87) (off := 55) hx hb dX10_pair_32 (by omega) (by omega) (by rw [c_7]; rfl) (by decide) ?_
      refine lv_iload_n hx hb dX10_pair_87 rfl (lv_at hl 0 rfl) ?_
      refine lv_if_eq (tgt := 100) hx hb dX10_pair_88 (by decide) (fun c_10 => ?_) (fun c_10 => absurd c_10 (by decide))
      refine lv_iconst (v := (-1)) hx hb dX10_pair_100 (by decide) ?_
      exact W.iret (v := (-1)) hx hb hr (fun t ht hW => ⟨⟨(-1), (), rfl, (by first | rw [if_pos (by omega)] | rw [if_neg (by omega)]), trivial⟩, hS.F ht⟩) hS.2.2 dX10_pair_101
    · refine lv_tableIn (tgt := 102) (off := 70) hx hb dX10_pair_32 (by omega) (by omega) (by rw [c_7]; rfl) (by decide) ?_
      refine lv_iload_n hx hb dX10_pair_102 rfl (lv_at hl 0 rfl) ?_
      refine lv_if_eq (tgt := 115) hx hb dX10_pair_103 (by decide) (fun c_11 => ?_) (fun c_11 => absurd c_11 (by decide))
      refine lv_iconst (v := (-1)) hx hb dX10_pair_115 (by decide) ?_
      exact W.iret (v := (-1)) hx hb hr (fun t ht hW => ⟨⟨(-1), (), rfl, (by first | rw [if_pos (by omega)] | rw [if_neg (by omega)]), trivial⟩, hS.F ht⟩) hS.2.2 dX10_pair_116
    · refine lv_tableIn (tgt := 117) (off := 85) hx hb dX10_pair_32 (by omega) (by omega) (by rw [c_7]; rfl) (by decide) ?_
      refine lv_iload_n hx hb dX10_pair_117 rfl (lv_at hl 0 rfl) ?_
      refine lv_if_eq (tgt := 130) hx hb dX10_pair_118 (by decide) (fun c_12 => ?_) (fun c_12 => absurd c_12 (by decide))
      refine lv_iconst (v := (-1)) hx hb dX10_pair_130 (by decide) ?_
      exact W.iret (v := (-1)) hx hb hr (fun t ht hW => ⟨⟨(-1), (), rfl, (by first | rw [if_pos (by omega)] | rw [if_neg (by omega)]), trivial⟩, hS.F ht⟩) hS.2.2 dX10_pair_131
    · refine lv_tableIn (tgt := 132) (off := 100) hx hb dX10_pair_32 (by omega) (by omega) (by rw [c_7]; rfl) (by decide) ?_
      refine lv_iload_n hx hb dX10_pair_132 rfl (lv_at hl 0 rfl) ?_
      refine lv_if_eq (tgt := 145) hx hb dX10_pair_133 (by decide) (fun c_13 => ?_) (fun c_13 => absurd c_13 (by decide))
      refine lv_iconst (v := (-1)) hx hb dX10_pair_145 (by decide) ?_
      exact W.iret (v := (-1)) hx hb hr (fun t ht hW => ⟨⟨(-1), (), rfl, (by first | rw [if_pos (by omega)] | rw [if_neg (by omega)]), trivial⟩, hS.F ht⟩) hS.2.2 dX10_pair_146
    · refine lv_tableIn (tgt := 147) (off := 115) hx hb dX10_pair_32 (by omega) (by omega) (by rw [c_7]; rfl) (by decide) ?_
      refine lv_aload_n hx hb dX10_pair_147 rfl (lv_at hl 1 rfl) ?_
      obtain ⟨t0_14, t1_14, t2_14, r_14, ha_14, hg_14⟩ := tg_20 hT hG nx_0
      refine va_get (D := DG E) (ci := 10) (v := .ref (r_14 20)) (C := RX10) (T := TX10) (N := 49) hx hb hts iw_X10 hown hK.1 (va_one ha_14) 0 rfl rfl 20 (by decide) (hts _ fl_X10_59) (fun _ h9 => h9) rfl dX10_pair_148 ?_
      refine lv_iload_n hx hb dX10_pair_151 rfl (lv_at hl 2 rfl) ?_
      have ha_15 : va_at (DG E) vwCl ((r_14 20), .inl (E.2.2 0, 4, .inl (fun _ => 0))) _ := tg_arr (j := 20) hT (hg_14 20 (by decide) (by decide) (by decide)) nx_0
      refine va_iald (D := DG E) hx hb hK.1 (va_one ha_15) 0 0 rfl rfl (show vp_in p0 4 from vp_in_iff.mpr (by omega)) dX10_pair_152 ?_
      refine W.eq (g2 := F0 m 153 ls [.int 0]) (by rfl) ?_
      exact W.iret (v := 0) hx hb hr (fun t ht hW => ⟨⟨0, (), rfl, (by first | rw [if_pos (by omega)] | rw [if_neg (by omega)]), trivial⟩, hS.F ht⟩) hS.2.2 dX10_pair_153
    · refine lv_tableIn (tgt := 154) (off := 122) hx hb dX10_pair_32 (by omega) (by omega) (by rw [c_7]; rfl) (by decide) ?_
      refine lv_aload_n hx hb dX10_pair_154 rfl (lv_at hl 1 rfl) ?_
      obtain ⟨t0_16, t1_16, t2_16, r_16, ha_16, hg_16⟩ := tg_20 hT hG nx_0
      refine va_get (D := DG E) (ci := 10) (v := .ref (r_16 30)) (C := RX10) (T := TX10) (N := 49) hx hb hts iw_X10 hown hK.1 (va_one ha_16) 0 rfl rfl 30 (by decide) (hts _ fl_X10_89) (fun _ h9 => h9) rfl dX10_pair_155 ?_
      refine lv_iload_n hx hb dX10_pair_158 rfl (lv_at hl 2 rfl) ?_
      have ha_17 : va_at (DG E) vwCl ((r_16 30), .inl (E.2.2 0, 4, .inl (fun _ => 0))) _ := tg_arr (j := 30) hT (hg_16 30 (by decide) (by decide) (by decide)) nx_0
      refine va_iald (D := DG E) hx hb hK.1 (va_one ha_17) 0 0 rfl rfl (show vp_in p0 4 from vp_in_iff.mpr (by omega)) dX10_pair_159 ?_
      refine W.eq (g2 := F0 m 160 ls [.int 0]) (by rfl) ?_
      exact W.iret (v := 0) hx hb hr (fun t ht hW => ⟨⟨0, (), rfl, (by first | rw [if_pos (by omega)] | rw [if_neg (by omega)]), trivial⟩, hS.F ht⟩) hS.2.2 dX10_pair_160
    · refine lv_tableIn (tgt := 161) (off := 129) hx hb dX10_pair_32 (by omega) (by omega) (by rw [c_7]; rfl) (by decide) ?_
      refine lv_aload_n hx hb dX10_pair_161 rfl (lv_at hl 1 rfl) ?_
      obtain ⟨t0_18, t1_18, t2_18, r_18, ha_18, hg_18⟩ := tg_20 hT hG nx_0
      refine va_get (D := DG E) (ci := 10) (v := .ref (r_18 18)) (C := RX10) (T := TX10) (N := 49) hx hb hts iw_X10 hown hK.1 (va_one ha_18) 0 rfl rfl 18 (by decide) (hts _ fl_X10_52) (fun _ h9 => h9) rfl dX10_pair_162 ?_
      refine lv_iload_n hx hb dX10_pair_165 rfl (lv_at hl 2 rfl) ?_
      have ha_19 : va_at (DG E) vwCl ((r_18 18), .inl (E.2.2 1, 4, .inl (fun _ => 0))) _ := tg_arr (j := 18) hT (hg_18 18 (by decide) (by decide) (by decide)) nx_0
      refine va_zald (D := DG E) hx hb hK.1 (va_one ha_19) 0 1 rfl rfl (show vp_in p0 4 from vp_in_iff.mpr (by omega)) dX10_pair_166 ?_
      refine W.eq (g2 := F0 m 167 ls [.int 0]) (by rfl) ?_
      refine lv_if_eq (tgt := 174) hx hb dX10_pair_167 (by decide) (fun c_20 => ?_) (fun c_20 => absurd c_20 (by decide))
      refine lv_iconst (v := 0) hx hb dX10_pair_174 (by decide) ?_
      exact W.iret (v := 0) hx hb hr (fun t ht hW => ⟨⟨0, (), rfl, (by first | rw [if_pos (by omega)] | rw [if_neg (by omega)]), trivial⟩, hS.F ht⟩) hS.2.2 dX10_pair_175
    · refine lv_tableOut (tgt := 176) hx hb dX10_pair_32 c_7 (by decide) ?_
      refine lv_iconst (v := (-1)) hx hb dX10_pair_176 (by decide) ?_
      exact W.iret (v := (-1)) hx hb hr (fun t ht hW => ⟨⟨(-1), (), rfl, (by first | rw [if_pos (by omega)] | rw [if_neg (by omega)]), trivial⟩, hS.F ht⟩) hS.2.2 dX10_pair_177
  · have c_3 := bI_0 c_3
    try simp only [lt_I, le_I, eq_I, i_0, i_1, i_2, i_3, i_4, i_5, i_6, i_7, i_8, i_10, i_12, i_16, i_20, i_23, i_24, i_31, i_32, i_63, i_64, i_m1] at c_3
    refine lv_iconst (v := (-1)) hx hb dX10_pair_13 (by decide) ?_
    exact W.iret (v := (-1)) hx hb hr (fun t ht hW => ⟨⟨(-1), (), rfl, (by first | rw [if_pos (by omega)] | rw [if_neg (by omega)]), trivial⟩, hS.F ht⟩) hS.2.2 dX10_pair_14
theorem dX10_poll_0 : decode cX10_poll 0 = .ok (.aload_n 0, 1) := by decide +kernel
theorem dX10_poll_1 : decode cX10_poll 1 = .ok (.iconst 0, 1) := by decide +kernel
theorem dX10_poll_2 : decode cX10_poll 2 = .ok (.putfield 153, 3) := by decide +kernel
theorem dX10_poll_5 : decode cX10_poll 5 = .ok (.iload_n 1, 1) := by decide +kernel
theorem dX10_poll_6 : decode cX10_poll 6 = .ok (.iconst 1, 1) := by decide +kernel
theorem dX10_poll_7 : decode cX10_poll 7 = .ok (.invokestatic 156, 3) := by decide +kernel
theorem dX10_poll_10 : decode cX10_poll 10 = .ok (.ifCond .eq 13, 3) := by decide +kernel
theorem dX10_poll_13 : decode cX10_poll 13 = .ok (.iload_n 2, 1) := by decide +kernel
theorem dX10_poll_14 : decode cX10_poll 14 = .ok (.iconst (-1), 1) := by decide +kernel
theorem dX10_poll_15 : decode cX10_poll 15 = .ok (.if_icmp .lt 8, 3) := by decide +kernel
theorem dX10_poll_18 : decode cX10_poll 18 = .ok (.iload_n 2, 1) := by decide +kernel
theorem dX10_poll_19 : decode cX10_poll 19 = .ok (.iconst 4, 1) := by decide +kernel
theorem dX10_poll_20 : decode cX10_poll 20 = .ok (.if_icmp .le 9, 3) := by decide +kernel
theorem dX10_poll_23 : decode cX10_poll 23 = .ok (.aload_n 0, 1) := by decide +kernel
theorem dX10_poll_24 : decode cX10_poll 24 = .ok (.iconst 1, 1) := by decide +kernel
theorem dX10_poll_25 : decode cX10_poll 25 = .ok (.invokevirtual 185, 3) := by decide +kernel
theorem dX10_poll_28 : decode cX10_poll 28 = .ok (.ireturn, 1) := by decide +kernel
theorem dX10_poll_29 : decode cX10_poll 29 = .ok (.aload_n 0, 1) := by decide +kernel
theorem dX10_poll_30 : decode cX10_poll 30 = .ok (.getfield 22, 3) := by decide +kernel
theorem dX10_poll_33 : decode cX10_poll 33 = .ok (.iload_n 1, 1) := by decide +kernel
theorem dX10_poll_34 : decode cX10_poll 34 = .ok (.iaload, 1) := by decide +kernel
theorem dX10_poll_35 : decode cX10_poll 35 = .ok (.ifCond .ne 9, 3) := by decide +kernel
theorem dX10_poll_38 : decode cX10_poll 38 = .ok (.aload_n 0, 1) := by decide +kernel
theorem dX10_poll_39 : decode cX10_poll 39 = .ok (.iconst 2, 1) := by decide +kernel
theorem dX10_poll_40 : decode cX10_poll 40 = .ok (.invokevirtual 185, 3) := by decide +kernel
theorem dX10_poll_43 : decode cX10_poll 43 = .ok (.ireturn, 1) := by decide +kernel
theorem dX10_poll_44 : decode cX10_poll 44 = .ok (.iload_n 2, 1) := by decide +kernel
theorem dX10_poll_45 : decode cX10_poll 45 = .ok (.ifCond .ge 11, 3) := by decide +kernel
theorem dX10_poll_48 : decode cX10_poll 48 = .ok (.aload_n 0, 1) := by decide +kernel
theorem dX10_poll_49 : decode cX10_poll 49 = .ok (.iload_n 1, 1) := by decide +kernel
theorem dX10_poll_50 : decode cX10_poll 50 = .ok (.invokevirtual 280, 3) := by decide +kernel
theorem dX10_poll_53 : decode cX10_poll 53 = .ok (.goto 14, 3) := by decide +kernel
theorem dX10_poll_56 : decode cX10_poll 56 = .ok (.aload_n 0, 1) := by decide +kernel
theorem dX10_poll_57 : decode cX10_poll 57 = .ok (.getfield 25, 3) := by decide +kernel
theorem dX10_poll_60 : decode cX10_poll 60 = .ok (.bipush 80, 2) := by decide +kernel
theorem dX10_poll_62 : decode cX10_poll 62 = .ok (.iload_n 1, 1) := by decide +kernel
theorem dX10_poll_63 : decode cX10_poll 63 = .ok (.imul, 1) := by decide +kernel
theorem dX10_poll_64 : decode cX10_poll 64 = .ok (.iload_n 2, 1) := by decide +kernel
theorem dX10_poll_65 : decode cX10_poll 65 = .ok (.iadd, 1) := by decide +kernel
theorem dX10_poll_66 : decode cX10_poll 66 = .ok (.iaload, 1) := by decide +kernel
theorem dX10_poll_67 : decode cX10_poll 67 = .ok (.ireturn, 1) := by decide +kernel
set_option maxHeartbeats 4000000 in
set_option maxRecDepth 100000 in
theorem c_X10_poll (l : Launch) (E : EE) (z0 : Nat) (G : Nat → Nat) (hGz : ∀ q, G q ≠ 0 → z0 ≤ q) (h0 : Nat) (p0 p1 : Int32) (hG : G h0 = 20) : Met l yX10_poll [Cond.code yX10_poll cX10_poll 3 (some .int)] ({ frames := 1, cells := 0, slots := 0, locals := 21 } : Room) (va_Pc [.ref h0, .int p0, .int p1] (fun U => TH E (T0 E) G [] U.heap ∧ KS E z0 U)) (va_Qi (fun (r : Int32) (_ : Unit) => r = 0) (fun _ t => ∃ fs : List Value, va_at (DG E) vwCl (h0, .inr (10, fs)) t.heap ∧ fs[3]? = some (.int (if (0 ≤ p0.toInt ∧ p0.toInt < 2 ∧ -1 ≤ p1.toInt ∧ p1.toInt < 5) then 2 else 1))) (fun q : Nat => G q ≠ 0)) 0 0 (fun q : Nat => G q ≠ 0) := by
  refine Met.ofW (cc := cX10_poll) (maxL := 3) (ret := (some .int)) (by decide) rfl ?_
  intro p e s m args below meth c s₁ B hml hv
  obtain ⟨rfl, hT, hK⟩ := hv
  have hx := B.exec
  have hb := B.bytes
  have hr := B.returns
  have hts : ∀ w ∈ TS, w.before ([.ref h0, .int p0, .int p1] : List Value).toArray s = true := fun w hw => hK.2.1 w hw _
  have hown : s.vm.findClass RX10 = some m.cls := findClass_of_methodNamed B.named
  have hlocks := B.notSynchronized
  have hS : va_S (fun q : Nat => G q ≠ 0) s.heap s.heap [] := va_S.rf
  have hAz : ∀ q, (fun q : Nat => G q ≠ 0) q → z0 ≤ q := hGz
  have hl := lv_entry ([.ref h0, .int p0, .int p1]) (n := 3) (Nat.le_of_ble_eq_true rfl)
  rw [lg_entry_eq]
  generalize (lg_sl ([.ref h0, .int p0, .int p1]) ++ List.replicate (3 - (lg_sl ([.ref h0, .int p0, .int p1])).length) Slot.unset).toArray = ls at hl ⊢
  have hl : lv_has ls 3 [(0, .ref h0), (1, .int p0), (2, .int p1)] := hl
  refine lv_aload_n hx hb dX10_poll_0 rfl (lv_at hl 0 rfl) ?_
  refine lv_iconst (v := 0) hx hb dX10_poll_1 (by decide) ?_
  obtain ⟨t0_1, t1_1, t2_1, r_1, ha_1, hg_1⟩ := tg_20 hT hG nx_0
  refine rr_put (D := DG E) (ci := 10) (v := .int 0) (ty := .int) (C := RX10) (T := TX10) (N := 49) hx hb hts iw_X10 tyX10 tyX10_ok nmX10 hown hK.1 ha_1 hS (by show G h0 ≠ 0; rw [hG]; decide) rfl 3 (by decide) (hts _ fl_X10_153) (fun _ h9 => h9) rfl (by decide +kernel) rfl rfl (Nat.le_of_ble_eq_true rfl) dX10_poll_2 (fun H locs hn ho hz hS => ?_)
  have hr_2 : va_at (DG E) vwCl (h0, .inr (10, mfs t0_1 t1_1 t2_1 0 r_1 0)) H := hn
  have hT : TH E (T0 E) G [] H := hT.set hG (show T0 E G 20 _ from ⟨t0_1, t1_1, t2_1, r_1, rfl, hg_1⟩) hr_2 ho
  refine lv_iload_n hx hb dX10_poll_5 rfl (lv_at hl 1 rfl) ?_
  refine lv_iconst (v := 1) hx hb dX10_poll_6 (by decide) ?_
  refine W.callR (W.runS (As := [.int p0, .int 1]) (rest := []) ⟨hx, hb, hml, hown, hts⟩ (c_X10_within l p0 1) (cwS 2 hts (gdS ml_X10_156 st_X10_within in_X10 co_X10_within rfl) rfl rfl rfl (by decide +kernel) ⟨Nat.le_of_ble_eq_true rfl, Nat.le_of_ble_eq_true rfl⟩) preEq rfl rfl hl.1 rfl (lv_room (Nat.le_of_ble_eq_true rfl)) dX10_poll_7 ⟨Nat.le_of_ble_eq_true rfl, Nat.le_of_ble_eq_true rfl⟩) ?_
  refine W.eq (g2 := F0 m 10 ls [.int (bI (0 ≤ p0.toInt ∧ p0.toInt ≤ (1 : Int32).toInt))]) (by rfl) ?_
  refine lv_if_eq (tgt := 23) hx hb dX10_poll_10 (by decide) (fun c_3 => ?_) (fun c_3 => ?_)
  · have c_3 := bI_0 c_3
    try simp only [lt_I, le_I, eq_I, i_0, i_1, i_2, i_3, i_4, i_5, i_6, i_7, i_8, i_10, i_12, i_16, i_20, i_23, i_24, i_31, i_32, i_63, i_64, i_m1] at c_3
    refine lv_aload_n hx hb dX10_poll_23 rfl (lv_at hl 0 rfl) ?_
    refine lv_iconst (v := 1) hx hb dX10_poll_24 (by decide) ?_
    obtain ⟨t0_4, t1_4, t2_4, r_4, ha_4, hg_4⟩ := tg_20 hT hG nx_0
    refine va_calli (rnV (fun H => TH E (T0 E) G [] H) (As := [.int 1]) (rest := []) ⟨hx, hb, hml, hown, hts⟩ (c_X10_fail l E z0 G hGz h0 1 hG) (cwV 1 hts (gdV ml_X10_185 im_X10_fail se_X10_X10_fail in_X10 co_X10_fail rfl) rfl rfl rfl (by decide +kernel) ⟨Nat.le_of_ble_eq_true rfl, Nat.le_of_ble_eq_true rfl⟩) hT (fun U hU hW => hK.go hW hS hAz hU) (va_recv hK.1 (va_one ha_4) (ci := 10) (q0 := 0) rfl rfl) rfl rfl hl.1 rfl (lv_room (Nat.le_of_ble_eq_true rfl)) dX10_poll_25 ⟨Nat.le_of_ble_eq_true rfl, Nat.le_of_ble_eq_true rfl⟩) hS (fun q _ h => by rw [h]; show G _ ≠ 0; rw [hG]; decide) (fun q h => by rw [h]; show G _ ≠ 0; rw [hG]; decide) (fun r_5 _ t H locs ht hvm hw hB hz hk hS => ?_)
    obtain ⟨fsx, hatx, hfx⟩ := hB
    rw [ht] at hatx
    have hT : TH E (T0 E) G [h0] H := hT.keptx (fun q hq => List.mem_append_left [h0] hq) (fun q hz hq => hk q hz (fun e => hq (by rw [e]; simp)))
    obtain rfl : r_5 = 0 := hw
    exact W.iret (v := 0) hx hb hr (fun t ht hW => ⟨⟨0, (), rfl, rfl, ⟨_, (by show va_at _ _ _ t.heap; rw [ht]; exact hatx), (by rw [if_neg (by omega)]; exact hfx)⟩⟩, hS.F ht⟩) hS.2.2 dX10_poll_28
  · have c_3 := bI_n c_3
    try simp only [lt_I, le_I, eq_I, i_0, i_1, i_2, i_3, i_4, i_5, i_6, i_7, i_8, i_10, i_12, i_16, i_20, i_23, i_24, i_31, i_32, i_63, i_64, i_m1] at c_3
    refine lv_iload_n hx hb dX10_poll_13 rfl (lv_at hl 2 rfl) ?_
    refine lv_iconst (v := (-1)) hx hb dX10_poll_14 (by decide) ?_
    refine lv_icmp_lt (tgt := 23) hx hb dX10_poll_15 (by decide) (fun c_6 => ?_) (fun c_6 => ?_)
    · simp only [lt_I, le_I, eq_I, i_0, i_1, i_2, i_3, i_4, i_5, i_6, i_7, i_8, i_10, i_12, i_16, i_20, i_23, i_24, i_31, i_32, i_63, i_64, i_m1] at c_6
      refine lv_aload_n hx hb dX10_poll_23 rfl (lv_at hl 0 rfl) ?_
      refine lv_iconst (v := 1) hx hb dX10_poll_24 (by decide) ?_
      obtain ⟨t0_7, t1_7, t2_7, r_7, ha_7, hg_7⟩ := tg_20 hT hG nx_0
      refine va_calli (rnV (fun H => TH E (T0 E) G [] H) (As := [.int 1]) (rest := []) ⟨hx, hb, hml, hown, hts⟩ (c_X10_fail l E z0 G hGz h0 1 hG) (cwV 1 hts (gdV ml_X10_185 im_X10_fail se_X10_X10_fail in_X10 co_X10_fail rfl) rfl rfl rfl (by decide +kernel) ⟨Nat.le_of_ble_eq_true rfl, Nat.le_of_ble_eq_true rfl⟩) hT (fun U hU hW => hK.go hW hS hAz hU) (va_recv hK.1 (va_one ha_7) (ci := 10) (q0 := 0) rfl rfl) rfl rfl hl.1 rfl (lv_room (Nat.le_of_ble_eq_true rfl)) dX10_poll_25 ⟨Nat.le_of_ble_eq_true rfl, Nat.le_of_ble_eq_true rfl⟩) hS (fun q _ h => by rw [h]; show G _ ≠ 0; rw [hG]; decide) (fun q h => by rw [h]; show G _ ≠ 0; rw [hG]; decide) (fun r_8 _ t H locs ht hvm hw hB hz hk hS => ?_)
      obtain ⟨fsx, hatx, hfx⟩ := hB
      rw [ht] at hatx
      have hT : TH E (T0 E) G [h0] H := hT.keptx (fun q hq => List.mem_append_left [h0] hq) (fun q hz hq => hk q hz (fun e => hq (by rw [e]; simp)))
      obtain rfl : r_8 = 0 := hw
      exact W.iret (v := 0) hx hb hr (fun t ht hW => ⟨⟨0, (), rfl, rfl, ⟨_, (by show va_at _ _ _ t.heap; rw [ht]; exact hatx), (by rw [if_neg (by omega)]; exact hfx)⟩⟩, hS.F ht⟩) hS.2.2 dX10_poll_28
    · simp only [lt_I, le_I, eq_I, i_0, i_1, i_2, i_3, i_4, i_5, i_6, i_7, i_8, i_10, i_12, i_16, i_20, i_23, i_24, i_31, i_32, i_63, i_64, i_m1] at c_6
      refine lv_iload_n hx hb dX10_poll_18 rfl (lv_at hl 2 rfl) ?_
      refine lv_iconst (v := 4) hx hb dX10_poll_19 (by decide) ?_
      refine lv_icmp_le (tgt := 29) hx hb dX10_poll_20 (by decide) (fun c_9 => ?_) (fun c_9 => ?_)
      · simp only [lt_I, le_I, eq_I, i_0, i_1, i_2, i_3, i_4, i_5, i_6, i_7, i_8, i_10, i_12, i_16, i_20, i_23, i_24, i_31, i_32, i_63, i_64, i_m1] at c_9
        refine lv_aload_n hx hb dX10_poll_29 rfl (lv_at hl 0 rfl) ?_
        obtain ⟨t0_10, t1_10, t2_10, r_10, ha_10, hg_10⟩ := tg_20 hT hG nx_0
        refine va_get (D := DG E) (ci := 10) (v := .ref (r_10 8)) (C := RX10) (T := TX10) (N := 49) hx hb hts iw_X10 hown hK.1 (va_one ha_10) 0 rfl rfl 8 (by decide) (hts _ fl_X10_22) (fun _ h9 => h9) rfl dX10_poll_30 ?_
        refine lv_iload_n hx hb dX10_poll_33 rfl (lv_at hl 1 rfl) ?_
        have ha_11 : va_at (DG E) vwCl ((r_10 8), .inl (E.2.2 0, 2, .inl (fun _ => 0))) _ := tg_arr (j := 8) hT (hg_10 8 (by decide) (by decide) (by decide)) nx_0
        refine va_iald (D := DG E) hx hb hK.1 (va_one ha_11) 0 0 rfl rfl (show vp_in p0 2 from vp_in_iff.mpr (by omega)) dX10_poll_34 ?_
        refine W.eq (g2 := F0 m 35 ls [.int 0]) (by rfl) ?_
        refine lv_if_ne (tgt := 44) hx hb dX10_poll_35 (by decide) (fun c_12 => absurd c_12 (by decide)) (fun c_12 => ?_)
        refine lv_aload_n hx hb dX10_poll_38 rfl (lv_at hl 0 rfl) ?_
        refine lv_iconst (v := 2) hx hb dX10_poll_39 (by decide) ?_
        obtain ⟨t0_13, t1_13, t2_13, r_13, ha_13, hg_13⟩ := tg_20 hT hG nx_0
        refine va_calli (rnV (fun H => TH E (T0 E) G [] H) (As := [.int 2]) (rest := []) ⟨hx, hb, hml, hown, hts⟩ (c_X10_fail l E z0 G hGz h0 2 hG) (cwV 1 hts (gdV ml_X10_185 im_X10_fail se_X10_X10_fail in_X10 co_X10_fail rfl) rfl rfl rfl (by decide +kernel) ⟨Nat.le_of_ble_eq_true rfl, Nat.le_of_ble_eq_true rfl⟩) hT (fun U hU hW => hK.go hW hS hAz hU) (va_recv hK.1 (va_one ha_13) (ci := 10) (q0 := 0) rfl rfl) rfl rfl hl.1 rfl (lv_room (Nat.le_of_ble_eq_true rfl)) dX10_poll_40 ⟨Nat.le_of_ble_eq_true rfl, Nat.le_of_ble_eq_true rfl⟩) hS (fun q _ h => by rw [h]; show G _ ≠ 0; rw [hG]; decide) (fun q h => by rw [h]; show G _ ≠ 0; rw [hG]; decide) (fun r_14 _ t H locs ht hvm hw hB hz hk hS => ?_)
        obtain ⟨fsx, hatx, hfx⟩ := hB
        rw [ht] at hatx
        have hT : TH E (T0 E) G [h0] H := hT.keptx (fun q hq => List.mem_append_left [h0] hq) (fun q hz hq => hk q hz (fun e => hq (by rw [e]; simp)))
        obtain rfl : r_14 = 0 := hw
        exact W.iret (v := 0) hx hb hr (fun t ht hW => ⟨⟨0, (), rfl, rfl, ⟨_, (by show va_at _ _ _ t.heap; rw [ht]; exact hatx), (by rw [if_pos (by omega)]; exact hfx)⟩⟩, hS.F ht⟩) hS.2.2 dX10_poll_43
      · simp only [lt_I, le_I, eq_I, i_0, i_1, i_2, i_3, i_4, i_5, i_6, i_7, i_8, i_10, i_12, i_16, i_20, i_23, i_24, i_31, i_32, i_63, i_64, i_m1] at c_9
        refine lv_aload_n hx hb dX10_poll_23 rfl (lv_at hl 0 rfl) ?_
        refine lv_iconst (v := 1) hx hb dX10_poll_24 (by decide) ?_
        obtain ⟨t0_15, t1_15, t2_15, r_15, ha_15, hg_15⟩ := tg_20 hT hG nx_0
        refine va_calli (rnV (fun H => TH E (T0 E) G [] H) (As := [.int 1]) (rest := []) ⟨hx, hb, hml, hown, hts⟩ (c_X10_fail l E z0 G hGz h0 1 hG) (cwV 1 hts (gdV ml_X10_185 im_X10_fail se_X10_X10_fail in_X10 co_X10_fail rfl) rfl rfl rfl (by decide +kernel) ⟨Nat.le_of_ble_eq_true rfl, Nat.le_of_ble_eq_true rfl⟩) hT (fun U hU hW => hK.go hW hS hAz hU) (va_recv hK.1 (va_one ha_15) (ci := 10) (q0 := 0) rfl rfl) rfl rfl hl.1 rfl (lv_room (Nat.le_of_ble_eq_true rfl)) dX10_poll_25 ⟨Nat.le_of_ble_eq_true rfl, Nat.le_of_ble_eq_true rfl⟩) hS (fun q _ h => by rw [h]; show G _ ≠ 0; rw [hG]; decide) (fun q h => by rw [h]; show G _ ≠ 0; rw [hG]; decide) (fun r_16 _ t H locs ht hvm hw hB hz hk hS => ?_)
        obtain ⟨fsx, hatx, hfx⟩ := hB
        rw [ht] at hatx
        have hT : TH E (T0 E) G [h0] H := hT.keptx (fun q hq => List.mem_append_left [h0] hq) (fun q hz hq => hk q hz (fun e => hq (by rw [e]; simp)))
        obtain rfl : r_16 = 0 := hw
        exact W.iret (v := 0) hx hb hr (fun t ht hW => ⟨⟨0, (), rfl, rfl, ⟨_, (by show va_at _ _ _ t.heap; rw [ht]; exact hatx), (by rw [if_neg (by omega)]; exact hfx)⟩⟩, hS.F ht⟩) hS.2.2 dX10_poll_28
theorem dX10_receive_0 : decode cX10_receive 0 = .ok (.aload_n 0, 1) := by decide +kernel
theorem dX10_receive_1 : decode cX10_receive 1 = .ok (.iconst 0, 1) := by decide +kernel
theorem dX10_receive_2 : decode cX10_receive 2 = .ok (.putfield 153, 3) := by decide +kernel
theorem dX10_receive_5 : decode cX10_receive 5 = .ok (.aload_n 0, 1) := by decide +kernel
theorem dX10_receive_6 : decode cX10_receive 6 = .ok (.iload_n 1, 1) := by decide +kernel
theorem dX10_receive_7 : decode cX10_receive 7 = .ok (.iload_n 2, 1) := by decide +kernel
theorem dX10_receive_8 : decode cX10_receive 8 = .ok (.iload_n 3, 1) := by decide +kernel
theorem dX10_receive_9 : decode cX10_receive 9 = .ok (.invokevirtual 181, 3) := by decide +kernel
theorem dX10_receive_12 : decode cX10_receive 12 = .ok (.ifCond .ne 9, 3) := by decide +kernel
theorem dX10_receive_15 : decode cX10_receive 15 = .ok (.aload_n 0, 1) := by decide +kernel
theorem dX10_receive_16 : decode cX10_receive 16 = .ok (.iconst 1, 1) := by decide +kernel
theorem dX10_receive_17 : decode cX10_receive 17 = .ok (.invokevirtual 185, 3) := by decide +kernel
theorem dX10_receive_20 : decode cX10_receive 20 = .ok (.ireturn, 1) := by decide +kernel
theorem dX10_receive_21 : decode cX10_receive 21 = .ok (.aload_n 0, 1) := by decide +kernel
theorem dX10_receive_22 : decode cX10_receive 22 = .ok (.getfield 28, 3) := by decide +kernel
theorem dX10_receive_25 : decode cX10_receive 25 = .ok (.iload_n 1, 1) := by decide +kernel
theorem dX10_receive_26 : decode cX10_receive 26 = .ok (.iaload, 1) := by decide +kernel
theorem dX10_receive_27 : decode cX10_receive 27 = .ok (.iconst 2, 1) := by decide +kernel
theorem dX10_receive_28 : decode cX10_receive 28 = .ok (.if_icmp .eq 13, 3) := by decide +kernel
theorem dX10_receive_31 : decode cX10_receive 31 = .ok (.aload_n 0, 1) := by decide +kernel
theorem dX10_receive_32 : decode cX10_receive 32 = .ok (.getfield 89, 3) := by decide +kernel
theorem dX10_receive_35 : decode cX10_receive 35 = .ok (.iload_n 1, 1) := by decide +kernel
theorem dX10_receive_36 : decode cX10_receive 36 = .ok (.iaload, 1) := by decide +kernel
theorem dX10_receive_37 : decode cX10_receive 37 = .ok (.iconst 4, 1) := by decide +kernel
theorem dX10_receive_38 : decode cX10_receive 38 = .ok (.if_icmp .ne 9, 3) := by decide +kernel
theorem dX10_receive_41 : decode cX10_receive 41 = .ok (.aload_n 0, 1) := by decide +kernel
theorem dX10_receive_42 : decode cX10_receive 42 = .ok (.iconst 2, 1) := by decide +kernel
theorem dX10_receive_43 : decode cX10_receive 43 = .ok (.invokevirtual 185, 3) := by decide +kernel
theorem dX10_receive_46 : decode cX10_receive 46 = .ok (.ireturn, 1) := by decide +kernel
theorem dX10_receive_47 : decode cX10_receive 47 = .ok (.iconst 4, 1) := by decide +kernel
theorem dX10_receive_48 : decode cX10_receive 48 = .ok (.iload_n 1, 1) := by decide +kernel
theorem dX10_receive_49 : decode cX10_receive 49 = .ok (.imul, 1) := by decide +kernel
theorem dX10_receive_50 : decode cX10_receive 50 = .ok (.aload_n 0, 1) := by decide +kernel
theorem dX10_receive_51 : decode cX10_receive 51 = .ok (.getfield 89, 3) := by decide +kernel
theorem dX10_receive_54 : decode cX10_receive 54 = .ok (.iload_n 1, 1) := by decide +kernel
theorem dX10_receive_55 : decode cX10_receive 55 = .ok (.iaload, 1) := by decide +kernel
theorem dX10_receive_56 : decode cX10_receive 56 = .ok (.iadd, 1) := by decide +kernel
theorem dX10_receive_57 : decode cX10_receive 57 = .ok (.istore 4, 2) := by decide +kernel
theorem dX10_receive_59 : decode cX10_receive 59 = .ok (.aload_n 0, 1) := by decide +kernel
theorem dX10_receive_60 : decode cX10_receive 60 = .ok (.getfield 95, 3) := by decide +kernel
theorem dX10_receive_63 : decode cX10_receive 63 = .ok (.iload 4, 2) := by decide +kernel
theorem dX10_receive_65 : decode cX10_receive 65 = .ok (.iload_n 2, 1) := by decide +kernel
theorem dX10_receive_66 : decode cX10_receive 66 = .ok (.iastore, 1) := by decide +kernel
theorem dX10_receive_67 : decode cX10_receive 67 = .ok (.aload_n 0, 1) := by decide +kernel
theorem dX10_receive_68 : decode cX10_receive 68 = .ok (.getfield 98, 3) := by decide +kernel
theorem dX10_receive_71 : decode cX10_receive 71 = .ok (.iload 4, 2) := by decide +kernel
theorem dX10_receive_73 : decode cX10_receive 73 = .ok (.iload_n 3, 1) := by decide +kernel
theorem dX10_receive_74 : decode cX10_receive 74 = .ok (.iastore, 1) := by decide +kernel
theorem dX10_receive_75 : decode cX10_receive 75 = .ok (.aload_n 0, 1) := by decide +kernel
theorem dX10_receive_76 : decode cX10_receive 76 = .ok (.getfield 101, 3) := by decide +kernel
theorem dX10_receive_79 : decode cX10_receive 79 = .ok (.iload 4, 2) := by decide +kernel
theorem dX10_receive_81 : decode cX10_receive 81 = .ok (.aload_n 0, 1) := by decide +kernel
theorem dX10_receive_82 : decode cX10_receive 82 = .ok (.getfield 92, 3) := by decide +kernel
theorem dX10_receive_85 : decode cX10_receive 85 = .ok (.iload_n 1, 1) := by decide +kernel
theorem dX10_receive_86 : decode cX10_receive 86 = .ok (.iaload, 1) := by decide +kernel
theorem dX10_receive_87 : decode cX10_receive 87 = .ok (.iastore, 1) := by decide +kernel
theorem dX10_receive_88 : decode cX10_receive 88 = .ok (.aload_n 0, 1) := by decide +kernel
theorem dX10_receive_89 : decode cX10_receive 89 = .ok (.getfield 104, 3) := by decide +kernel
theorem dX10_receive_92 : decode cX10_receive 92 = .ok (.iload 4, 2) := by decide +kernel
theorem dX10_receive_94 : decode cX10_receive 94 = .ok (.iconst 0, 1) := by decide +kernel
theorem dX10_receive_95 : decode cX10_receive 95 = .ok (.iastore, 1) := by decide +kernel
theorem dX10_receive_96 : decode cX10_receive 96 = .ok (.aload_n 0, 1) := by decide +kernel
theorem dX10_receive_97 : decode cX10_receive 97 = .ok (.getfield 89, 3) := by decide +kernel
theorem dX10_receive_100 : decode cX10_receive 100 = .ok (.iload_n 1, 1) := by decide +kernel
theorem dX10_receive_101 : decode cX10_receive 101 = .ok (.dup2, 1) := by decide +kernel
theorem dX10_receive_102 : decode cX10_receive 102 = .ok (.iaload, 1) := by decide +kernel
theorem dX10_receive_103 : decode cX10_receive 103 = .ok (.iconst 1, 1) := by decide +kernel
theorem dX10_receive_104 : decode cX10_receive 104 = .ok (.iadd, 1) := by decide +kernel
theorem dX10_receive_105 : decode cX10_receive 105 = .ok (.iastore, 1) := by decide +kernel
theorem dX10_receive_106 : decode cX10_receive 106 = .ok (.aload_n 0, 1) := by decide +kernel
theorem dX10_receive_107 : decode cX10_receive 107 = .ok (.getfield 92, 3) := by decide +kernel
theorem dX10_receive_110 : decode cX10_receive 110 = .ok (.iload_n 1, 1) := by decide +kernel
theorem dX10_receive_111 : decode cX10_receive 111 = .ok (.dup2, 1) := by decide +kernel
theorem dX10_receive_112 : decode cX10_receive 112 = .ok (.iaload, 1) := by decide +kernel
theorem dX10_receive_113 : decode cX10_receive 113 = .ok (.iconst 1, 1) := by decide +kernel
theorem dX10_receive_114 : decode cX10_receive 114 = .ok (.iadd, 1) := by decide +kernel
theorem dX10_receive_115 : decode cX10_receive 115 = .ok (.iastore, 1) := by decide +kernel
theorem dX10_receive_116 : decode cX10_receive 116 = .ok (.aload_n 0, 1) := by decide +kernel
theorem dX10_receive_117 : decode cX10_receive 117 = .ok (.getfield 92, 3) := by decide +kernel
theorem dX10_receive_120 : decode cX10_receive 120 = .ok (.iload_n 1, 1) := by decide +kernel
theorem dX10_receive_121 : decode cX10_receive 121 = .ok (.iaload, 1) := by decide +kernel
theorem dX10_receive_122 : decode cX10_receive 122 = .ok (.iconst 1, 1) := by decide +kernel
theorem dX10_receive_123 : decode cX10_receive 123 = .ok (.isub, 1) := by decide +kernel
theorem dX10_receive_124 : decode cX10_receive 124 = .ok (.ireturn, 1) := by decide +kernel
set_option maxHeartbeats 4000000 in
set_option maxRecDepth 100000 in
theorem c_X10_receive (l : Launch) (E : EE) (z0 : Nat) (G : Nat → Nat) (hGz : ∀ q, G q ≠ 0 → z0 ≤ q) (h0 : Nat) (p0 p1 p2 : Int32) (hG : G h0 = 20) : Met l yX10_receive [Cond.code yX10_receive cX10_receive 5 (some .int)] ({ frames := 2, cells := 0, slots := 0, locals := 44 } : Room) (va_Pc [.ref h0, .int p0, .int p1, .int p2] (fun U => TH E (T0 E) G [] U.heap ∧ KS E z0 U)) (va_Qi (fun (r : Int32) (_ : Unit) => r = 0) (fun _ t => ∃ fs : List Value, va_at (DG E) vwCl (h0, .inr (10, fs)) t.heap ∧ fs[3]? = some (.int (if (0 ≤ p0.toInt ∧ p0.toInt < 4 ∧ 1 ≤ p2.toInt ∧ p2.toInt ≤ 12 ∧ 0 ≤ p1.toInt ∧ p1.toInt ≤ 32 - p2.toInt) then 0 else 1))) (fun q : Nat => G q ≠ 0)) 0 0 (fun q : Nat => G q ≠ 0) := by
  refine Met.ofW (cc := cX10_receive) (maxL := 5) (ret := (some .int)) (by decide) rfl ?_
  intro p e s m args below meth c s₁ B hml hv
  obtain ⟨rfl, hT, hK⟩ := hv
  have hx := B.exec
  have hb := B.bytes
  have hr := B.returns
  have hts : ∀ w ∈ TS, w.before ([.ref h0, .int p0, .int p1, .int p2] : List Value).toArray s = true := fun w hw => hK.2.1 w hw _
  have hown : s.vm.findClass RX10 = some m.cls := findClass_of_methodNamed B.named
  have hlocks := B.notSynchronized
  have hS : va_S (fun q : Nat => G q ≠ 0) s.heap s.heap [] := va_S.rf
  have hAz : ∀ q, (fun q : Nat => G q ≠ 0) q → z0 ≤ q := hGz
  have hl := lv_entry ([.ref h0, .int p0, .int p1, .int p2]) (n := 5) (Nat.le_of_ble_eq_true rfl)
  rw [lg_entry_eq]
  generalize (lg_sl ([.ref h0, .int p0, .int p1, .int p2]) ++ List.replicate (5 - (lg_sl ([.ref h0, .int p0, .int p1, .int p2])).length) Slot.unset).toArray = ls at hl ⊢
  have hl : lv_has ls 5 [(0, .ref h0), (1, .int p0), (2, .int p1), (3, .int p2)] := hl
  refine lv_aload_n hx hb dX10_receive_0 rfl (lv_at hl 0 rfl) ?_
  refine lv_iconst (v := 0) hx hb dX10_receive_1 (by decide) ?_
  obtain ⟨t0_1, t1_1, t2_1, r_1, ha_1, hg_1⟩ := tg_20 hT hG nx_0
  refine rr_put (D := DG E) (ci := 10) (v := .int 0) (ty := .int) (C := RX10) (T := TX10) (N := 49) hx hb hts iw_X10 tyX10 tyX10_ok nmX10 hown hK.1 ha_1 hS (by show G h0 ≠ 0; rw [hG]; decide) rfl 3 (by decide) (hts _ fl_X10_153) (fun _ h9 => h9) rfl (by decide +kernel) rfl rfl (Nat.le_of_ble_eq_true rfl) dX10_receive_2 (fun H locs hn ho hz hS => ?_)
  have hr_2 : va_at (DG E) vwCl (h0, .inr (10, mfs t0_1 t1_1 t2_1 0 r_1 0)) H := hn
  have hT : TH E (T0 E) G [] H := hT.set hG (show T0 E G 20 _ from ⟨t0_1, t1_1, t2_1, r_1, rfl, hg_1⟩) hr_2 ho
  refine lv_aload_n hx hb dX10_receive_5 rfl (lv_at hl 0 rfl) ?_
  refine lv_iload_n hx hb dX10_receive_6 rfl (lv_at hl 1 rfl) ?_
  refine lv_iload_n hx hb dX10_receive_7 rfl (lv_at hl 2 rfl) ?_
  refine lv_iload_n hx hb dX10_receive_8 rfl (lv_at hl 3 rfl) ?_
  refine va_calli (rnV (fun H => TH E (T0 E) G [] H) (As := [.int p0, .int p1, .int p2]) (rest := []) ⟨hx, hb, hml, hown, hts⟩ (c_X10_cellsGood l E z0 G hGz h0 p0 p1 p2 hG) (cwV 3 hts (gdV ml_X10_181 im_X10_cellsGood se_X10_X10_cellsGood in_X10 co_X10_cellsGood rfl) rfl rfl rfl (by decide +kernel) ⟨Nat.le_of_ble_eq_true rfl, Nat.le_of_ble_eq_true rfl⟩) hT (fun U hU hW => hK.go hW hS hAz hU) (va_recv hK.1 (va_one hr_2) (ci := 10) (q0 := 0) rfl rfl) rfl rfl hl.1 rfl (lv_room (Nat.le_of_ble_eq_true rfl)) dX10_receive_9 ⟨Nat.le_of_ble_eq_true rfl, Nat.le_of_ble_eq_true rfl⟩) hS (fun q _ h => h.elim) (fun q h => h.elim) (fun r_3 _ t H locs ht hvm hw hB hz hk hS => ?_)
  have hT : TH E (T0 E) G [] H := hT.kept (fun q hq => hk q hq (fun h => h))
  have hr_2 := hr_2.kept ((fun q hq => hk q hq (fun h => h)) _ hr_2.lt)
  subst hw
  refine lv_if_ne (tgt := 21) hx hb dX10_receive_12 (by decide) (fun c_4 => ?_) (fun c_4 => ?_)
  · have c_4 := bI_n c_4
    try simp only [lt_I, le_I, eq_I, i_0, i_1, i_2, i_3, i_4, i_5, i_6, i_7, i_8, i_10, i_12, i_16, i_20, i_23, i_24, i_31, i_32, i_63, i_64, i_m1] at c_4
    refine lv_aload_n hx hb dX10_receive_21 rfl (lv_at hl 0 rfl) ?_
    refine va_get (D := DG E) (ci := 10) (v := .ref (r_1 10)) (C := RX10) (T := TX10) (N := 49) hx hb hts iw_X10 hown hK.1 (va_one hr_2) 0 rfl rfl 10 (by decide) (hts _ fl_X10_28) (fun _ h9 => h9) rfl dX10_receive_22 ?_
    refine lv_iload_n hx hb dX10_receive_25 rfl (lv_at hl 1 rfl) ?_
    have ha_5 : va_at (DG E) vwCl ((r_1 10), .inl (E.2.2 0, 4, .inl (fun _ => 0))) _ := tg_arr (j := 10) hT (hg_1 10 (by decide) (by decide) (by decide)) nx_0
    refine va_iald (D := DG E) hx hb hK.1 (va_one ha_5) 0 0 rfl rfl (show vp_in p0 4 from vp_in_iff.mpr (by omega)) dX10_receive_26 ?_
    refine W.eq (g2 := F0 m 27 ls [.int 0]) (by rfl) ?_
    refine lv_iconst (v := 2) hx hb dX10_receive_27 (by decide) ?_
    refine lv_icmp_eq (tgt := 41) hx hb dX10_receive_28 (by decide) (fun c_6 => absurd c_6 (by decide)) (fun c_6 => ?_)
    refine lv_aload_n hx hb dX10_receive_31 rfl (lv_at hl 0 rfl) ?_
    refine va_get (D := DG E) (ci := 10) (v := .ref (r_1 30)) (C := RX10) (T := TX10) (N := 49) hx hb hts iw_X10 hown hK.1 (va_one hr_2) 0 rfl rfl 30 (by decide) (hts _ fl_X10_89) (fun _ h9 => h9) rfl dX10_receive_32 ?_
    refine lv_iload_n hx hb dX10_receive_35 rfl (lv_at hl 1 rfl) ?_
    have ha_7 : va_at (DG E) vwCl ((r_1 30), .inl (E.2.2 0, 4, .inl (fun _ => 0))) _ := tg_arr (j := 30) hT (hg_1 30 (by decide) (by decide) (by decide)) nx_0
    refine va_iald (D := DG E) hx hb hK.1 (va_one ha_7) 0 0 rfl rfl (show vp_in p0 4 from vp_in_iff.mpr (by omega)) dX10_receive_36 ?_
    refine W.eq (g2 := F0 m 37 ls [.int 0]) (by rfl) ?_
    refine lv_iconst (v := 4) hx hb dX10_receive_37 (by decide) ?_
    refine lv_icmp_ne (tgt := 47) hx hb dX10_receive_38 (by decide) (fun c_8 => ?_) (fun c_8 => absurd c_8 (by decide))
    refine lv_iconst (v := 4) hx hb dX10_receive_47 (by decide) ?_
    refine lv_iload_n hx hb dX10_receive_48 rfl (lv_at hl 1 rfl) ?_
    refine lv_imul hx hb dX10_receive_49 ?_
    refine lv_aload_n hx hb dX10_receive_50 rfl (lv_at hl 0 rfl) ?_
    refine va_get (D := DG E) (ci := 10) (v := .ref (r_1 30)) (C := RX10) (T := TX10) (N := 49) hx hb hts iw_X10 hown hK.1 (va_one hr_2) 0 rfl rfl 30 (by decide) (hts _ fl_X10_89) (fun _ h9 => h9) rfl dX10_receive_51 ?_
    refine lv_iload_n hx hb dX10_receive_54 rfl (lv_at hl 1 rfl) ?_
    have ha_9 : va_at (DG E) vwCl ((r_1 30), .inl (E.2.2 0, 4, .inl (fun _ => 0))) _ := tg_arr (j := 30) hT (hg_1 30 (by decide) (by decide) (by decide)) nx_0
    refine va_iald (D := DG E) hx hb hK.1 (va_one ha_9) 0 0 rfl rfl (show vp_in p0 4 from vp_in_iff.mpr (by omega)) dX10_receive_55 ?_
    refine W.eq (g2 := F0 m 56 ls [.int 0, .int (4 * p0)]) (by rfl) ?_
    refine lv_iadd hx hb dX10_receive_56 ?_
    refine lv_istore (lv' := [(4, .int ((4 * p0) + 0)), (0, .ref h0), (1, .int p0), (2, .int p1), (3, .int p2)]) hx hb dX10_receive_57 hl (by decide) rfl (fun ls hl => ?_)
    refine lv_aload_n hx hb dX10_receive_59 rfl (lv_at hl 1 rfl) ?_
    refine va_get (D := DG E) (ci := 10) (v := .ref (r_1 32)) (C := RX10) (T := TX10) (N := 49) hx hb hts iw_X10 hown hK.1 (va_one hr_2) 0 rfl rfl 32 (by decide) (hts _ fl_X10_95) (fun _ h9 => h9) rfl dX10_receive_60 ?_
    refine lv_iload hx hb dX10_receive_63 (lv_at hl 0 rfl) ?_
    refine lv_iload_n hx hb dX10_receive_65 rfl (lv_at hl 3 rfl) ?_
    have ha_10 : va_at (DG E) vwCl ((r_1 32), .inl (E.2.2 0, 16, .inl (fun _ => 0))) _ := tg_arr (j := 32) hT (hg_1 32 (by decide) (by decide) (by decide)) nx_0
    have fm_11 : (4 * p0 : Int32).toInt = 4 * p0.toInt := s_mulK (K := 4) i_4 (by omega) (by omega)
    have fc_11 := i_0
    have fa_11 : (4 * p0 + 0 : Int32).toInt = (4 * p0 : Int32).toInt + (0 : Int32).toInt := s_add (by omega) (by omega)
    refine rr_iast (D := DG E) hx hb hK.1 0 ha_10 hS (by show G (r_1 32) ≠ 0; rw [(hg_1 32 (by decide) (by decide) (by decide))]; decide) rfl (show vp_in ((4 * p0) + 0) 16 from vp_in_iff.mpr (by omega)) dX10_receive_66 (fun H locs hn ho hz hS => ?_)
    have hr_12 : va_at (DG E) vwCl ((r_1 32), .inl (E.2.2 0, 16, .inl (upd (fun _ => 0) (((4 * p0) + 0) : Int32).toNatClampNeg p1))) H := hn
    have hr_2 := hr_2.kept (ho _ (ne_G hG (hg_1 32 (by decide) (by decide) (by decide)) (by decide)))
    have hT : TH E (T0 E) G [(r_1 32)] H := hT.keptx (fun q hq => List.mem_append_left [(r_1 32)] hq) (fun q _ hq => ho q (fun e => hq (by rw [e]; simp)))
    refine lv_aload_n hx hb dX10_receive_67 rfl (lv_at hl 1 rfl) ?_
    refine va_get (D := DG E) (ci := 10) (v := .ref (r_1 33)) (C := RX10) (T := TX10) (N := 49) hx hb hts iw_X10 hown hK.1 (va_one hr_2) 0 rfl rfl 33 (by decide) (hts _ fl_X10_98) (fun _ h9 => h9) rfl dX10_receive_68 ?_
    refine lv_iload hx hb dX10_receive_71 (lv_at hl 0 rfl) ?_
    refine lv_iload_n hx hb dX10_receive_73 rfl (lv_at hl 4 rfl) ?_
    have ha_13 : va_at (DG E) vwCl ((r_1 33), .inl (E.2.2 0, 16, .inl (fun _ => 0))) _ := tg_arr (j := 33) hT (hg_1 33 (by decide) (by decide) (by decide)) (nx_1 (ne_G (hg_1 33 (by decide) (by decide) (by decide)) (hg_1 32 (by decide) (by decide) (by decide)) (by decide)) nx_0)
    have fm_14 : (4 * p0 : Int32).toInt = 4 * p0.toInt := s_mulK (K := 4) i_4 (by omega) (by omega)
    have fc_14 := i_0
    have fa_14 : (4 * p0 + 0 : Int32).toInt = (4 * p0 : Int32).toInt + (0 : Int32).toInt := s_add (by omega) (by omega)
    refine rr_iast (D := DG E) hx hb hK.1 0 ha_13 hS (by show G (r_1 33) ≠ 0; rw [(hg_1 33 (by decide) (by decide) (by decide))]; decide) rfl (show vp_in ((4 * p0) + 0) 16 from vp_in_iff.mpr (by omega)) dX10_receive_74 (fun H locs hn ho hz hS => ?_)
    have hr_15 : va_at (DG E) vwCl ((r_1 33), .inl (E.2.2 0, 16, .inl (upd (fun _ => 0) (((4 * p0) + 0) : Int32).toNatClampNeg p2))) H := hn
    have hr_2 := hr_2.kept (ho _ (ne_G hG (hg_1 33 (by decide) (by decide) (by decide)) (by decide)))
    have hr_12 := hr_12.kept (ho _ (ne_G (hg_1 32 (by decide) (by decide) (by decide)) (hg_1 33 (by decide) (by decide) (by decide)) (by decide)))
    have hT : TH E (T0 E) G [(r_1 32), (r_1 33)] H := hT.keptx (fun q hq => List.mem_append_left [(r_1 33)] hq) (fun q _ hq => ho q (fun e => hq (by rw [e]; simp)))
    refine lv_aload_n hx hb dX10_receive_75 rfl (lv_at hl 1 rfl) ?_
    refine va_get (D := DG E) (ci := 10) (v := .ref (r_1 34)) (C := RX10) (T := TX10) (N := 49) hx hb hts iw_X10 hown hK.1 (va_one hr_2) 0 rfl rfl 34 (by decide) (hts _ fl_X10_101) (fun _ h9 => h9) rfl dX10_receive_76 ?_
    refine lv_iload hx hb dX10_receive_79 (lv_at hl 0 rfl) ?_
    refine lv_aload_n hx hb dX10_receive_81 rfl (lv_at hl 1 rfl) ?_
    refine va_get (D := DG E) (ci := 10) (v := .ref (r_1 31)) (C := RX10) (T := TX10) (N := 49) hx hb hts iw_X10 hown hK.1 (va_one hr_2) 0 rfl rfl 31 (by decide) (hts _ fl_X10_92) (fun _ h9 => h9) rfl dX10_receive_82 ?_
    refine lv_iload_n hx hb dX10_receive_85 rfl (lv_at hl 2 rfl) ?_
    have ha_16 : va_at (DG E) vwCl ((r_1 31), .inl (E.2.2 0, 4, .inl (fun _ => 0))) _ := tg_arr (j := 31) hT (hg_1 31 (by decide) (by decide) (by decide)) (nx_1 (ne_G (hg_1 31 (by decide) (by decide) (by decide)) (hg_1 32 (by decide) (by decide) (by decide)) (by decide)) (nx_1 (ne_G (hg_1 31 (by decide) (by decide) (by decide)) (hg_1 33 (by decide) (by decide) (by decide)) (by decide)) nx_0))
    refine va_iald (D := DG E) hx hb hK.1 (va_one ha_16) 0 0 rfl rfl (show vp_in p0 4 from vp_in_iff.mpr (by omega)) dX10_receive_86 ?_
    refine W.eq (g2 := F0 m 87 ls [.int 0, .int ((4 * p0) + 0), .ref (r_1 34)]) (by rfl) ?_
    have ha_17 : va_at (DG E) vwCl ((r_1 34), .inl (E.2.2 0, 16, .inl (fun _ => 0))) _ := tg_arr (j := 34) hT (hg_1 34 (by decide) (by decide) (by decide)) (nx_1 (ne_G (hg_1 34 (by decide) (by decide) (by decide)) (hg_1 32 (by decide) (by decide) (by decide)) (by decide)) (nx_1 (ne_G (hg_1 34 (by decide) (by decide) (by decide)) (hg_1 33 (by decide) (by decide) (by decide)) (by decide)) nx_0))
    have fm_18 : (4 * p0 : Int32).toInt = 4 * p0.toInt := s_mulK (K := 4) i_4 (by omega) (by omega)
    have fc_18 := i_0
    have fa_18 : (4 * p0 + 0 : Int32).toInt = (4 * p0 : Int32).toInt + (0 : Int32).toInt := s_add (by omega) (by omega)
    refine rr_iast (D := DG E) hx hb hK.1 0 ha_17 hS (by show G (r_1 34) ≠ 0; rw [(hg_1 34 (by decide) (by decide) (by decide))]; decide) rfl (show vp_in ((4 * p0) + 0) 16 from vp_in_iff.mpr (by omega)) dX10_receive_87 (fun H locs hn ho hz hS => ?_)
    have hr_19 : va_at (DG E) vwCl ((r_1 34), .inl (E.2.2 0, 16, .inl (upd (fun _ => 0) (((4 * p0) + 0) : Int32).toNatClampNeg 0))) H := hn
    have hr_2 := hr_2.kept (ho _ (ne_G hG (hg_1 34 (by decide) (by decide) (by decide)) (by decide)))
    have hr_12 := hr_12.kept (ho _ (ne_G (hg_1 32 (by decide) (by decide) (by decide)) (hg_1 34 (by decide) (by decide) (by decide)) (by decide)))
    have hr_15 := hr_15.kept (ho _ (ne_G (hg_1 33 (by decide) (by decide) (by decide)) (hg_1 34 (by decide) (by decide) (by decide)) (by decide)))
    have hT : TH E (T0 E) G [(r_1 32), (r_1 33), (r_1 34)] H := hT.keptx (fun q hq => List.mem_append_left [(r_1 34)] hq) (fun q _ hq => ho q (fun e => hq (by rw [e]; simp)))
    refine lv_aload_n hx hb dX10_receive_88 rfl (lv_at hl 1 rfl) ?_
    refine va_get (D := DG E) (ci := 10) (v := .ref (r_1 35)) (C := RX10) (T := TX10) (N := 49) hx hb hts iw_X10 hown hK.1 (va_one hr_2) 0 rfl rfl 35 (by decide) (hts _ fl_X10_104) (fun _ h9 => h9) rfl dX10_receive_89 ?_
    refine lv_iload hx hb dX10_receive_92 (lv_at hl 0 rfl) ?_
    refine lv_iconst (v := 0) hx hb dX10_receive_94 (by decide) ?_
    have ha_20 : va_at (DG E) vwCl ((r_1 35), .inl (E.2.2 0, 16, .inl (fun _ => 0))) _ := tg_arr (j := 35) hT (hg_1 35 (by decide) (by decide) (by decide)) (nx_1 (ne_G (hg_1 35 (by decide) (by decide) (by decide)) (hg_1 32 (by decide) (by decide) (by decide)) (by decide)) (nx_1 (ne_G (hg_1 35 (by decide) (by decide) (by decide)) (hg_1 33 (by decide) (by decide) (by decide)) (by decide)) (nx_1 (ne_G (hg_1 35 (by decide) (by decide) (by decide)) (hg_1 34 (by decide) (by decide) (by decide)) (by decide)) nx_0)))
    have fm_21 : (4 * p0 : Int32).toInt = 4 * p0.toInt := s_mulK (K := 4) i_4 (by omega) (by omega)
    have fc_21 := i_0
    have fa_21 : (4 * p0 + 0 : Int32).toInt = (4 * p0 : Int32).toInt + (0 : Int32).toInt := s_add (by omega) (by omega)
    refine rr_iast (D := DG E) hx hb hK.1 0 ha_20 hS (by show G (r_1 35) ≠ 0; rw [(hg_1 35 (by decide) (by decide) (by decide))]; decide) rfl (show vp_in ((4 * p0) + 0) 16 from vp_in_iff.mpr (by omega)) dX10_receive_95 (fun H locs hn ho hz hS => ?_)
    have hr_22 : va_at (DG E) vwCl ((r_1 35), .inl (E.2.2 0, 16, .inl (upd (fun _ => 0) (((4 * p0) + 0) : Int32).toNatClampNeg 0))) H := hn
    have hr_2 := hr_2.kept (ho _ (ne_G hG (hg_1 35 (by decide) (by decide) (by decide)) (by decide)))
    have hr_12 := hr_12.kept (ho _ (ne_G (hg_1 32 (by decide) (by decide) (by decide)) (hg_1 35 (by decide) (by decide) (by decide)) (by decide)))
    have hr_15 := hr_15.kept (ho _ (ne_G (hg_1 33 (by decide) (by decide) (by decide)) (hg_1 35 (by decide) (by decide) (by decide)) (by decide)))
    have hr_19 := hr_19.kept (ho _ (ne_G (hg_1 34 (by decide) (by decide) (by decide)) (hg_1 35 (by decide) (by decide) (by decide)) (by decide)))
    have hT : TH E (T0 E) G [(r_1 32), (r_1 33), (r_1 34), (r_1 35)] H := hT.keptx (fun q hq => List.mem_append_left [(r_1 35)] hq) (fun q _ hq => ho q (fun e => hq (by rw [e]; simp)))
    refine lv_aload_n hx hb dX10_receive_96 rfl (lv_at hl 1 rfl) ?_
    refine va_get (D := DG E) (ci := 10) (v := .ref (r_1 30)) (C := RX10) (T := TX10) (N := 49) hx hb hts iw_X10 hown hK.1 (va_one hr_2) 0 rfl rfl 30 (by decide) (hts _ fl_X10_89) (fun _ h9 => h9) rfl dX10_receive_97 ?_
    refine lv_iload_n hx hb dX10_receive_100 rfl (lv_at hl 2 rfl) ?_
    refine lv_dup2_11 hx hb dX10_receive_101 rfl rfl ?_
    have ha_23 : va_at (DG E) vwCl ((r_1 30), .inl (E.2.2 0, 4, .inl (fun _ => 0))) _ := tg_arr (j := 30) hT (hg_1 30 (by decide) (by decide) (by decide)) (nx_1 (ne_G (hg_1 30 (by decide) (by decide) (by decide)) (hg_1 32 (by decide) (by decide) (by decide)) (by decide)) (nx_1 (ne_G (hg_1 30 (by decide) (by decide) (by decide)) (hg_1 33 (by decide) (by decide) (by decide)) (by decide)) (nx_1 (ne_G (hg_1 30 (by decide) (by decide) (by decide)) (hg_1 34 (by decide) (by decide) (by decide)) (by decide)) (nx_1 (ne_G (hg_1 30 (by decide) (by decide) (by decide)) (hg_1 35 (by decide) (by decide) (by decide)) (by decide)) nx_0))))
    refine va_iald (D := DG E) hx hb hK.1 (va_one ha_23) 0 0 rfl rfl (show vp_in p0 4 from vp_in_iff.mpr (by omega)) dX10_receive_102 ?_
    refine W.eq (g2 := F0 m 103 ls [.int 0, .int p0, .ref (r_1 30)]) (by rfl) ?_
    refine lv_iconst (v := 1) hx hb dX10_receive_103 (by decide) ?_
    refine lv_iadd hx hb dX10_receive_104 ?_
    refine W.eq (g2 := F0 m 105 ls [.int 1, .int p0, .ref (r_1 30)]) (by rfl) ?_
    have ha_24 : va_at (DG E) vwCl ((r_1 30), .inl (E.2.2 0, 4, .inl (fun _ => 0))) _ := tg_arr (j := 30) hT (hg_1 30 (by decide) (by decide) (by decide)) (nx_1 (ne_G (hg_1 30 (by decide) (by decide) (by decide)) (hg_1 32 (by decide) (by decide) (by decide)) (by decide)) (nx_1 (ne_G (hg_1 30 (by decide) (by decide) (by decide)) (hg_1 33 (by decide) (by decide) (by decide)) (by decide)) (nx_1 (ne_G (hg_1 30 (by decide) (by decide) (by decide)) (hg_1 34 (by decide) (by decide) (by decide)) (by decide)) (nx_1 (ne_G (hg_1 30 (by decide) (by decide) (by decide)) (hg_1 35 (by decide) (by decide) (by decide)) (by decide)) nx_0))))
    refine rr_iast (D := DG E) hx hb hK.1 0 ha_24 hS (by show G (r_1 30) ≠ 0; rw [(hg_1 30 (by decide) (by decide) (by decide))]; decide) rfl (show vp_in p0 4 from vp_in_iff.mpr (by omega)) dX10_receive_105 (fun H locs hn ho hz hS => ?_)
    have hr_25 : va_at (DG E) vwCl ((r_1 30), .inl (E.2.2 0, 4, .inl (upd (fun _ => 0) (p0 : Int32).toNatClampNeg 1))) H := hn
    have hr_2 := hr_2.kept (ho _ (ne_G hG (hg_1 30 (by decide) (by decide) (by decide)) (by decide)))
    have hr_12 := hr_12.kept (ho _ (ne_G (hg_1 32 (by decide) (by decide) (by decide)) (hg_1 30 (by decide) (by decide) (by decide)) (by decide)))
    have hr_15 := hr_15.kept (ho _ (ne_G (hg_1 33 (by decide) (by decide) (by decide)) (hg_1 30 (by decide) (by decide) (by decide)) (by decide)))
    have hr_19 := hr_19.kept (ho _ (ne_G (hg_1 34 (by decide) (by decide) (by decide)) (hg_1 30 (by decide) (by decide) (by decide)) (by decide)))
    have hr_22 := hr_22.kept (ho _ (ne_G (hg_1 35 (by decide) (by decide) (by decide)) (hg_1 30 (by decide) (by decide) (by decide)) (by decide)))
    have hT : TH E (T0 E) G [(r_1 32), (r_1 33), (r_1 34), (r_1 35), (r_1 30)] H := hT.keptx (fun q hq => List.mem_append_left [(r_1 30)] hq) (fun q _ hq => ho q (fun e => hq (by rw [e]; simp)))
    refine lv_aload_n hx hb dX10_receive_106 rfl (lv_at hl 1 rfl) ?_
    refine va_get (D := DG E) (ci := 10) (v := .ref (r_1 31)) (C := RX10) (T := TX10) (N := 49) hx hb hts iw_X10 hown hK.1 (va_one hr_2) 0 rfl rfl 31 (by decide) (hts _ fl_X10_92) (fun _ h9 => h9) rfl dX10_receive_107 ?_
    refine lv_iload_n hx hb dX10_receive_110 rfl (lv_at hl 2 rfl) ?_
    refine lv_dup2_11 hx hb dX10_receive_111 rfl rfl ?_
    have ha_26 : va_at (DG E) vwCl ((r_1 31), .inl (E.2.2 0, 4, .inl (fun _ => 0))) _ := tg_arr (j := 31) hT (hg_1 31 (by decide) (by decide) (by decide)) (nx_1 (ne_G (hg_1 31 (by decide) (by decide) (by decide)) (hg_1 32 (by decide) (by decide) (by decide)) (by decide)) (nx_1 (ne_G (hg_1 31 (by decide) (by decide) (by decide)) (hg_1 33 (by decide) (by decide) (by decide)) (by decide)) (nx_1 (ne_G (hg_1 31 (by decide) (by decide) (by decide)) (hg_1 34 (by decide) (by decide) (by decide)) (by decide)) (nx_1 (ne_G (hg_1 31 (by decide) (by decide) (by decide)) (hg_1 35 (by decide) (by decide) (by decide)) (by decide)) (nx_1 (ne_G (hg_1 31 (by decide) (by decide) (by decide)) (hg_1 30 (by decide) (by decide) (by decide)) (by decide)) nx_0)))))
    refine va_iald (D := DG E) hx hb hK.1 (va_one ha_26) 0 0 rfl rfl (show vp_in p0 4 from vp_in_iff.mpr (by omega)) dX10_receive_112 ?_
    refine W.eq (g2 := F0 m 113 ls [.int 0, .int p0, .ref (r_1 31)]) (by rfl) ?_
    refine lv_iconst (v := 1) hx hb dX10_receive_113 (by decide) ?_
    refine lv_iadd hx hb dX10_receive_114 ?_
    refine W.eq (g2 := F0 m 115 ls [.int 1, .int p0, .ref (r_1 31)]) (by rfl) ?_
    have ha_27 : va_at (DG E) vwCl ((r_1 31), .inl (E.2.2 0, 4, .inl (fun _ => 0))) _ := tg_arr (j := 31) hT (hg_1 31 (by decide) (by decide) (by decide)) (nx_1 (ne_G (hg_1 31 (by decide) (by decide) (by decide)) (hg_1 32 (by decide) (by decide) (by decide)) (by decide)) (nx_1 (ne_G (hg_1 31 (by decide) (by decide) (by decide)) (hg_1 33 (by decide) (by decide) (by decide)) (by decide)) (nx_1 (ne_G (hg_1 31 (by decide) (by decide) (by decide)) (hg_1 34 (by decide) (by decide) (by decide)) (by decide)) (nx_1 (ne_G (hg_1 31 (by decide) (by decide) (by decide)) (hg_1 35 (by decide) (by decide) (by decide)) (by decide)) (nx_1 (ne_G (hg_1 31 (by decide) (by decide) (by decide)) (hg_1 30 (by decide) (by decide) (by decide)) (by decide)) nx_0)))))
    refine rr_iast (D := DG E) hx hb hK.1 0 ha_27 hS (by show G (r_1 31) ≠ 0; rw [(hg_1 31 (by decide) (by decide) (by decide))]; decide) rfl (show vp_in p0 4 from vp_in_iff.mpr (by omega)) dX10_receive_115 (fun H locs hn ho hz hS => ?_)
    have hr_28 : va_at (DG E) vwCl ((r_1 31), .inl (E.2.2 0, 4, .inl (upd (fun _ => 0) (p0 : Int32).toNatClampNeg 1))) H := hn
    have hr_2 := hr_2.kept (ho _ (ne_G hG (hg_1 31 (by decide) (by decide) (by decide)) (by decide)))
    have hr_12 := hr_12.kept (ho _ (ne_G (hg_1 32 (by decide) (by decide) (by decide)) (hg_1 31 (by decide) (by decide) (by decide)) (by decide)))
    have hr_15 := hr_15.kept (ho _ (ne_G (hg_1 33 (by decide) (by decide) (by decide)) (hg_1 31 (by decide) (by decide) (by decide)) (by decide)))
    have hr_19 := hr_19.kept (ho _ (ne_G (hg_1 34 (by decide) (by decide) (by decide)) (hg_1 31 (by decide) (by decide) (by decide)) (by decide)))
    have hr_22 := hr_22.kept (ho _ (ne_G (hg_1 35 (by decide) (by decide) (by decide)) (hg_1 31 (by decide) (by decide) (by decide)) (by decide)))
    have hr_25 := hr_25.kept (ho _ (ne_G (hg_1 30 (by decide) (by decide) (by decide)) (hg_1 31 (by decide) (by decide) (by decide)) (by decide)))
    have hT : TH E (T0 E) G [(r_1 32), (r_1 33), (r_1 34), (r_1 35), (r_1 30), (r_1 31)] H := hT.keptx (fun q hq => List.mem_append_left [(r_1 31)] hq) (fun q _ hq => ho q (fun e => hq (by rw [e]; simp)))
    refine lv_aload_n hx hb dX10_receive_116 rfl (lv_at hl 1 rfl) ?_
    refine va_get (D := DG E) (ci := 10) (v := .ref (r_1 31)) (C := RX10) (T := TX10) (N := 49) hx hb hts iw_X10 hown hK.1 (va_one hr_2) 0 rfl rfl 31 (by decide) (hts _ fl_X10_92) (fun _ h9 => h9) rfl dX10_receive_117 ?_
    refine lv_iload_n hx hb dX10_receive_120 rfl (lv_at hl 2 rfl) ?_
    refine va_iald (D := DG E) hx hb hK.1 (va_one hr_28) 0 0 rfl rfl (show vp_in p0 4 from vp_in_iff.mpr (by omega)) dX10_receive_121 ?_
    refine W.eq (g2 := F0 m 122 ls [.int ((upd (fun _ => 0) (p0 : Int32).toNatClampNeg 1) p0.toNatClampNeg)]) (by rfl) ?_
    refine lv_iconst (v := 1) hx hb dX10_receive_122 (by decide) ?_
    refine lv_isub hx hb dX10_receive_123 ?_
    exact W.iret (v := (((upd (fun _ => 0) (p0 : Int32).toNatClampNeg 1) p0.toNatClampNeg) - 1)) hx hb hr (fun t ht hW => ⟨⟨(((upd (fun _ => 0) (p0 : Int32).toNatClampNeg 1) p0.toNatClampNeg) - 1), (), rfl, (by show upd _ _ _ _ - 1 = (0 : Int32); rw [pk_us]; decide), ⟨_, (by show va_at _ _ _ t.heap; rw [ht]; exact hr_2), (by rw [if_pos (by omega)]; exact rfl)⟩⟩, hS.F ht⟩) hS.2.2 dX10_receive_124
  · have c_4 := bI_0 c_4
    try simp only [lt_I, le_I, eq_I, i_0, i_1, i_2, i_3, i_4, i_5, i_6, i_7, i_8, i_10, i_12, i_16, i_20, i_23, i_24, i_31, i_32, i_63, i_64, i_m1] at c_4
    refine lv_aload_n hx hb dX10_receive_15 rfl (lv_at hl 0 rfl) ?_
    refine lv_iconst (v := 1) hx hb dX10_receive_16 (by decide) ?_
    refine va_calli (rnV (fun H => TH E (T0 E) G [] H) (As := [.int 1]) (rest := []) ⟨hx, hb, hml, hown, hts⟩ (c_X10_fail l E z0 G hGz h0 1 hG) (cwV 1 hts (gdV ml_X10_185 im_X10_fail se_X10_X10_fail in_X10 co_X10_fail rfl) rfl rfl rfl (by decide +kernel) ⟨Nat.le_of_ble_eq_true rfl, Nat.le_of_ble_eq_true rfl⟩) hT (fun U hU hW => hK.go hW hS hAz hU) (va_recv hK.1 (va_one hr_2) (ci := 10) (q0 := 0) rfl rfl) rfl rfl hl.1 rfl (lv_room (Nat.le_of_ble_eq_true rfl)) dX10_receive_17 ⟨Nat.le_of_ble_eq_true rfl, Nat.le_of_ble_eq_true rfl⟩) hS (fun q _ h => by rw [h]; show G _ ≠ 0; rw [hG]; decide) (fun q h => by rw [h]; show G _ ≠ 0; rw [hG]; decide) (fun r_29 _ t H locs ht hvm hw hB hz hk hS => ?_)
    obtain ⟨fsx, hatx, hfx⟩ := hB
    rw [ht] at hatx
    have hT : TH E (T0 E) G [h0] H := hT.keptx (fun q hq => List.mem_append_left [h0] hq) (fun q hz hq => hk q hz (fun e => hq (by rw [e]; simp)))
    obtain rfl : r_29 = 0 := hw
    exact W.iret (v := 0) hx hb hr (fun t ht hW => ⟨⟨0, (), rfl, rfl, ⟨_, (by show va_at _ _ _ t.heap; rw [ht]; exact hatx), (by rw [if_neg (by omega)]; exact hfx)⟩⟩, hS.F ht⟩) hS.2.2 dX10_receive_20
