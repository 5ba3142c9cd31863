theorem dX10_region_0 : decode cX10_region 0 = .ok (.aload_n 0, 1) := by decide +kernel
theorem dX10_region_1 : decode cX10_region 1 = .ok (.iconst 0, 1) := by decide +kernel
theorem dX10_region_2 : decode cX10_region 2 = .ok (.putfield 153, 3) := by decide +kernel
theorem dX10_region_5 : decode cX10_region 5 = .ok (.iload_n 1, 1) := by decide +kernel
theorem dX10_region_6 : decode cX10_region 6 = .ok (.iconst 1, 1) := by decide +kernel
theorem dX10_region_7 : decode cX10_region 7 = .ok (.invokestatic 156, 3) := by decide +kernel
theorem dX10_region_10 : decode cX10_region 10 = .ok (.ifCond .eq 40, 3) := by decide +kernel
theorem dX10_region_13 : decode cX10_region 13 = .ok (.iload_n 2, 1) := by decide +kernel
theorem dX10_region_14 : decode cX10_region 14 = .ok (.iconst 5, 1) := by decide +kernel
theorem dX10_region_15 : decode cX10_region 15 = .ok (.invokestatic 156, 3) := by decide +kernel
theorem dX10_region_18 : decode cX10_region 18 = .ok (.ifCond .eq 32, 3) := by decide +kernel
theorem dX10_region_21 : decode cX10_region 21 = .ok (.iload_n 3, 1) := by decide +kernel
theorem dX10_region_22 : decode cX10_region 22 = .ok (.bipush 32, 2) := by decide +kernel
theorem dX10_region_24 : decode cX10_region 24 = .ok (.invokestatic 156, 3) := by decide +kernel
theorem dX10_region_27 : decode cX10_region 27 = .ok (.ifCond .eq 23, 3) := by decide +kernel
theorem dX10_region_30 : decode cX10_region 30 = .ok (.iload 4, 2) := by decide +kernel
theorem dX10_region_32 : decode cX10_region 32 = .ok (.bipush 32, 2) := by decide +kernel
theorem dX10_region_34 : decode cX10_region 34 = .ok (.invokestatic 156, 3) := by decide +kernel
theorem dX10_region_37 : decode cX10_region 37 = .ok (.ifCond .eq 13, 3) := by decide +kernel
theorem dX10_region_40 : decode cX10_region 40 = .ok (.iload 5, 2) := by decide +kernel
theorem dX10_region_42 : decode cX10_region 42 = .ok (.bipush 7, 2) := by decide +kernel
theorem dX10_region_44 : decode cX10_region 44 = .ok (.invokestatic 156, 3) := by decide +kernel
theorem dX10_region_47 : decode cX10_region 47 = .ok (.ifCond .ne 11, 3) := by decide +kernel
theorem dX10_region_50 : decode cX10_region 50 = .ok (.aload_n 0, 1) := by decide +kernel
theorem dX10_region_51 : decode cX10_region 51 = .ok (.iconst 1, 1) := by decide +kernel
theorem dX10_region_52 : decode cX10_region 52 = .ok (.putfield 153, 3) := by decide +kernel
theorem dX10_region_55 : decode cX10_region 55 = .ok (.goto 17, 3) := by decide +kernel
theorem dX10_region_58 : decode cX10_region 58 = .ok (.iload_n 3, 1) := by decide +kernel
theorem dX10_region_59 : decode cX10_region 59 = .ok (.iload 4, 2) := by decide +kernel
theorem dX10_region_61 : decode cX10_region 61 = .ok (.iadd, 1) := by decide +kernel
theorem dX10_region_62 : decode cX10_region 62 = .ok (.bipush 32, 2) := by decide +kernel
theorem dX10_region_64 : decode cX10_region 64 = .ok (.if_icmp .le 8, 3) := by decide +kernel
theorem dX10_region_67 : decode cX10_region 67 = .ok (.aload_n 0, 1) := by decide +kernel
theorem dX10_region_68 : decode cX10_region 68 = .ok (.iconst 1, 1) := by decide +kernel
theorem dX10_region_69 : decode cX10_region 69 = .ok (.putfield 153, 3) := by decide +kernel
theorem dX10_region_72 : decode cX10_region 72 = .ok (.aload_n 0, 1) := by decide +kernel
theorem dX10_region_73 : decode cX10_region 73 = .ok (.getfield 153, 3) := by decide +kernel
theorem dX10_region_76 : decode cX10_region 76 = .ok (.ifCond .eq 4, 3) := by decide +kernel
theorem dX10_region_79 : decode cX10_region 79 = .ok (.return_, 1) := by decide +kernel
theorem dX10_region_80 : decode cX10_region 80 = .ok (.bipush 6, 2) := by decide +kernel
theorem dX10_region_82 : decode cX10_region 82 = .ok (.iload_n 1, 1) := by decide +kernel
theorem dX10_region_83 : decode cX10_region 83 = .ok (.imul, 1) := by decide +kernel
theorem dX10_region_84 : decode cX10_region 84 = .ok (.iload_n 2, 1) := by decide +kernel
theorem dX10_region_85 : decode cX10_region 85 = .ok (.iadd, 1) := by decide +kernel
theorem dX10_region_86 : decode cX10_region 86 = .ok (.istore 6, 2) := by decide +kernel
theorem dX10_region_88 : decode cX10_region 88 = .ok (.aload_n 0, 1) := by decide +kernel
theorem dX10_region_89 : decode cX10_region 89 = .ok (.getfield 13, 3) := by decide +kernel
theorem dX10_region_92 : decode cX10_region 92 = .ok (.iload 6, 2) := by decide +kernel
theorem dX10_region_94 : decode cX10_region 94 = .ok (.iload_n 3, 1) := by decide +kernel
theorem dX10_region_95 : decode cX10_region 95 = .ok (.iastore, 1) := by decide +kernel
theorem dX10_region_96 : decode cX10_region 96 = .ok (.aload_n 0, 1) := by decide +kernel
theorem dX10_region_97 : decode cX10_region 97 = .ok (.getfield 16, 3) := by decide +kernel
theorem dX10_region_100 : decode cX10_region 100 = .ok (.iload 6, 2) := by decide +kernel
theorem dX10_region_102 : decode cX10_region 102 = .ok (.iload 4, 2) := by decide +kernel
theorem dX10_region_104 : decode cX10_region 104 = .ok (.iastore, 1) := by decide +kernel
theorem dX10_region_105 : decode cX10_region 105 = .ok (.aload_n 0, 1) := by decide +kernel
theorem dX10_region_106 : decode cX10_region 106 = .ok (.getfield 19, 3) := by decide +kernel
theorem dX10_region_109 : decode cX10_region 109 = .ok (.iload 6, 2) := by decide +kernel
theorem dX10_region_111 : decode cX10_region 111 = .ok (.iload 5, 2) := by decide +kernel
theorem dX10_region_113 : decode cX10_region 113 = .ok (.iastore, 1) := by decide +kernel
theorem dX10_region_114 : decode cX10_region 114 = .ok (.return_, 1) := by decide +kernel
set_option maxHeartbeats 4000000 in
set_option maxRecDepth 100000 in
theorem c_X10_region (l : Launch) (E : EE) (z0 : Nat) (G : Nat → Nat) (hGz : ∀ q, G q ≠ 0 → z0 ≤ q) (h0 : Nat) (p0 p1 p2 p3 p4 : Int32) (hG : G h0 = 20) : Met l yX10_region [Cond.code yX10_region cX10_region 7 none] ({ frames := 1, cells := 0, slots := 0, locals := 21 } : Room) (va_Pc [.ref h0, .int p0, .int p1, .int p2, .int p3, .int p4] (fun U => TH E (T0 E) G [] U.heap ∧ KS E z0 U)) (va_Qv (fun (_ : Unit) => True) (fun _ t => ∃ fs : List Value, va_at (DG E) vwCl (h0, .inr (10, fs)) t.heap ∧ fs[3]? = some (.int (if (0 ≤ p0.toInt ∧ p0.toInt < 2 ∧ 0 ≤ p1.toInt ∧ p1.toInt < 6 ∧ 0 ≤ p4.toInt ∧ p4.toInt ≤ 7 ∧ 0 ≤ p2.toInt ∧ 0 ≤ p3.toInt ∧ p3.toInt ≤ 32 - p2.toInt) then 0 else 1))) (fun q : Nat => G q ≠ 0)) 0 0 (fun q : Nat => G q ≠ 0) := by
  refine Met.ofW (cc := cX10_region) (maxL := 7) (ret := none) (by decide) rfl ?_
  intro p e s m args below meth c s₁ B hml hv
  obtain ⟨rfl, hT, hK⟩ := hv
  have hx := B.exec
  have hb := B.bytes
  have hr := B.returns
  have hts : ∀ w ∈ TS, w.before ([.ref h0, .int p0, .int p1, .int p2, .int p3, .int p4] : List Value).toArray s = true := fun w hw => hK.2.1 w hw _
  have hown : s.vm.findClass RX10 = some m.cls := findClass_of_methodNamed B.named
  have hlocks := B.notSynchronized
  have hS : va_S (fun q : Nat => G q ≠ 0) s.heap s.heap [] := va_S.rf
  have hAz : ∀ q, (fun q : Nat => G q ≠ 0) q → z0 ≤ q := hGz
  have hl := lv_entry ([.ref h0, .int p0, .int p1, .int p2, .int p3, .int p4]) (n := 7) (Nat.le_of_ble_eq_true rfl)
  rw [lg_entry_eq]
  generalize (lg_sl ([.ref h0, .int p0, .int p1, .int p2, .int p3, .int p4]) ++ List.replicate (7 - (lg_sl ([.ref h0, .int p0, .int p1, .int p2, .int p3, .int p4])).length) Slot.unset).toArray = ls at hl ⊢
  have hl : lv_has ls 7 [(0, .ref h0), (1, .int p0), (2, .int p1), (3, .int p2), (4, .int p3), (5, .int p4)] := hl
  refine lv_aload_n hx hb dX10_region_0 rfl (lv_at hl 0 rfl) ?_
  refine lv_iconst (v := 0) hx hb dX10_region_1 (by decide) ?_
  obtain ⟨t0_1, t1_1, t2_1, r_1, ha_1, hg_1⟩ := tg_20 hT hG nx_0
  refine rr_put (D := DG E) (ci := 10) (v := .int 0) (ty := .int) (C := RX10) (T := TX10) (N := 49) hx hb hts iw_X10 tyX10 tyX10_ok nmX10 hown hK.1 ha_1 hS (by show G h0 ≠ 0; rw [hG]; decide) rfl 3 (by decide) (hts _ fl_X10_153) (fun _ h9 => h9) rfl (by decide +kernel) rfl rfl (Nat.le_of_ble_eq_true rfl) dX10_region_2 (fun H locs hn ho hz hS => ?_)
  have hr_2 : va_at (DG E) vwCl (h0, .inr (10, mfs t0_1 t1_1 t2_1 0 r_1 0)) H := hn
  have hT : TH E (T0 E) G [] H := hT.set hG (show T0 E G 20 _ from ⟨t0_1, t1_1, t2_1, r_1, rfl, hg_1⟩) hr_2 ho
  refine lv_iload_n hx hb dX10_region_5 rfl (lv_at hl 1 rfl) ?_
  refine lv_iconst (v := 1) hx hb dX10_region_6 (by decide) ?_
  refine W.callR (W.runS (As := [.int p0, .int 1]) (rest := []) ⟨hx, hb, hml, hown, hts⟩ (c_X10_within l p0 1) (cwS 2 hts (gdS ml_X10_156 st_X10_within in_X10 co_X10_within rfl) rfl rfl rfl (by decide +kernel) ⟨Nat.le_of_ble_eq_true rfl, Nat.le_of_ble_eq_true rfl⟩) preEq rfl rfl hl.1 rfl (lv_room (Nat.le_of_ble_eq_true rfl)) dX10_region_7 ⟨Nat.le_of_ble_eq_true rfl, Nat.le_of_ble_eq_true rfl⟩) ?_
  refine W.eq (g2 := F0 m 10 ls [.int (bI (0 ≤ p0.toInt ∧ p0.toInt ≤ (1 : Int32).toInt))]) (by rfl) ?_
  refine lv_if_eq (tgt := 50) hx hb dX10_region_10 (by decide) (fun c_3 => ?_) (fun c_3 => ?_)
  · have c_3 := bI_0 c_3
    try simp only [lt_I, le_I, eq_I, i_0, i_1, i_2, i_3, i_4, i_5, i_6, i_7, i_8, i_10, i_12, i_16, i_20, i_23, i_24, i_31, i_32, i_63, i_64, i_m1] at c_3
    refine lv_aload_n hx hb dX10_region_50 rfl (lv_at hl 0 rfl) ?_
    refine lv_iconst (v := 1) hx hb dX10_region_51 (by decide) ?_
    obtain ⟨t0_4, t1_4, t2_4, r_4, ha_4, hg_4⟩ := tg_20 hT hG nx_0
    refine rr_put (D := DG E) (ci := 10) (v := .int 1) (ty := .int) (C := RX10) (T := TX10) (N := 49) hx hb hts iw_X10 tyX10 tyX10_ok nmX10 hown hK.1 ha_4 hS (by show G h0 ≠ 0; rw [hG]; decide) rfl 3 (by decide) (hts _ fl_X10_153) (fun _ h9 => h9) rfl (by decide +kernel) rfl rfl (Nat.le_of_ble_eq_true rfl) dX10_region_52 (fun H locs hn ho hz hS => ?_)
    have hr_5 : va_at (DG E) vwCl (h0, .inr (10, mfs t0_4 t1_4 t2_4 1 r_4 0)) H := hn
    have hT : TH E (T0 E) G [h0] H := hT.keptx (fun q hq => List.mem_append_left [h0] hq) (fun q _ hq => ho q (fun e => hq (by rw [e]; simp)))
    refine lv_goto (tgt := 72) hx hb dX10_region_55 (by decide) ?_
    refine lv_aload_n hx hb dX10_region_72 rfl (lv_at hl 0 rfl) ?_
    refine va_get (D := DG E) (ci := 10) (v := .int 1) (C := RX10) (T := TX10) (N := 49) hx hb hts iw_X10 hown hK.1 (va_one hr_5) 0 rfl rfl 3 (by decide) (hts _ fl_X10_153) (fun _ h9 => h9) rfl dX10_region_73 ?_
    refine lv_if_eq (tgt := 80) hx hb dX10_region_76 (by decide) (fun c_6 => absurd c_6 (by decide)) (fun c_6 => ?_)
    exact W.vret hx hb hr (fun t ht hW => ⟨⟨(), rfl, trivial, ⟨_, (by show va_at _ _ _ t.heap; rw [ht]; exact hr_5), (by rw [if_neg (by omega)]; exact rfl)⟩⟩, hS.F ht⟩) hS.2.2 dX10_region_79
  · have c_3 := bI_n c_3
    try simp only [lt_I, le_I, eq_I, i_0, i_1, i_2, i_3, i_4, i_5, i_6, i_7, i_8, i_10, i_12, i_16, i_20, i_23, i_24, i_31, i_32, i_63, i_64, i_m1] at c_3
    refine lv_iload_n hx hb dX10_region_13 rfl (lv_at hl 2 rfl) ?_
    refine lv_iconst (v := 5) hx hb dX10_region_14 (by decide) ?_
    refine W.callR (W.runS (As := [.int p1, .int 5]) (rest := []) ⟨hx, hb, hml, hown, hts⟩ (c_X10_within l p1 5) (cwS 2 hts (gdS ml_X10_156 st_X10_within in_X10 co_X10_within rfl) rfl rfl rfl (by decide +kernel) ⟨Nat.le_of_ble_eq_true rfl, Nat.le_of_ble_eq_true rfl⟩) preEq rfl rfl hl.1 rfl (lv_room (Nat.le_of_ble_eq_true rfl)) dX10_region_15 ⟨Nat.le_of_ble_eq_true rfl, Nat.le_of_ble_eq_true rfl⟩) ?_
    refine W.eq (g2 := F0 m 18 ls [.int (bI (0 ≤ p1.toInt ∧ p1.toInt ≤ (5 : Int32).toInt))]) (by rfl) ?_
    refine lv_if_eq (tgt := 50) hx hb dX10_region_18 (by decide) (fun c_7 => ?_) (fun c_7 => ?_)
    · have c_7 := bI_0 c_7
      try simp only [lt_I, le_I, eq_I, i_0, i_1, i_2, i_3, i_4, i_5, i_6, i_7, i_8, i_10, i_12, i_16, i_20, i_23, i_24, i_31, i_32, i_63, i_64, i_m1] at c_7
      refine lv_aload_n hx hb dX10_region_50 rfl (lv_at hl 0 rfl) ?_
      refine lv_iconst (v := 1) hx hb dX10_region_51 (by decide) ?_
      obtain ⟨t0_8, t1_8, t2_8, r_8, ha_8, hg_8⟩ := tg_20 hT hG nx_0
      refine rr_put (D := DG E) (ci := 10) (v := .int 1) (ty := .int) (C := RX10) (T := TX10) (N := 49) hx hb hts iw_X10 tyX10 tyX10_ok nmX10 hown hK.1 ha_8 hS (by show G h0 ≠ 0; rw [hG]; decide) rfl 3 (by decide) (hts _ fl_X10_153) (fun _ h9 => h9) rfl (by decide +kernel) rfl rfl (Nat.le_of_ble_eq_true rfl) dX10_region_52 (fun H locs hn ho hz hS => ?_)
      have hr_9 : va_at (DG E) vwCl (h0, .inr (10, mfs t0_8 t1_8 t2_8 1 r_8 0)) H := hn
      have hT : TH E (T0 E) G [h0] H := hT.keptx (fun q hq => List.mem_append_left [h0] hq) (fun q _ hq => ho q (fun e => hq (by rw [e]; simp)))
      refine lv_goto (tgt := 72) hx hb dX10_region_55 (by decide) ?_
      refine lv_aload_n hx hb dX10_region_72 rfl (lv_at hl 0 rfl) ?_
      refine va_get (D := DG E) (ci := 10) (v := .int 1) (C := RX10) (T := TX10) (N := 49) hx hb hts iw_X10 hown hK.1 (va_one hr_9) 0 rfl rfl 3 (by decide) (hts _ fl_X10_153) (fun _ h9 => h9) rfl dX10_region_73 ?_
      refine lv_if_eq (tgt := 80) hx hb dX10_region_76 (by decide) (fun c_10 => absurd c_10 (by decide)) (fun c_10 => ?_)
      exact W.vret hx hb hr (fun t ht hW => ⟨⟨(), rfl, trivial, ⟨_, (by show va_at _ _ _ t.heap; rw [ht]; exact hr_9), (by rw [if_neg (by omega)]; exact rfl)⟩⟩, hS.F ht⟩) hS.2.2 dX10_region_79
    · have c_7 := bI_n c_7
      try simp only [lt_I, le_I, eq_I, i_0, i_1, i_2, i_3, i_4, i_5, i_6, i_7, i_8, i_10, i_12, i_16, i_20, i_23, i_24, i_31, i_32, i_63, i_64, i_m1] at c_7
      refine lv_iload_n hx hb dX10_region_21 rfl (lv_at hl 3 rfl) ?_
      refine lv_bipush (v := 32) hx hb dX10_region_22 (by decide) ?_
      refine W.callR (W.runS (As := [.int p2, .int 32]) (rest := []) ⟨hx, hb, hml, hown, hts⟩ (c_X10_within l p2 32) (cwS 2 hts (gdS ml_X10_156 st_X10_within in_X10 co_X10_within rfl) rfl rfl rfl (by decide +kernel) ⟨Nat.le_of_ble_eq_true rfl, Nat.le_of_ble_eq_true rfl⟩) preEq rfl rfl hl.1 rfl (lv_room (Nat.le_of_ble_eq_true rfl)) dX10_region_24 ⟨Nat.le_of_ble_eq_true rfl, Nat.le_of_ble_eq_true rfl⟩) ?_
      refine W.eq (g2 := F0 m 27 ls [.int (bI (0 ≤ p2.toInt ∧ p2.toInt ≤ (32 : Int32).toInt))]) (by rfl) ?_
      refine lv_if_eq (tgt := 50) hx hb dX10_region_27 (by decide) (fun c_11 => ?_) (fun c_11 => ?_)
      · have c_11 := bI_0 c_11
        try simp only [lt_I, le_I, eq_I, i_0, i_1, i_2, i_3, i_4, i_5, i_6, i_7, i_8, i_10, i_12, i_16, i_20, i_23, i_24, i_31, i_32, i_63, i_64, i_m1] at c_11
        refine lv_aload_n hx hb dX10_region_50 rfl (lv_at hl 0 rfl) ?_
        refine lv_iconst (v := 1) hx hb dX10_region_51 (by decide) ?_
        obtain ⟨t0_12, t1_12, t2_12, r_12, ha_12, hg_12⟩ := tg_20 hT hG nx_0
        refine rr_put (D := DG E) (ci := 10) (v := .int 1) (ty := .int) (C := RX10) (T := TX10) (N := 49) hx hb hts iw_X10 tyX10 tyX10_ok nmX10 hown hK.1 ha_12 hS (by show G h0 ≠ 0; rw [hG]; decide) rfl 3 (by decide) (hts _ fl_X10_153) (fun _ h9 => h9) rfl (by decide +kernel) rfl rfl (Nat.le_of_ble_eq_true rfl) dX10_region_52 (fun H locs hn ho hz hS => ?_)
        have hr_13 : va_at (DG E) vwCl (h0, .inr (10, mfs t0_12 t1_12 t2_12 1 r_12 0)) H := hn
        have hT : TH E (T0 E) G [h0] H := hT.keptx (fun q hq => List.mem_append_left [h0] hq) (fun q _ hq => ho q (fun e => hq (by rw [e]; simp)))
        refine lv_goto (tgt := 72) hx hb dX10_region_55 (by decide) ?_
        refine lv_aload_n hx hb dX10_region_72 rfl (lv_at hl 0 rfl) ?_
        refine va_get (D := DG E) (ci := 10) (v := .int 1) (C := RX10) (T := TX10) (N := 49) hx hb hts iw_X10 hown hK.1 (va_one hr_13) 0 rfl rfl 3 (by decide) (hts _ fl_X10_153) (fun _ h9 => h9) rfl dX10_region_73 ?_
        refine lv_if_eq (tgt := 80) hx hb dX10_region_76 (by decide) (fun c_14 => absurd c_14 (by decide)) (fun c_14 => ?_)
        exact W.vret hx hb hr (fun t ht hW => ⟨⟨(), rfl, trivial, ⟨_, (by show va_at _ _ _ t.heap; rw [ht]; exact hr_13), (by rw [if_neg (by omega)]; exact rfl)⟩⟩, hS.F ht⟩) hS.2.2 dX10_region_79
      · have c_11 := bI_n c_11
        try simp only [lt_I, le_I, eq_I, i_0, i_1, i_2, i_3, i_4, i_5, i_6, i_7, i_8, i_10, i_12, i_16, i_20, i_23, i_24, i_31, i_32, i_63, i_64, i_m1] at c_11
        refine lv_iload hx hb dX10_region_30 (lv_at hl 4 rfl) ?_
        refine lv_bipush (v := 32) hx hb dX10_region_32 (by decide) ?_
        refine W.callR (W.runS (As := [.int p3, .int 32]) (rest := []) ⟨hx, hb, hml, hown, hts⟩ (c_X10_within l p3 32) (cwS 2 hts (gdS ml_X10_156 st_X10_within in_X10 co_X10_within rfl) rfl rfl rfl (by decide +kernel) ⟨Nat.le_of_ble_eq_true rfl, Nat.le_of_ble_eq_true rfl⟩) preEq rfl rfl hl.1 rfl (lv_room (Nat.le_of_ble_eq_true rfl)) dX10_region_34 ⟨Nat.le_of_ble_eq_true rfl, Nat.le_of_ble_eq_true rfl⟩) ?_
        refine W.eq (g2 := F0 m 37 ls [.int (bI (0 ≤ p3.toInt ∧ p3.toInt ≤ (32 : Int32).toInt))]) (by rfl) ?_
        refine lv_if_eq (tgt := 50) hx hb dX10_region_37 (by decide) (fun c_15 => ?_) (fun c_15 => ?_)
        · have c_15 := bI_0 c_15
          try simp only [lt_I, le_I, eq_I, i_0, i_1, i_2, i_3, i_4, i_5, i_6, i_7, i_8, i_10, i_12, i_16, i_20, i_23, i_24, i_31, i_32, i_63, i_64, i_m1] at c_15
          refine lv_aload_n hx hb dX10_region_50 rfl (lv_at hl 0 rfl) ?_
          refine lv_iconst (v := 1) hx hb dX10_region_51 (by decide) ?_
          obtain ⟨t0_16, t1_16, t2_16, r_16, ha_16, hg_16⟩ := tg_20 hT hG nx_0
          refine rr_put (D := DG E) (ci := 10) (v := .int 1) (ty := .int) (C := RX10) (T := TX10) (N := 49) hx hb hts iw_X10 tyX10 tyX10_ok nmX10 hown hK.1 ha_16 hS (by show G h0 ≠ 0; rw [hG]; decide) rfl 3 (by decide) (hts _ fl_X10_153) (fun _ h9 => h9) rfl (by decide +kernel) rfl rfl (Nat.le_of_ble_eq_true rfl) dX10_region_52 (fun H locs hn ho hz hS => ?_)
          have hr_17 : va_at (DG E) vwCl (h0, .inr (10, mfs t0_16 t1_16 t2_16 1 r_16 0)) H := hn
          have hT : TH E (T0 E) G [h0] H := hT.keptx (fun q hq => List.mem_append_left [h0] hq) (fun q _ hq => ho q (fun e => hq (by rw [e]; simp)))
          refine lv_goto (tgt := 72) hx hb dX10_region_55 (by decide) ?_
          refine lv_aload_n hx hb dX10_region_72 rfl (lv_at hl 0 rfl) ?_
          refine va_get (D := DG E) (ci := 10) (v := .int 1) (C := RX10) (T := TX10) (N := 49) hx hb hts iw_X10 hown hK.1 (va_one hr_17) 0 rfl rfl 3 (by decide) (hts _ fl_X10_153) (fun _ h9 => h9) rfl dX10_region_73 ?_
          refine lv_if_eq (tgt := 80) hx hb dX10_region_76 (by decide) (fun c_18 => absurd c_18 (by decide)) (fun c_18 => ?_)
          exact W.vret hx hb hr (fun t ht hW => ⟨⟨(), rfl, trivial, ⟨_, (by show va_at _ _ _ t.heap; rw [ht]; exact hr_17), (by rw [if_neg (by omega)]; exact rfl)⟩⟩, hS.F ht⟩) hS.2.2 dX10_region_79
        · have c_15 := bI_n c_15
          try simp only [lt_I, le_I, eq_I, i_0, i_1, i_2, i_3, i_4, i_5, i_6, i_7, i_8, i_10, i_12, i_16, i_20, i_23, i_24, i_31, i_32, i_63, i_64, i_m1] at c_15
          refine lv_iload hx hb dX10_region_40 (lv_at hl 5 rfl) ?_
          refine lv_bipush (v := 7) hx hb dX10_region_42 (by decide) ?_
          refine W.callR (W.runS (As := [.int p4, .int 7]) (rest := []) ⟨hx, hb, hml, hown, hts⟩ (c_X10_within l p4 7) (cwS 2 hts (gdS ml_X10_156 st_X10_within in_X10 co_X10_within rfl) rfl rfl rfl (by decide +kernel) ⟨Nat.le_of_ble_eq_true rfl, Nat.le_of_ble_eq_true rfl⟩) preEq rfl rfl hl.1 rfl (lv_room (Nat.le_of_ble_eq_true rfl)) dX10_region_44 ⟨Nat.le_of_ble_eq_true rfl, Nat.le_of_ble_eq_true rfl⟩) ?_
          refine W.eq (g2 := F0 m 47 ls [.int (bI (0 ≤ p4.toInt ∧ p4.toInt ≤ (7 : Int32).toInt))]) (by rfl) ?_
          refine lv_if_ne (tgt := 58) hx hb dX10_region_47 (by decide) (fun c_19 => ?_) (fun c_19 => ?_)
          · have c_19 := bI_n c_19
            try simp only [lt_I, le_I, eq_I, i_0, i_1, i_2, i_3, i_4, i_5, i_6, i_7, i_8, i_10, i_12, i_16, i_20, i_23, i_24, i_31, i_32, i_63, i_64, i_m1] at c_19
            refine lv_iload_n hx hb dX10_region_58 rfl (lv_at hl 3 rfl) ?_
            refine lv_iload hx hb dX10_region_59 (lv_at hl 4 rfl) ?_
            refine lv_iadd hx hb dX10_region_61 ?_
            have fa_20 : (p2 + p3 : Int32).toInt = p2.toInt + p3.toInt := s_add (by omega) (by omega)
            refine lv_bipush (v := 32) hx hb dX10_region_62 (by decide) ?_
            refine lv_icmp_le (tgt := 72) hx hb dX10_region_64 (by decide) (fun c_21 => ?_) (fun c_21 => ?_)
            · simp only [lt_I, le_I, eq_I, i_0, i_1, i_2, i_3, i_4, i_5, i_6, i_7, i_8, i_10, i_12, i_16, i_20, i_23, i_24, i_31, i_32, i_63, i_64, i_m1] at c_21
              refine lv_aload_n hx hb dX10_region_72 rfl (lv_at hl 0 rfl) ?_
              obtain ⟨t0_22, t1_22, t2_22, r_22, ha_22, hg_22⟩ := tg_20 hT hG nx_0
              refine va_get (D := DG E) (ci := 10) (v := .int 0) (C := RX10) (T := TX10) (N := 49) hx hb hts iw_X10 hown hK.1 (va_one ha_22) 0 rfl rfl 3 (by decide) (hts _ fl_X10_153) (fun _ h9 => h9) rfl dX10_region_73 ?_
              refine lv_if_eq (tgt := 80) hx hb dX10_region_76 (by decide) (fun c_23 => ?_) (fun c_23 => absurd c_23 (by decide))
              refine lv_bipush (v := 6) hx hb dX10_region_80 (by decide) ?_
              refine lv_iload_n hx hb dX10_region_82 rfl (lv_at hl 1 rfl) ?_
              refine lv_imul hx hb dX10_region_83 ?_
              refine lv_iload_n hx hb dX10_region_84 rfl (lv_at hl 2 rfl) ?_
              refine lv_iadd hx hb dX10_region_85 ?_
              refine lv_istore (lv' := [(6, .int ((6 * p0) + p1)), (0, .ref h0), (1, .int p0), (2, .int p1), (3, .int p2), (4, .int p3), (5, .int p4)]) hx hb dX10_region_86 hl (by decide) rfl (fun ls hl => ?_)
              refine lv_aload_n hx hb dX10_region_88 rfl (lv_at hl 1 rfl) ?_
              obtain ⟨t0_24, t1_24, t2_24, r_24, ha_24, hg_24⟩ := tg_20 hT hG nx_0
              refine va_get (D := DG E) (ci := 10) (v := .ref (r_24 5)) (C := RX10) (T := TX10) (N := 49) hx hb hts iw_X10 hown hK.1 (va_one ha_24) 0 rfl rfl 5 (by decide) (hts _ fl_X10_13) (fun _ h9 => h9) rfl dX10_region_89 ?_
              refine lv_iload hx hb dX10_region_92 (lv_at hl 0 rfl) ?_
              refine lv_iload_n hx hb dX10_region_94 rfl (lv_at hl 4 rfl) ?_
              have ha_25 : va_at (DG E) vwCl ((r_24 5), .inl (E.2.2 0, 12, .inl (fun _ => 0))) _ := tg_arr (j := 5) hT (hg_24 5 (by decide) (by decide) (by decide)) nx_0
              have fm_26 : (6 * p0 : Int32).toInt = 6 * p0.toInt := s_mulK (K := 6) i_6 (by omega) (by omega)
              have fa_26 : (6 * p0 + p1 : Int32).toInt = (6 * p0 : Int32).toInt + p1.toInt := s_add (by omega) (by omega)
              refine rr_iast (D := DG E) hx hb hK.1 0 ha_25 hS (by show G (r_24 5) ≠ 0; rw [(hg_24 5 (by decide) (by decide) (by decide))]; decide) rfl (show vp_in ((6 * p0) + p1) 12 from vp_in_iff.mpr (by omega)) dX10_region_95 (fun H locs hn ho hz hS => ?_)
              have hr_27 : va_at (DG E) vwCl ((r_24 5), .inl (E.2.2 0, 12, .inl (upd (fun _ => 0) (((6 * p0) + p1) : Int32).toNatClampNeg p2))) H := hn
              have hT : TH E (T0 E) G [(r_24 5)] H := hT.keptx (fun q hq => List.mem_append_left [(r_24 5)] hq) (fun q _ hq => ho q (fun e => hq (by rw [e]; simp)))
              refine lv_aload_n hx hb dX10_region_96 rfl (lv_at hl 1 rfl) ?_
              obtain ⟨t0_28, t1_28, t2_28, r_28, ha_28, hg_28⟩ := tg_20 hT hG (nx_1 (ne_G hG (hg_24 5 (by decide) (by decide) (by decide)) (by decide)) nx_0)
              refine va_get (D := DG E) (ci := 10) (v := .ref (r_28 6)) (C := RX10) (T := TX10) (N := 49) hx hb hts iw_X10 hown hK.1 (va_one ha_28) 0 rfl rfl 6 (by decide) (hts _ fl_X10_16) (fun _ h9 => h9) rfl dX10_region_97 ?_
              refine lv_iload hx hb dX10_region_100 (lv_at hl 0 rfl) ?_
              refine lv_iload hx hb dX10_region_102 (lv_at hl 5 rfl) ?_
              have ha_29 : va_at (DG E) vwCl ((r_28 6), .inl (E.2.2 0, 12, .inl (fun _ => 0))) _ := tg_arr (j := 6) hT (hg_28 6 (by decide) (by decide) (by decide)) (nx_1 (ne_G (hg_28 6 (by decide) (by decide) (by decide)) (hg_24 5 (by decide) (by decide) (by decide)) (by decide)) nx_0)
              have fm_30 : (6 * p0 : Int32).toInt = 6 * p0.toInt := s_mulK (K := 6) i_6 (by omega) (by omega)
              have fa_30 : (6 * p0 + p1 : Int32).toInt = (6 * p0 : Int32).toInt + p1.toInt := s_add (by omega) (by omega)
              refine rr_iast (D := DG E) hx hb hK.1 0 ha_29 hS (by show G (r_28 6) ≠ 0; rw [(hg_28 6 (by decide) (by decide) (by decide))]; decide) rfl (show vp_in ((6 * p0) + p1) 12 from vp_in_iff.mpr (by omega)) dX10_region_104 (fun H locs hn ho hz hS => ?_)
              have hr_31 : va_at (DG E) vwCl ((r_28 6), .inl (E.2.2 0, 12, .inl (upd (fun _ => 0) (((6 * p0) + p1) : Int32).toNatClampNeg p3))) H := hn
              have hr_27 := hr_27.kept (ho _ (ne_G (hg_24 5 (by decide) (by decide) (by decide)) (hg_28 6 (by decide) (by decide) (by decide)) (by decide)))
              have hT : TH E (T0 E) G [(r_24 5), (r_28 6)] H := hT.keptx (fun q hq => List.mem_append_left [(r_28 6)] hq) (fun q _ hq => ho q (fun e => hq (by rw [e]; simp)))
              refine lv_aload_n hx hb dX10_region_105 rfl (lv_at hl 1 rfl) ?_
              obtain ⟨t0_32, t1_32, t2_32, r_32, ha_32, hg_32⟩ := tg_20 hT hG (nx_1 (ne_G hG (hg_24 5 (by decide) (by decide) (by decide)) (by decide)) (nx_1 (ne_G hG (hg_28 6 (by decide) (by decide) (by decide)) (by decide)) nx_0))
              refine va_get (D := DG E) (ci := 10) (v := .ref (r_32 7)) (C := RX10) (T := TX10) (N := 49) hx hb hts iw_X10 hown hK.1 (va_one ha_32) 0 rfl rfl 7 (by decide) (hts _ fl_X10_19) (fun _ h9 => h9) rfl dX10_region_106 ?_
              refine lv_iload hx hb dX10_region_109 (lv_at hl 0 rfl) ?_
              refine lv_iload hx hb dX10_region_111 (lv_at hl 6 rfl) ?_
              have ha_33 : va_at (DG E) vwCl ((r_32 7), .inl (E.2.2 0, 12, .inl (fun _ => 0))) _ := tg_arr (j := 7) hT (hg_32 7 (by decide) (by decide) (by decide)) (nx_1 (ne_G (hg_32 7 (by decide) (by decide) (by decide)) (hg_24 5 (by decide) (by decide) (by decide)) (by decide)) (nx_1 (ne_G (hg_32 7 (by decide) (by decide) (by decide)) (hg_28 6 (by decide) (by decide) (by decide)) (by decide)) nx_0))
              have fm_34 : (6 * p0 : Int32).toInt = 6 * p0.toInt := s_mulK (K := 6) i_6 (by omega) (by omega)
              have fa_34 : (6 * p0 + p1 : Int32).toInt = (6 * p0 : Int32).toInt + p1.toInt := s_add (by omega) (by omega)
              refine rr_iast (D := DG E) hx hb hK.1 0 ha_33 hS (by show G (r_32 7) ≠ 0; rw [(hg_32 7 (by decide) (by decide) (by decide))]; decide) rfl (show vp_in ((6 * p0) + p1) 12 from vp_in_iff.mpr (by omega)) dX10_region_113 (fun H locs hn ho hz hS => ?_)
              have hr_35 : va_at (DG E) vwCl ((r_32 7), .inl (E.2.2 0, 12, .inl (upd (fun _ => 0) (((6 * p0) + p1) : Int32).toNatClampNeg p4))) H := hn
              have hr_27 := hr_27.kept (ho _ (ne_G (hg_24 5 (by decide) (by decide) (by decide)) (hg_32 7 (by decide) (by decide) (by decide)) (by decide)))
              have hr_31 := hr_31.kept (ho _ (ne_G (hg_28 6 (by decide) (by decide) (by decide)) (hg_32 7 (by decide) (by decide) (by decide)) (by decide)))
              have hT : TH E (T0 E) G [(r_24 5), (r_28 6), (r_32 7)] H := hT.keptx (fun q hq => List.mem_append_left [(r_32 7)] hq) (fun q _ hq => ho q (fun e => hq (by rw [e]; simp)))
              obtain ⟨t0_36, t1_36, t2_36, r_36, ha_36, hg_36⟩ := tg_20 hT hG (nx_1 (ne_G hG (hg_24 5 (by decide) (by decide) (by decide)) (by decide)) (nx_1 (ne_G hG (hg_28 6 (by decide) (by decide) (by decide)) (by decide)) (nx_1 (ne_G hG (hg_32 7 (by decide) (by decide) (by decide)) (by decide)) nx_0)))
              exact W.vret hx hb hr (fun t ht hW => ⟨⟨(), rfl, trivial, ⟨_, (by show va_at _ _ _ t.heap; rw [ht]; exact ha_36), (by rw [if_pos (by omega)]; exact rfl)⟩⟩, hS.F ht⟩) hS.2.2 dX10_region_114
            · simp only [lt_I, le_I, eq_I, i_0, i_1, i_2, i_3, i_4, i_5, i_6, i_7, i_8, i_10, i_12, i_16, i_20, i_23, i_24, i_31, i_32, i_63, i_64, i_m1] at c_21
              refine lv_aload_n hx hb dX10_region_67 rfl (lv_at hl 0 rfl) ?_
              refine lv_iconst (v := 1) hx hb dX10_region_68 (by decide) ?_
              obtain ⟨t0_37, t1_37, t2_37, r_37, ha_37, hg_37⟩ := tg_20 hT hG nx_0
              refine rr_put (D := DG E) (ci := 10) (v := .int 1) (ty := .int) (C := RX10) (T := TX10) (N := 49) hx hb hts iw_X10 tyX10 tyX10_ok nmX10 hown hK.1 ha_37 hS (by show G h0 ≠ 0; rw [hG]; decide) rfl 3 (by decide) (hts _ fl_X10_153) (fun _ h9 => h9) rfl (by decide +kernel) rfl rfl (Nat.le_of_ble_eq_true rfl) dX10_region_69 (fun H locs hn ho hz hS => ?_)
              have hr_38 : va_at (DG E) vwCl (h0, .inr (10, mfs t0_37 t1_37 t2_37 1 r_37 0)) H := hn
              have hT : TH E (T0 E) G [h0] H := hT.keptx (fun q hq => List.mem_append_left [h0] hq) (fun q _ hq => ho q (fun e => hq (by rw [e]; simp)))
              refine lv_aload_n hx hb dX10_region_72 rfl (lv_at hl 0 rfl) ?_
              refine va_get (D := DG E) (ci := 10) (v := .int 1) (C := RX10) (T := TX10) (N := 49) hx hb hts iw_X10 hown hK.1 (va_one hr_38) 0 rfl rfl 3 (by decide) (hts _ fl_X10_153) (fun _ h9 => h9) rfl dX10_region_73 ?_
              refine lv_if_eq (tgt := 80) hx hb dX10_region_76 (by decide) (fun c_39 => absurd c_39 (by decide)) (fun c_39 => ?_)
              exact W.vret hx hb hr (fun t ht hW => ⟨⟨(), rfl, trivial, ⟨_, (by show va_at _ _ _ t.heap; rw [ht]; exact hr_38), (by rw [if_neg (by omega)]; exact rfl)⟩⟩, hS.F ht⟩) hS.2.2 dX10_region_79
          · have c_19 := bI_0 c_19
            try simp only [lt_I, le_I, eq_I, i_0, i_1, i_2, i_3, i_4, i_5, i_6, i_7, i_8, i_10, i_12, i_16, i_20, i_23, i_24, i_31, i_32, i_63, i_64, i_m1] at c_19
            refine lv_aload_n hx hb dX10_region_50 rfl (lv_at hl 0 rfl) ?_
            refine lv_iconst (v := 1) hx hb dX10_region_51 (by decide) ?_
            obtain ⟨t0_40, t1_40, t2_40, r_40, ha_40, hg_40⟩ := tg_20 hT hG nx_0
            refine rr_put (D := DG E) (ci := 10) (v := .int 1) (ty := .int) (C := RX10) (T := TX10) (N := 49) hx hb hts iw_X10 tyX10 tyX10_ok nmX10 hown hK.1 ha_40 hS (by show G h0 ≠ 0; rw [hG]; decide) rfl 3 (by decide) (hts _ fl_X10_153) (fun _ h9 => h9) rfl (by decide +kernel) rfl rfl (Nat.le_of_ble_eq_true rfl) dX10_region_52 (fun H locs hn ho hz hS => ?_)
            have hr_41 : va_at (DG E) vwCl (h0, .inr (10, mfs t0_40 t1_40 t2_40 1 r_40 0)) H := hn
            have hT : TH E (T0 E) G [h0] H := hT.keptx (fun q hq => List.mem_append_left [h0] hq) (fun q _ hq => ho q (fun e => hq (by rw [e]; simp)))
            refine lv_goto (tgt := 72) hx hb dX10_region_55 (by decide) ?_
            refine lv_aload_n hx hb dX10_region_72 rfl (lv_at hl 0 rfl) ?_
            refine va_get (D := DG E) (ci := 10) (v := .int 1) (C := RX10) (T := TX10) (N := 49) hx hb hts iw_X10 hown hK.1 (va_one hr_41) 0 rfl rfl 3 (by decide) (hts _ fl_X10_153) (fun _ h9 => h9) rfl dX10_region_73 ?_
            refine lv_if_eq (tgt := 80) hx hb dX10_region_76 (by decide) (fun c_42 => absurd c_42 (by decide)) (fun c_42 => ?_)
            exact W.vret hx hb hr (fun t ht hW => ⟨⟨(), rfl, trivial, ⟨_, (by show va_at _ _ _ t.heap; rw [ht]; exact hr_41), (by rw [if_neg (by omega)]; exact rfl)⟩⟩, hS.F ht⟩) hS.2.2 dX10_region_79
theorem dX10_store_0 : decode cX10_store 0 = .ok (.aload_n 0, 1) := by decide +kernel
theorem dX10_store_1 : decode cX10_store 1 = .ok (.iconst 0, 1) := by decide +kernel
theorem dX10_store_2 : decode cX10_store 2 = .ok (.putfield 153, 3) := by decide +kernel
theorem dX10_store_5 : decode cX10_store 5 = .ok (.iload_n 1, 1) := by decide +kernel
theorem dX10_store_6 : decode cX10_store 6 = .ok (.iconst 1, 1) := by decide +kernel
theorem dX10_store_7 : decode cX10_store 7 = .ok (.invokestatic 156, 3) := by decide +kernel
theorem dX10_store_10 : decode cX10_store 10 = .ok (.ifCond .eq 12, 3) := by decide +kernel
theorem dX10_store_13 : decode cX10_store 13 = .ok (.iload_n 2, 1) := by decide +kernel
theorem dX10_store_14 : decode cX10_store 14 = .ok (.bipush 31, 2) := by decide +kernel
theorem dX10_store_16 : decode cX10_store 16 = .ok (.invokestatic 156, 3) := by decide +kernel
theorem dX10_store_19 : decode cX10_store 19 = .ok (.ifCond .ne 11, 3) := by decide +kernel
theorem dX10_store_22 : decode cX10_store 22 = .ok (.aload_n 0, 1) := by decide +kernel
theorem dX10_store_23 : decode cX10_store 23 = .ok (.iconst 1, 1) := by decide +kernel
theorem dX10_store_24 : decode cX10_store 24 = .ok (.putfield 153, 3) := by decide +kernel
theorem dX10_store_27 : decode cX10_store 27 = .ok (.goto 15, 3) := by decide +kernel
theorem dX10_store_30 : decode cX10_store 30 = .ok (.aload_n 0, 1) := by decide +kernel
theorem dX10_store_31 : decode cX10_store 31 = .ok (.getfield 7, 3) := by decide +kernel
theorem dX10_store_34 : decode cX10_store 34 = .ok (.bipush 32, 2) := by decide +kernel
theorem dX10_store_36 : decode cX10_store 36 = .ok (.iload_n 1, 1) := by decide +kernel
theorem dX10_store_37 : decode cX10_store 37 = .ok (.imul, 1) := by decide +kernel
theorem dX10_store_38 : decode cX10_store 38 = .ok (.iload_n 2, 1) := by decide +kernel
theorem dX10_store_39 : decode cX10_store 39 = .ok (.iadd, 1) := by decide +kernel
theorem dX10_store_40 : decode cX10_store 40 = .ok (.iload_n 3, 1) := by decide +kernel
theorem dX10_store_41 : decode cX10_store 41 = .ok (.iastore, 1) := by decide +kernel
theorem dX10_store_42 : decode cX10_store 42 = .ok (.return_, 1) := by decide +kernel
set_option maxHeartbeats 4000000 in
set_option maxRecDepth 100000 in
theorem c_X10_store (l : Launch) (E : EE) (z0 : Nat) (G : Nat → Nat) (hGz : ∀ q, G q ≠ 0 → z0 ≤ q) (h0 : Nat) (p0 p1 p2 : Int32) (hG : G h0 = 20) : Met l yX10_store [Cond.code yX10_store cX10_store 4 none] ({ frames := 1, cells := 0, slots := 0, locals := 21 } : Room) (va_Pc [.ref h0, .int p0, .int p1, .int p2] (fun U => TH E (T0 E) G [] U.heap ∧ KS E z0 U)) (va_Qv (fun (_ : Unit) => True) (fun _ t => ∃ fs : List Value, va_at (DG E) vwCl (h0, .inr (10, fs)) t.heap ∧ fs[3]? = some (.int (if (0 ≤ p0.toInt ∧ p0.toInt < 2 ∧ 0 ≤ p1.toInt ∧ p1.toInt < 32) then 0 else 1))) (fun q : Nat => G q ≠ 0)) 0 0 (fun q : Nat => G q ≠ 0) := by
  refine Met.ofW (cc := cX10_store) (maxL := 4) (ret := none) (by decide) rfl ?_
  intro p e s m args below meth c s₁ B hml hv
  obtain ⟨rfl, hT, hK⟩ := hv
  have hx := B.exec
  have hb := B.bytes
  have hr := B.returns
  have hts : ∀ w ∈ TS, w.before ([.ref h0, .int p0, .int p1, .int p2] : List Value).toArray s = true := fun w hw => hK.2.1 w hw _
  have hown : s.vm.findClass RX10 = some m.cls := findClass_of_methodNamed B.named
  have hlocks := B.notSynchronized
  have hS : va_S (fun q : Nat => G q ≠ 0) s.heap s.heap [] := va_S.rf
  have hAz : ∀ q, (fun q : Nat => G q ≠ 0) q → z0 ≤ q := hGz
  have hl := lv_entry ([.ref h0, .int p0, .int p1, .int p2]) (n := 4) (Nat.le_of_ble_eq_true rfl)
  rw [lg_entry_eq]
  generalize (lg_sl ([.ref h0, .int p0, .int p1, .int p2]) ++ List.replicate (4 - (lg_sl ([.ref h0, .int p0, .int p1, .int p2])).length) Slot.unset).toArray = ls at hl ⊢
  have hl : lv_has ls 4 [(0, .ref h0), (1, .int p0), (2, .int p1), (3, .int p2)] := hl
  refine lv_aload_n hx hb dX10_store_0 rfl (lv_at hl 0 rfl) ?_
  refine lv_iconst (v := 0) hx hb dX10_store_1 (by decide) ?_
  obtain ⟨t0_1, t1_1, t2_1, r_1, ha_1, hg_1⟩ := tg_20 hT hG nx_0
  refine rr_put (D := DG E) (ci := 10) (v := .int 0) (ty := .int) (C := RX10) (T := TX10) (N := 49) hx hb hts iw_X10 tyX10 tyX10_ok nmX10 hown hK.1 ha_1 hS (by show G h0 ≠ 0; rw [hG]; decide) rfl 3 (by decide) (hts _ fl_X10_153) (fun _ h9 => h9) rfl (by decide +kernel) rfl rfl (Nat.le_of_ble_eq_true rfl) dX10_store_2 (fun H locs hn ho hz hS => ?_)
  have hr_2 : va_at (DG E) vwCl (h0, .inr (10, mfs t0_1 t1_1 t2_1 0 r_1 0)) H := hn
  have hT : TH E (T0 E) G [] H := hT.set hG (show T0 E G 20 _ from ⟨t0_1, t1_1, t2_1, r_1, rfl, hg_1⟩) hr_2 ho
  refine lv_iload_n hx hb dX10_store_5 rfl (lv_at hl 1 rfl) ?_
  refine lv_iconst (v := 1) hx hb dX10_store_6 (by decide) ?_
  refine W.callR (W.runS (As := [.int p0, .int 1]) (rest := []) ⟨hx, hb, hml, hown, hts⟩ (c_X10_within l p0 1) (cwS 2 hts (gdS ml_X10_156 st_X10_within in_X10 co_X10_within rfl) rfl rfl rfl (by decide +kernel) ⟨Nat.le_of_ble_eq_true rfl, Nat.le_of_ble_eq_true rfl⟩) preEq rfl rfl hl.1 rfl (lv_room (Nat.le_of_ble_eq_true rfl)) dX10_store_7 ⟨Nat.le_of_ble_eq_true rfl, Nat.le_of_ble_eq_true rfl⟩) ?_
  refine W.eq (g2 := F0 m 10 ls [.int (bI (0 ≤ p0.toInt ∧ p0.toInt ≤ (1 : Int32).toInt))]) (by rfl) ?_
  refine lv_if_eq (tgt := 22) hx hb dX10_store_10 (by decide) (fun c_3 => ?_) (fun c_3 => ?_)
  · have c_3 := bI_0 c_3
    try simp only [lt_I, le_I, eq_I, i_0, i_1, i_2, i_3, i_4, i_5, i_6, i_7, i_8, i_10, i_12, i_16, i_20, i_23, i_24, i_31, i_32, i_63, i_64, i_m1] at c_3
    refine lv_aload_n hx hb dX10_store_22 rfl (lv_at hl 0 rfl) ?_
    refine lv_iconst (v := 1) hx hb dX10_store_23 (by decide) ?_
    obtain ⟨t0_4, t1_4, t2_4, r_4, ha_4, hg_4⟩ := tg_20 hT hG nx_0
    refine rr_put (D := DG E) (ci := 10) (v := .int 1) (ty := .int) (C := RX10) (T := TX10) (N := 49) hx hb hts iw_X10 tyX10 tyX10_ok nmX10 hown hK.1 ha_4 hS (by show G h0 ≠ 0; rw [hG]; decide) rfl 3 (by decide) (hts _ fl_X10_153) (fun _ h9 => h9) rfl (by decide +kernel) rfl rfl (Nat.le_of_ble_eq_true rfl) dX10_store_24 (fun H locs hn ho hz hS => ?_)
    have hr_5 : va_at (DG E) vwCl (h0, .inr (10, mfs t0_4 t1_4 t2_4 1 r_4 0)) H := hn
    have hT : TH E (T0 E) G [h0] H := hT.keptx (fun q hq => List.mem_append_left [h0] hq) (fun q _ hq => ho q (fun e => hq (by rw [e]; simp)))
    refine lv_goto (tgt := 42) hx hb dX10_store_27 (by decide) ?_
    exact W.vret hx hb hr (fun t ht hW => ⟨⟨(), rfl, trivial, ⟨_, (by show va_at _ _ _ t.heap; rw [ht]; exact hr_5), (by rw [if_neg (by omega)]; exact rfl)⟩⟩, hS.F ht⟩) hS.2.2 dX10_store_42
  · have c_3 := bI_n c_3
    try simp only [lt_I, le_I, eq_I, i_0, i_1, i_2, i_3, i_4, i_5, i_6, i_7, i_8, i_10, i_12, i_16, i_20, i_23, i_24, i_31, i_32, i_63, i_64, i_m1] at c_3
    refine lv_iload_n hx hb dX10_store_13 rfl (lv_at hl 2 rfl) ?_
    refine lv_bipush (v := 31) hx hb dX10_store_14 (by decide) ?_
    refine W.callR (W.runS (As := [.int p1, .int 31]) (rest := []) ⟨hx, hb, hml, hown, hts⟩ (c_X10_within l p1 31) (cwS 2 hts (gdS ml_X10_156 st_X10_within in_X10 co_X10_within rfl) rfl rfl rfl (by decide +kernel) ⟨Nat.le_of_ble_eq_true rfl, Nat.le_of_ble_eq_true rfl⟩) preEq rfl rfl hl.1 rfl (lv_room (Nat.le_of_ble_eq_true rfl)) dX10_store_16 ⟨Nat.le_of_ble_eq_true rfl, Nat.le_of_ble_eq_true rfl⟩) ?_
    refine W.eq (g2 := F0 m 19 ls [.int (bI (0 ≤ p1.toInt ∧ p1.toInt ≤ (31 : Int32).toInt))]) (by rfl) ?_
    refine lv_if_ne (tgt := 30) hx hb dX10_store_19 (by decide) (fun c_6 => ?_) (fun c_6 => ?_)
    · have c_6 := bI_n c_6
      try simp only [lt_I, le_I, eq_I, i_0, i_1, i_2, i_3, i_4, i_5, i_6, i_7, i_8, i_10, i_12, i_16, i_20, i_23, i_24, i_31, i_32, i_63, i_64, i_m1] at c_6
      refine lv_aload_n hx hb dX10_store_30 rfl (lv_at hl 0 rfl) ?_
      obtain ⟨t0_7, t1_7, t2_7, r_7, ha_7, hg_7⟩ := tg_20 hT hG nx_0
      refine va_get (D := DG E) (ci := 10) (v := .ref (r_7 4)) (C := RX10) (T := TX10) (N := 49) hx hb hts iw_X10 hown hK.1 (va_one ha_7) 0 rfl rfl 4 (by decide) (hts _ fl_X10_7) (fun _ h9 => h9) rfl dX10_store_31 ?_
      refine lv_bipush (v := 32) hx hb dX10_store_34 (by decide) ?_
      refine lv_iload_n hx hb dX10_store_36 rfl (lv_at hl 1 rfl) ?_
      refine lv_imul hx hb dX10_store_37 ?_
      refine lv_iload_n hx hb dX10_store_38 rfl (lv_at hl 2 rfl) ?_
      refine lv_iadd hx hb dX10_store_39 ?_
      refine lv_iload_n hx hb dX10_store_40 rfl (lv_at hl 3 rfl) ?_
      have ha_8 : va_at (DG E) vwCl ((r_7 4), .inl (E.2.2 0, 64, .inl (fun _ => 0))) _ := tg_arr (j := 4) hT (hg_7 4 (by decide) (by decide) (by decide)) nx_0
      have fm_9 : (32 * p0 : Int32).toInt = 32 * p0.toInt := s_mulK (K := 32) i_32 (by omega) (by omega)
      have fa_9 : (32 * p0 + p1 : Int32).toInt = (32 * p0 : Int32).toInt + p1.toInt := s_add (by omega) (by omega)
      refine rr_iast (D := DG E) hx hb hK.1 0 ha_8 hS (by show G (r_7 4) ≠ 0; rw [(hg_7 4 (by decide) (by decide) (by decide))]; decide) rfl (show vp_in ((32 * p0) + p1) 64 from vp_in_iff.mpr (by omega)) dX10_store_41 (fun H locs hn ho hz hS => ?_)
      have hr_10 : va_at (DG E) vwCl ((r_7 4), .inl (E.2.2 0, 64, .inl (upd (fun _ => 0) (((32 * p0) + p1) : Int32).toNatClampNeg p2))) H := hn
      have hT : TH E (T0 E) G [(r_7 4)] H := hT.keptx (fun q hq => List.mem_append_left [(r_7 4)] hq) (fun q _ hq => ho q (fun e => hq (by rw [e]; simp)))
      obtain ⟨t0_11, t1_11, t2_11, r_11, ha_11, hg_11⟩ := tg_20 hT hG (nx_1 (ne_G hG (hg_7 4 (by decide) (by decide) (by decide)) (by decide)) nx_0)
      exact W.vret hx hb hr (fun t ht hW => ⟨⟨(), rfl, trivial, ⟨_, (by show va_at _ _ _ t.heap; rw [ht]; exact ha_11), (by rw [if_pos (by omega)]; exact rfl)⟩⟩, hS.F ht⟩) hS.2.2 dX10_store_42
    · have c_6 := bI_0 c_6
      try simp only [lt_I, le_I, eq_I, i_0, i_1, i_2, i_3, i_4, i_5, i_6, i_7, i_8, i_10, i_12, i_16, i_20, i_23, i_24, i_31, i_32, i_63, i_64, i_m1] at c_6
      refine lv_aload_n hx hb dX10_store_22 rfl (lv_at hl 0 rfl) ?_
      refine lv_iconst (v := 1) hx hb dX10_store_23 (by decide) ?_
      obtain ⟨t0_12, t1_12, t2_12, r_12, ha_12, hg_12⟩ := tg_20 hT hG nx_0
      refine rr_put (D := DG E) (ci := 10) (v := .int 1) (ty := .int) (C := RX10) (T := TX10) (N := 49) hx hb hts iw_X10 tyX10 tyX10_ok nmX10 hown hK.1 ha_12 hS (by show G h0 ≠ 0; rw [hG]; decide) rfl 3 (by decide) (hts _ fl_X10_153) (fun _ h9 => h9) rfl (by decide +kernel) rfl rfl (Nat.le_of_ble_eq_true rfl) dX10_store_24 (fun H locs hn ho hz hS => ?_)
      have hr_13 : va_at (DG E) vwCl (h0, .inr (10, mfs t0_12 t1_12 t2_12 1 r_12 0)) H := hn
      have hT : TH E (T0 E) G [h0] H := hT.keptx (fun q hq => List.mem_append_left [h0] hq) (fun q _ hq => ho q (fun e => hq (by rw [e]; simp)))
      refine lv_goto (tgt := 42) hx hb dX10_store_27 (by decide) ?_
      exact W.vret hx hb hr (fun t ht hW => ⟨⟨(), rfl, trivial, ⟨_, (by show va_at _ _ _ t.heap; rw [ht]; exact hr_13), (by rw [if_neg (by omega)]; exact rfl)⟩⟩, hS.F ht⟩) hS.2.2 dX10_store_42
theorem dX10_cell_0 : decode cX10_cell 0 = .ok (.aload_n 0, 1) := by decide +kernel
theorem dX10_cell_1 : decode cX10_cell 1 = .ok (.iconst 0, 1) := by decide +kernel
theorem dX10_cell_2 : decode cX10_cell 2 = .ok (.putfield 153, 3) := by decide +kernel
theorem dX10_cell_5 : decode cX10_cell 5 = .ok (.iload_n 1, 1) := by decide +kernel
theorem dX10_cell_6 : decode cX10_cell 6 = .ok (.iconst 1, 1) := by decide +kernel
theorem dX10_cell_7 : decode cX10_cell 7 = .ok (.invokestatic 156, 3) := by decide +kernel
theorem dX10_cell_10 : decode cX10_cell 10 = .ok (.ifCond .eq 26, 3) := by decide +kernel
theorem dX10_cell_13 : decode cX10_cell 13 = .ok (.iload_n 2, 1) := by decide +kernel
theorem dX10_cell_14 : decode cX10_cell 14 = .ok (.bipush 31, 2) := by decide +kernel
theorem dX10_cell_16 : decode cX10_cell 16 = .ok (.invokestatic 156, 3) := by decide +kernel
theorem dX10_cell_19 : decode cX10_cell 19 = .ok (.ifCond .eq 17, 3) := by decide +kernel
theorem dX10_cell_22 : decode cX10_cell 22 = .ok (.aload_n 0, 1) := by decide +kernel
theorem dX10_cell_23 : decode cX10_cell 23 = .ok (.getfield 7, 3) := by decide +kernel
theorem dX10_cell_26 : decode cX10_cell 26 = .ok (.bipush 32, 2) := by decide +kernel
theorem dX10_cell_28 : decode cX10_cell 28 = .ok (.iload_n 1, 1) := by decide +kernel
theorem dX10_cell_29 : decode cX10_cell 29 = .ok (.imul, 1) := by decide +kernel
theorem dX10_cell_30 : decode cX10_cell 30 = .ok (.iload_n 2, 1) := by decide +kernel
theorem dX10_cell_31 : decode cX10_cell 31 = .ok (.iadd, 1) := by decide +kernel
theorem dX10_cell_32 : decode cX10_cell 32 = .ok (.iaload, 1) := by decide +kernel
theorem dX10_cell_33 : decode cX10_cell 33 = .ok (.goto 4, 3) := by decide +kernel
theorem dX10_cell_36 : decode cX10_cell 36 = .ok (.iconst 0, 1) := by decide +kernel
theorem dX10_cell_37 : decode cX10_cell 37 = .ok (.ireturn, 1) := by decide +kernel
set_option maxHeartbeats 4000000 in
set_option maxRecDepth 100000 in
theorem c_X10_cell (l : Launch) (E : EE) (z0 : Nat) (G : Nat → Nat) (hGz : ∀ q, G q ≠ 0 → z0 ≤ q) (h0 : Nat) (p0 p1 : Int32) (hG : G h0 = 20) : Met l yX10_cell [Cond.code yX10_cell cX10_cell 3 (some .int)] ({ frames := 1, cells := 0, slots := 0, locals := 21 } : Room) (va_Pc [.ref h0, .int p0, .int p1] (fun U => TH E (T0 E) G [] U.heap ∧ KS E z0 U)) (va_Qi (fun (r : Int32) (_ : Unit) => r = 0) (fun _ _ => True) (fun q : Nat => G q ≠ 0)) 0 0 (fun q : Nat => G q ≠ 0) := by
  refine Met.ofW (cc := cX10_cell) (maxL := 3) (ret := (some .int)) (by decide) rfl ?_
  intro p e s m args below meth c s₁ B hml hv
  obtain ⟨rfl, hT, hK⟩ := hv
  have hx := B.exec
  have hb := B.bytes
  have hr := B.returns
  have hts : ∀ w ∈ TS, w.before ([.ref h0, .int p0, .int p1] : List Value).toArray s = true := fun w hw => hK.2.1 w hw _
  have hown : s.vm.findClass RX10 = some m.cls := findClass_of_methodNamed B.named
  have hlocks := B.notSynchronized
  have hS : va_S (fun q : Nat => G q ≠ 0) s.heap s.heap [] := va_S.rf
  have hAz : ∀ q, (fun q : Nat => G q ≠ 0) q → z0 ≤ q := hGz
  have hl := lv_entry ([.ref h0, .int p0, .int p1]) (n := 3) (Nat.le_of_ble_eq_true rfl)
  rw [lg_entry_eq]
  generalize (lg_sl ([.ref h0, .int p0, .int p1]) ++ List.replicate (3 - (lg_sl ([.ref h0, .int p0, .int p1])).length) Slot.unset).toArray = ls at hl ⊢
  have hl : lv_has ls 3 [(0, .ref h0), (1, .int p0), (2, .int p1)] := hl
  refine lv_aload_n hx hb dX10_cell_0 rfl (lv_at hl 0 rfl) ?_
  refine lv_iconst (v := 0) hx hb dX10_cell_1 (by decide) ?_
  obtain ⟨t0_1, t1_1, t2_1, r_1, ha_1, hg_1⟩ := tg_20 hT hG nx_0
  refine rr_put (D := DG E) (ci := 10) (v := .int 0) (ty := .int) (C := RX10) (T := TX10) (N := 49) hx hb hts iw_X10 tyX10 tyX10_ok nmX10 hown hK.1 ha_1 hS (by show G h0 ≠ 0; rw [hG]; decide) rfl 3 (by decide) (hts _ fl_X10_153) (fun _ h9 => h9) rfl (by decide +kernel) rfl rfl (Nat.le_of_ble_eq_true rfl) dX10_cell_2 (fun H locs hn ho hz hS => ?_)
  have hr_2 : va_at (DG E) vwCl (h0, .inr (10, mfs t0_1 t1_1 t2_1 0 r_1 0)) H := hn
  have hT : TH E (T0 E) G [] H := hT.set hG (show T0 E G 20 _ from ⟨t0_1, t1_1, t2_1, r_1, rfl, hg_1⟩) hr_2 ho
  refine lv_iload_n hx hb dX10_cell_5 rfl (lv_at hl 1 rfl) ?_
  refine lv_iconst (v := 1) hx hb dX10_cell_6 (by decide) ?_
  refine W.callR (W.runS (As := [.int p0, .int 1]) (rest := []) ⟨hx, hb, hml, hown, hts⟩ (c_X10_within l p0 1) (cwS 2 hts (gdS ml_X10_156 st_X10_within in_X10 co_X10_within rfl) rfl rfl rfl (by decide +kernel) ⟨Nat.le_of_ble_eq_true rfl, Nat.le_of_ble_eq_true rfl⟩) preEq rfl rfl hl.1 rfl (lv_room (Nat.le_of_ble_eq_true rfl)) dX10_cell_7 ⟨Nat.le_of_ble_eq_true rfl, Nat.le_of_ble_eq_true rfl⟩) ?_
  refine W.eq (g2 := F0 m 10 ls [.int (bI (0 ≤ p0.toInt ∧ p0.toInt ≤ (1 : Int32).toInt))]) (by rfl) ?_
  refine lv_if_eq (tgt := 36) hx hb dX10_cell_10 (by decide) (fun c_3 => ?_) (fun c_3 => ?_)
  · have c_3 := bI_0 c_3
    try simp only [lt_I, le_I, eq_I, i_0, i_1, i_2, i_3, i_4, i_5, i_6, i_7, i_8, i_10, i_12, i_16, i_20, i_23, i_24, i_31, i_32, i_63, i_64, i_m1] at c_3
    refine lv_iconst (v := 0) hx hb dX10_cell_36 (by decide) ?_
    exact W.iret (v := 0) hx hb hr (fun t ht hW => ⟨⟨0, (), rfl, rfl, trivial⟩, hS.F ht⟩) hS.2.2 dX10_cell_37
  · have c_3 := bI_n c_3
    try simp only [lt_I, le_I, eq_I, i_0, i_1, i_2, i_3, i_4, i_5, i_6, i_7, i_8, i_10, i_12, i_16, i_20, i_23, i_24, i_31, i_32, i_63, i_64, i_m1] at c_3
    refine lv_iload_n hx hb dX10_cell_13 rfl (lv_at hl 2 rfl) ?_
    refine lv_bipush (v := 31) hx hb dX10_cell_14 (by decide) ?_
    refine W.callR (W.runS (As := [.int p1, .int 31]) (rest := []) ⟨hx, hb, hml, hown, hts⟩ (c_X10_within l p1 31) (cwS 2 hts (gdS ml_X10_156 st_X10_within in_X10 co_X10_within rfl) rfl rfl rfl (by decide +kernel) ⟨Nat.le_of_ble_eq_true rfl, Nat.le_of_ble_eq_true rfl⟩) preEq rfl rfl hl.1 rfl (lv_room (Nat.le_of_ble_eq_true rfl)) dX10_cell_16 ⟨Nat.le_of_ble_eq_true rfl, Nat.le_of_ble_eq_true rfl⟩) ?_
    refine W.eq (g2 := F0 m 19 ls [.int (bI (0 ≤ p1.toInt ∧ p1.toInt ≤ (31 : Int32).toInt))]) (by rfl) ?_
    refine lv_if_eq (tgt := 36) hx hb dX10_cell_19 (by decide) (fun c_4 => ?_) (fun c_4 => ?_)
    · have c_4 := bI_0 c_4
      try simp only [lt_I, le_I, eq_I, i_0, i_1, i_2, i_3, i_4, i_5, i_6, i_7, i_8, i_10, i_12, i_16, i_20, i_23, i_24, i_31, i_32, i_63, i_64, i_m1] at c_4
      refine lv_iconst (v := 0) hx hb dX10_cell_36 (by decide) ?_
      exact W.iret (v := 0) hx hb hr (fun t ht hW => ⟨⟨0, (), rfl, rfl, trivial⟩, hS.F ht⟩) hS.2.2 dX10_cell_37
    · have c_4 := bI_n c_4
      try simp only [lt_I, le_I, eq_I, i_0, i_1, i_2, i_3, i_4, i_5, i_6, i_7, i_8, i_10, i_12, i_16, i_20, i_23, i_24, i_31, i_32, i_63, i_64, i_m1] at c_4
      refine lv_aload_n hx hb dX10_cell_22 rfl (lv_at hl 0 rfl) ?_
      obtain ⟨t0_5, t1_5, t2_5, r_5, ha_5, hg_5⟩ := tg_20 hT hG nx_0
      refine va_get (D := DG E) (ci := 10) (v := .ref (r_5 4)) (C := RX10) (T := TX10) (N := 49) hx hb hts iw_X10 hown hK.1 (va_one ha_5) 0 rfl rfl 4 (by decide) (hts _ fl_X10_7) (fun _ h9 => h9) rfl dX10_cell_23 ?_
      refine lv_bipush (v := 32) hx hb dX10_cell_26 (by decide) ?_
      refine lv_iload_n hx hb dX10_cell_28 rfl (lv_at hl 1 rfl) ?_
      refine lv_imul hx hb dX10_cell_29 ?_
      refine lv_iload_n hx hb dX10_cell_30 rfl (lv_at hl 2 rfl) ?_
      refine lv_iadd hx hb dX10_cell_31 ?_
      have ha_6 : va_at (DG E) vwCl ((r_5 4), .inl (E.2.2 0, 64, .inl (fun _ => 0))) _ := tg_arr (j := 4) hT (hg_5 4 (by decide) (by decide) (by decide)) nx_0
      have fm_7 : (32 * p0 : Int32).toInt = 32 * p0.toInt := s_mulK (K := 32) i_32 (by omega) (by omega)
      have fa_7 : (32 * p0 + p1 : Int32).toInt = (32 * p0 : Int32).toInt + p1.toInt := s_add (by omega) (by omega)
      refine va_iald (D := DG E) hx hb hK.1 (va_one ha_6) 0 0 rfl rfl (show vp_in ((32 * p0) + p1) 64 from vp_in_iff.mpr (by omega)) dX10_cell_32 ?_
      refine W.eq (g2 := F0 m 33 ls [.int 0]) (by rfl) ?_
      refine lv_goto (tgt := 37) hx hb dX10_cell_33 (by decide) ?_
      exact W.iret (v := 0) hx hb hr (fun t ht hW => ⟨⟨0, (), rfl, rfl, trivial⟩, hS.F ht⟩) hS.2.2 dX10_cell_37
theorem dX10_ready_0 : decode cX10_ready 0 = .ok (.aload_n 0, 1) := by decide +kernel
theorem dX10_ready_1 : decode cX10_ready 1 = .ok (.iconst 0, 1) := by decide +kernel
theorem dX10_ready_2 : decode cX10_ready 2 = .ok (.putfield 153, 3) := by decide +kernel
theorem dX10_ready_5 : decode cX10_ready 5 = .ok (.iload_n 1, 1) := by decide +kernel
theorem dX10_ready_6 : decode cX10_ready 6 = .ok (.iconst 3, 1) := by decide +kernel
theorem dX10_ready_7 : decode cX10_ready 7 = .ok (.invokestatic 156, 3) := by decide +kernel
theorem dX10_ready_10 : decode cX10_ready 10 = .ok (.ifCond .eq 21, 3) := by decide +kernel
theorem dX10_ready_13 : decode cX10_ready 13 = .ok (.iload_n 2, 1) := by decide +kernel
theorem dX10_ready_14 : decode cX10_ready 14 = .ok (.bipush 63, 2) := by decide +kernel
theorem dX10_ready_16 : decode cX10_ready 16 = .ok (.invokestatic 156, 3) := by decide +kernel
theorem dX10_ready_19 : decode cX10_ready 19 = .ok (.ifCond .eq 12, 3) := by decide +kernel
theorem dX10_ready_22 : decode cX10_ready 22 = .ok (.iload_n 3, 1) := by decide +kernel
theorem dX10_ready_23 : decode cX10_ready 23 = .ok (.bipush 63, 2) := by decide +kernel
theorem dX10_ready_25 : decode cX10_ready 25 = .ok (.invokestatic 156, 3) := by decide +kernel
theorem dX10_ready_28 : decode cX10_ready 28 = .ok (.ifCond .ne 11, 3) := by decide +kernel
theorem dX10_ready_31 : decode cX10_ready 31 = .ok (.aload_n 0, 1) := by decide +kernel
theorem dX10_ready_32 : decode cX10_ready 32 = .ok (.iconst 1, 1) := by decide +kernel
theorem dX10_ready_33 : decode cX10_ready 33 = .ok (.putfield 153, 3) := by decide +kernel
theorem dX10_ready_36 : decode cX10_ready 36 = .ok (.goto 17, 3) := by decide +kernel
theorem dX10_ready_39 : decode cX10_ready 39 = .ok (.aload_n 0, 1) := by decide +kernel
theorem dX10_ready_40 : decode cX10_ready 40 = .ok (.getfield 28, 3) := by decide +kernel
theorem dX10_ready_43 : decode cX10_ready 43 = .ok (.iload_n 1, 1) := by decide +kernel
theorem dX10_ready_44 : decode cX10_ready 44 = .ok (.iaload, 1) := by decide +kernel
theorem dX10_ready_45 : decode cX10_ready 45 = .ok (.ifCond .eq 8, 3) := by decide +kernel
theorem dX10_ready_48 : decode cX10_ready 48 = .ok (.aload_n 0, 1) := by decide +kernel
theorem dX10_ready_49 : decode cX10_ready 49 = .ok (.iconst 2, 1) := by decide +kernel
theorem dX10_ready_50 : decode cX10_ready 50 = .ok (.putfield 153, 3) := by decide +kernel
theorem dX10_ready_53 : decode cX10_ready 53 = .ok (.aload_n 0, 1) := by decide +kernel
theorem dX10_ready_54 : decode cX10_ready 54 = .ok (.getfield 153, 3) := by decide +kernel
theorem dX10_ready_57 : decode cX10_ready 57 = .ok (.ifCond .eq 4, 3) := by decide +kernel
theorem dX10_ready_60 : decode cX10_ready 60 = .ok (.return_, 1) := by decide +kernel
theorem dX10_ready_61 : decode cX10_ready 61 = .ok (.aload_n 0, 1) := by decide +kernel
theorem dX10_ready_62 : decode cX10_ready 62 = .ok (.getfield 28, 3) := by decide +kernel
theorem dX10_ready_65 : decode cX10_ready 65 = .ok (.iload_n 1, 1) := by decide +kernel
theorem dX10_ready_66 : decode cX10_ready 66 = .ok (.iconst 1, 1) := by decide +kernel
theorem dX10_ready_67 : decode cX10_ready 67 = .ok (.iastore, 1) := by decide +kernel
theorem dX10_ready_68 : decode cX10_ready 68 = .ok (.aload_n 0, 1) := by decide +kernel
theorem dX10_ready_69 : decode cX10_ready 69 = .ok (.getfield 31, 3) := by decide +kernel
theorem dX10_ready_72 : decode cX10_ready 72 = .ok (.iload_n 1, 1) := by decide +kernel
theorem dX10_ready_73 : decode cX10_ready 73 = .ok (.iload_n 2, 1) := by decide +kernel
theorem dX10_ready_74 : decode cX10_ready 74 = .ok (.iastore, 1) := by decide +kernel
theorem dX10_ready_75 : decode cX10_ready 75 = .ok (.aload_n 0, 1) := by decide +kernel
theorem dX10_ready_76 : decode cX10_ready 76 = .ok (.getfield 34, 3) := by decide +kernel
theorem dX10_ready_79 : decode cX10_ready 79 = .ok (.iload_n 1, 1) := by decide +kernel
theorem dX10_ready_80 : decode cX10_ready 80 = .ok (.iload_n 2, 1) := by decide +kernel
theorem dX10_ready_81 : decode cX10_ready 81 = .ok (.iastore, 1) := by decide +kernel
theorem dX10_ready_82 : decode cX10_ready 82 = .ok (.aload_n 0, 1) := by decide +kernel
theorem dX10_ready_83 : decode cX10_ready 83 = .ok (.getfield 37, 3) := by decide +kernel
theorem dX10_ready_86 : decode cX10_ready 86 = .ok (.iload_n 1, 1) := by decide +kernel
theorem dX10_ready_87 : decode cX10_ready 87 = .ok (.iload_n 2, 1) := by decide +kernel
theorem dX10_ready_88 : decode cX10_ready 88 = .ok (.iastore, 1) := by decide +kernel
theorem dX10_ready_89 : decode cX10_ready 89 = .ok (.aload_n 0, 1) := by decide +kernel
theorem dX10_ready_90 : decode cX10_ready 90 = .ok (.getfield 40, 3) := by decide +kernel
theorem dX10_ready_93 : decode cX10_ready 93 = .ok (.iload_n 1, 1) := by decide +kernel
theorem dX10_ready_94 : decode cX10_ready 94 = .ok (.iload_n 3, 1) := by decide +kernel
theorem dX10_ready_95 : decode cX10_ready 95 = .ok (.iastore, 1) := by decide +kernel
theorem dX10_ready_96 : decode cX10_ready 96 = .ok (.return_, 1) := by decide +kernel
set_option maxHeartbeats 4000000 in
set_option maxRecDepth 100000 in
theorem c_X10_ready (l : Launch) (E : EE) (z0 : Nat) (G : Nat → Nat) (hGz : ∀ q, G q ≠ 0 → z0 ≤ q) (h0 : Nat) (p0 p1 p2 : Int32) (hG : G h0 = 20) : Met l yX10_ready [Cond.code yX10_ready cX10_ready 4 none] ({ frames := 1, cells := 0, slots := 0, locals := 21 } : Room) (va_Pc [.ref h0, .int p0, .int p1, .int p2] (fun U => TH E (T0 E) G [] U.heap ∧ KS E z0 U)) (va_Qv (fun (_ : Unit) => True) (fun _ t => ∃ fs : List Value, va_at (DG E) vwCl (h0, .inr (10, fs)) t.heap ∧ fs[3]? = some (.int (if (0 ≤ p0.toInt ∧ p0.toInt < 4 ∧ 0 ≤ p1.toInt ∧ p1.toInt < 64 ∧ 0 ≤ p2.toInt ∧ p2.toInt < 64) then 0 else 1))) (fun q : Nat => G q ≠ 0)) 0 0 (fun q : Nat => G q ≠ 0) := by
  refine Met.ofW (cc := cX10_ready) (maxL := 4) (ret := none) (by decide) rfl ?_
  intro p e s m args below meth c s₁ B hml hv
  obtain ⟨rfl, hT, hK⟩ := hv
  have hx := B.exec
  have hb := B.bytes
  have hr := B.returns
  have hts : ∀ w ∈ TS, w.before ([.ref h0, .int p0, .int p1, .int p2] : List Value).toArray s = true := fun w hw => hK.2.1 w hw _
  have hown : s.vm.findClass RX10 = some m.cls := findClass_of_methodNamed B.named
  have hlocks := B.notSynchronized
  have hS : va_S (fun q : Nat => G q ≠ 0) s.heap s.heap [] := va_S.rf
  have hAz : ∀ q, (fun q : Nat => G q ≠ 0) q → z0 ≤ q := hGz
  have hl := lv_entry ([.ref h0, .int p0, .int p1, .int p2]) (n := 4) (Nat.le_of_ble_eq_true rfl)
  rw [lg_entry_eq]
  generalize (lg_sl ([.ref h0, .int p0, .int p1, .int p2]) ++ List.replicate (4 - (lg_sl ([.ref h0, .int p0, .int p1, .int p2])).length) Slot.unset).toArray = ls at hl ⊢
  have hl : lv_has ls 4 [(0, .ref h0), (1, .int p0), (2, .int p1), (3, .int p2)] := hl
  refine lv_aload_n hx hb dX10_ready_0 rfl (lv_at hl 0 rfl) ?_
  refine lv_iconst (v := 0) hx hb dX10_ready_1 (by decide) ?_
  obtain ⟨t0_1, t1_1, t2_1, r_1, ha_1, hg_1⟩ := tg_20 hT hG nx_0
  refine rr_put (D := DG E) (ci := 10) (v := .int 0) (ty := .int) (C := RX10) (T := TX10) (N := 49) hx hb hts iw_X10 tyX10 tyX10_ok nmX10 hown hK.1 ha_1 hS (by show G h0 ≠ 0; rw [hG]; decide) rfl 3 (by decide) (hts _ fl_X10_153) (fun _ h9 => h9) rfl (by decide +kernel) rfl rfl (Nat.le_of_ble_eq_true rfl) dX10_ready_2 (fun H locs hn ho hz hS => ?_)
  have hr_2 : va_at (DG E) vwCl (h0, .inr (10, mfs t0_1 t1_1 t2_1 0 r_1 0)) H := hn
  have hT : TH E (T0 E) G [] H := hT.set hG (show T0 E G 20 _ from ⟨t0_1, t1_1, t2_1, r_1, rfl, hg_1⟩) hr_2 ho
  refine lv_iload_n hx hb dX10_ready_5 rfl (lv_at hl 1 rfl) ?_
  refine lv_iconst (v := 3) hx hb dX10_ready_6 (by decide) ?_
  refine W.callR (W.runS (As := [.int p0, .int 3]) (rest := []) ⟨hx, hb, hml, hown, hts⟩ (c_X10_within l p0 3) (cwS 2 hts (gdS ml_X10_156 st_X10_within in_X10 co_X10_within rfl) rfl rfl rfl (by decide +kernel) ⟨Nat.le_of_ble_eq_true rfl, Nat.le_of_ble_eq_true rfl⟩) preEq rfl rfl hl.1 rfl (lv_room (Nat.le_of_ble_eq_true rfl)) dX10_ready_7 ⟨Nat.le_of_ble_eq_true rfl, Nat.le_of_ble_eq_true rfl⟩) ?_
  refine W.eq (g2 := F0 m 10 ls [.int (bI (0 ≤ p0.toInt ∧ p0.toInt ≤ (3 : Int32).toInt))]) (by rfl) ?_
  refine lv_if_eq (tgt := 31) hx hb dX10_ready_10 (by decide) (fun c_3 => ?_) (fun c_3 => ?_)
  · have c_3 := bI_0 c_3
    try simp only [lt_I, le_I, eq_I, i_0, i_1, i_2, i_3, i_4, i_5, i_6, i_7, i_8, i_10, i_12, i_16, i_20, i_23, i_24, i_31, i_32, i_63, i_64, i_m1] at c_3
    refine lv_aload_n hx hb dX10_ready_31 rfl (lv_at hl 0 rfl) ?_
    refine lv_iconst (v := 1) hx hb dX10_ready_32 (by decide) ?_
    obtain ⟨t0_4, t1_4, t2_4, r_4, ha_4, hg_4⟩ := tg_20 hT hG nx_0
    refine rr_put (D := DG E) (ci := 10) (v := .int 1) (ty := .int) (C := RX10) (T := TX10) (N := 49) hx hb hts iw_X10 tyX10 tyX10_ok nmX10 hown hK.1 ha_4 hS (by show G h0 ≠ 0; rw [hG]; decide) rfl 3 (by decide) (hts _ fl_X10_153) (fun _ h9 => h9) rfl (by decide +kernel) rfl rfl (Nat.le_of_ble_eq_true rfl) dX10_ready_33 (fun H locs hn ho hz hS => ?_)
    have hr_5 : va_at (DG E) vwCl (h0, .inr (10, mfs t0_4 t1_4 t2_4 1 r_4 0)) H := hn
    have hT : TH E (T0 E) G [h0] H := hT.keptx (fun q hq => List.mem_append_left [h0] hq) (fun q _ hq => ho q (fun e => hq (by rw [e]; simp)))
    refine lv_goto (tgt := 53) hx hb dX10_ready_36 (by decide) ?_
    refine lv_aload_n hx hb dX10_ready_53 rfl (lv_at hl 0 rfl) ?_
    refine va_get (D := DG E) (ci := 10) (v := .int 1) (C := RX10) (T := TX10) (N := 49) hx hb hts iw_X10 hown hK.1 (va_one hr_5) 0 rfl rfl 3 (by decide) (hts _ fl_X10_153) (fun _ h9 => h9) rfl dX10_ready_54 ?_
    refine lv_if_eq (tgt := 61) hx hb dX10_ready_57 (by decide) (fun c_6 => absurd c_6 (by decide)) (fun c_6 => ?_)
    exact W.vret hx hb hr (fun t ht hW => ⟨⟨(), rfl, trivial, ⟨_, (by show va_at _ _ _ t.heap; rw [ht]; exact hr_5), (by rw [if_neg (by omega)]; exact rfl)⟩⟩, hS.F ht⟩) hS.2.2 dX10_ready_60
  · have c_3 := bI_n c_3
    try simp only [lt_I, le_I, eq_I, i_0, i_1, i_2, i_3, i_4, i_5, i_6, i_7, i_8, i_10, i_12, i_16, i_20, i_23, i_24, i_31, i_32, i_63, i_64, i_m1] at c_3
    refine lv_iload_n hx hb dX10_ready_13 rfl (lv_at hl 2 rfl) ?_
    refine lv_bipush (v := 63) hx hb dX10_ready_14 (by decide) ?_
    refine W.callR (W.runS (As := [.int p1, .int 63]) (rest := []) ⟨hx, hb, hml, hown, hts⟩ (c_X10_within l p1 63) (cwS 2 hts (gdS ml_X10_156 st_X10_within in_X10 co_X10_within rfl) rfl rfl rfl (by decide +kernel) ⟨Nat.le_of_ble_eq_true rfl, Nat.le_of_ble_eq_true rfl⟩) preEq rfl rfl hl.1 rfl (lv_room (Nat.le_of_ble_eq_true rfl)) dX10_ready_16 ⟨Nat.le_of_ble_eq_true rfl, Nat.le_of_ble_eq_true rfl⟩) ?_
    refine W.eq (g2 := F0 m 19 ls [.int (bI (0 ≤ p1.toInt ∧ p1.toInt ≤ (63 : Int32).toInt))]) (by rfl) ?_
    refine lv_if_eq (tgt := 31) hx hb dX10_ready_19 (by decide) (fun c_7 => ?_) (fun c_7 => ?_)
    · have c_7 := bI_0 c_7
      try simp only [lt_I, le_I, eq_I, i_0, i_1, i_2, i_3, i_4, i_5, i_6, i_7, i_8, i_10, i_12, i_16, i_20, i_23, i_24, i_31, i_32, i_63, i_64, i_m1] at c_7
      refine lv_aload_n hx hb dX10_ready_31 rfl (lv_at hl 0 rfl) ?_
      refine lv_iconst (v := 1) hx hb dX10_ready_32 (by decide) ?_
      obtain ⟨t0_8, t1_8, t2_8, r_8, ha_8, hg_8⟩ := tg_20 hT hG nx_0
      refine rr_put (D := DG E) (ci := 10) (v := .int 1) (ty := .int) (C := RX10) (T := TX10) (N := 49) hx hb hts iw_X10 tyX10 tyX10_ok nmX10 hown hK.1 ha_8 hS (by show G h0 ≠ 0; rw [hG]; decide) rfl 3 (by decide) (hts _ fl_X10_153) (fun _ h9 => h9) rfl (by decide +kernel) rfl rfl (Nat.le_of_ble_eq_true rfl) dX10_ready_33 (fun H locs hn ho hz hS => ?_)
      have hr_9 : va_at (DG E) vwCl (h0, .inr (10, mfs t0_8 t1_8 t2_8 1 r_8 0)) H := hn
      have hT : TH E (T0 E) G [h0] H := hT.keptx (fun q hq => List.mem_append_left [h0] hq) (fun q _ hq => ho q (fun e => hq (by rw [e]; simp)))
      refine lv_goto (tgt := 53) hx hb dX10_ready_36 (by decide) ?_
      refine lv_aload_n hx hb dX10_ready_53 rfl (lv_at hl 0 rfl) ?_
      refine va_get (D := DG E) (ci := 10) (v := .int 1) (C := RX10) (T := TX10) (N := 49) hx hb hts iw_X10 hown hK.1 (va_one hr_9) 0 rfl rfl 3 (by decide) (hts _ fl_X10_153) (fun _ h9 => h9) rfl dX10_ready_54 ?_
      refine lv_if_eq (tgt := 61) hx hb dX10_ready_57 (by decide) (fun c_10 => absurd c_10 (by decide)) (fun c_10 => ?_)
      exact W.vret hx hb hr (fun t ht hW => ⟨⟨(), rfl, trivial, ⟨_, (by show va_at _ _ _ t.heap; rw [ht]; exact hr_9), (by rw [if_neg (by omega)]; exact rfl)⟩⟩, hS.F ht⟩) hS.2.2 dX10_ready_60
    · have c_7 := bI_n c_7
      try simp only [lt_I, le_I, eq_I, i_0, i_1, i_2, i_3, i_4, i_5, i_6, i_7, i_8, i_10, i_12, i_16, i_20, i_23, i_24, i_31, i_32, i_63, i_64, i_m1] at c_7
      refine lv_iload_n hx hb dX10_ready_22 rfl (lv_at hl 3 rfl) ?_
      refine lv_bipush (v := 63) hx hb dX10_ready_23 (by decide) ?_
      refine W.callR (W.runS (As := [.int p2, .int 63]) (rest := []) ⟨hx, hb, hml, hown, hts⟩ (c_X10_within l p2 63) (cwS 2 hts (gdS ml_X10_156 st_X10_within in_X10 co_X10_within rfl) rfl rfl rfl (by decide +kernel) ⟨Nat.le_of_ble_eq_true rfl, Nat.le_of_ble_eq_true rfl⟩) preEq rfl rfl hl.1 rfl (lv_room (Nat.le_of_ble_eq_true rfl)) dX10_ready_25 ⟨Nat.le_of_ble_eq_true rfl, Nat.le_of_ble_eq_true rfl⟩) ?_
      refine W.eq (g2 := F0 m 28 ls [.int (bI (0 ≤ p2.toInt ∧ p2.toInt ≤ (63 : Int32).toInt))]) (by rfl) ?_
      refine lv_if_ne (tgt := 39) hx hb dX10_ready_28 (by decide) (fun c_11 => ?_) (fun c_11 => ?_)
      · have c_11 := bI_n c_11
        try simp only [lt_I, le_I, eq_I, i_0, i_1, i_2, i_3, i_4, i_5, i_6, i_7, i_8, i_10, i_12, i_16, i_20, i_23, i_24, i_31, i_32, i_63, i_64, i_m1] at c_11
        refine lv_aload_n hx hb dX10_ready_39 rfl (lv_at hl 0 rfl) ?_
        obtain ⟨t0_12, t1_12, t2_12, r_12, ha_12, hg_12⟩ := tg_20 hT hG nx_0
        refine va_get (D := DG E) (ci := 10) (v := .ref (r_12 10)) (C := RX10) (T := TX10) (N := 49) hx hb hts iw_X10 hown hK.1 (va_one ha_12) 0 rfl rfl 10 (by decide) (hts _ fl_X10_28) (fun _ h9 => h9) rfl dX10_ready_40 ?_
        refine lv_iload_n hx hb dX10_ready_43 rfl (lv_at hl 1 rfl) ?_
        have ha_13 : va_at (DG E) vwCl ((r_12 10), .inl (E.2.2 0, 4, .inl (fun _ => 0))) _ := tg_arr (j := 10) hT (hg_12 10 (by decide) (by decide) (by decide)) nx_0
        refine va_iald (D := DG E) hx hb hK.1 (va_one ha_13) 0 0 rfl rfl (show vp_in p0 4 from vp_in_iff.mpr (by omega)) dX10_ready_44 ?_
        refine W.eq (g2 := F0 m 45 ls [.int 0]) (by rfl) ?_
        refine lv_if_eq (tgt := 53) hx hb dX10_ready_45 (by decide) (fun c_14 => ?_) (fun c_14 => absurd c_14 (by decide))
        refine lv_aload_n hx hb dX10_ready_53 rfl (lv_at hl 0 rfl) ?_
        obtain ⟨t0_15, t1_15, t2_15, r_15, ha_15, hg_15⟩ := tg_20 hT hG nx_0
        refine va_get (D := DG E) (ci := 10) (v := .int 0) (C := RX10) (T := TX10) (N := 49) hx hb hts iw_X10 hown hK.1 (va_one ha_15) 0 rfl rfl 3 (by decide) (hts _ fl_X10_153) (fun _ h9 => h9) rfl dX10_ready_54 ?_
        refine lv_if_eq (tgt := 61) hx hb dX10_ready_57 (by decide) (fun c_16 => ?_) (fun c_16 => absurd c_16 (by decide))
        refine lv_aload_n hx hb dX10_ready_61 rfl (lv_at hl 0 rfl) ?_
        obtain ⟨t0_17, t1_17, t2_17, r_17, ha_17, hg_17⟩ := tg_20 hT hG nx_0
        refine va_get (D := DG E) (ci := 10) (v := .ref (r_17 10)) (C := RX10) (T := TX10) (N := 49) hx hb hts iw_X10 hown hK.1 (va_one ha_17) 0 rfl rfl 10 (by decide) (hts _ fl_X10_28) (fun _ h9 => h9) rfl dX10_ready_62 ?_
        refine lv_iload_n hx hb dX10_ready_65 rfl (lv_at hl 1 rfl) ?_
        refine lv_iconst (v := 1) hx hb dX10_ready_66 (by decide) ?_
        have ha_18 : va_at (DG E) vwCl ((r_17 10), .inl (E.2.2 0, 4, .inl (fun _ => 0))) _ := tg_arr (j := 10) hT (hg_17 10 (by decide) (by decide) (by decide)) nx_0
        refine rr_iast (D := DG E) hx hb hK.1 0 ha_18 hS (by show G (r_17 10) ≠ 0; rw [(hg_17 10 (by decide) (by decide) (by decide))]; decide) rfl (show vp_in p0 4 from vp_in_iff.mpr (by omega)) dX10_ready_67 (fun H locs hn ho hz hS => ?_)
        have hr_19 : va_at (DG E) vwCl ((r_17 10), .inl (E.2.2 0, 4, .inl (upd (fun _ => 0) (p0 : Int32).toNatClampNeg 1))) H := hn
        have hT : TH E (T0 E) G [(r_17 10)] H := hT.keptx (fun q hq => List.mem_append_left [(r_17 10)] hq) (fun q _ hq => ho q (fun e => hq (by rw [e]; simp)))
        refine lv_aload_n hx hb dX10_ready_68 rfl (lv_at hl 0 rfl) ?_
        obtain ⟨t0_20, t1_20, t2_20, r_20, ha_20, hg_20⟩ := tg_20 hT hG (nx_1 (ne_G hG (hg_17 10 (by decide) (by decide) (by decide)) (by decide)) nx_0)
        refine va_get (D := DG E) (ci := 10) (v := .ref (r_20 11)) (C := RX10) (T := TX10) (N := 49) hx hb hts iw_X10 hown hK.1 (va_one ha_20) 0 rfl rfl 11 (by decide) (hts _ fl_X10_31) (fun _ h9 => h9) rfl dX10_ready_69 ?_
        refine lv_iload_n hx hb dX10_ready_72 rfl (lv_at hl 1 rfl) ?_
        refine lv_iload_n hx hb dX10_ready_73 rfl (lv_at hl 2 rfl) ?_
        have ha_21 : va_at (DG E) vwCl ((r_20 11), .inl (E.2.2 0, 4, .inl (fun _ => 0))) _ := tg_arr (j := 11) hT (hg_20 11 (by decide) (by decide) (by decide)) (nx_1 (ne_G (hg_20 11 (by decide) (by decide) (by decide)) (hg_17 10 (by decide) (by decide) (by decide)) (by decide)) nx_0)
        refine rr_iast (D := DG E) hx hb hK.1 0 ha_21 hS (by show G (r_20 11) ≠ 0; rw [(hg_20 11 (by decide) (by decide) (by decide))]; decide) rfl (show vp_in p0 4 from vp_in_iff.mpr (by omega)) dX10_ready_74 (fun H locs hn ho hz hS => ?_)
        have hr_22 : va_at (DG E) vwCl ((r_20 11), .inl (E.2.2 0, 4, .inl (upd (fun _ => 0) (p0 : Int32).toNatClampNeg p1))) H := hn
        have hr_19 := hr_19.kept (ho _ (ne_G (hg_17 10 (by decide) (by decide) (by decide)) (hg_20 11 (by decide) (by decide) (by decide)) (by decide)))
        have hT : TH E (T0 E) G [(r_17 10), (r_20 11)] H := hT.keptx (fun q hq => List.mem_append_left [(r_20 11)] hq) (fun q _ hq => ho q (fun e => hq (by rw [e]; simp)))
        refine lv_aload_n hx hb dX10_ready_75 rfl (lv_at hl 0 rfl) ?_
        obtain ⟨t0_23, t1_23, t2_23, r_23, ha_23, hg_23⟩ := tg_20 hT hG (nx_1 (ne_G hG (hg_17 10 (by decide) (by decide) (by decide)) (by decide)) (nx_1 (ne_G hG (hg_20 11 (by decide) (by decide) (by decide)) (by decide)) nx_0))
        refine va_get (D := DG E) (ci := 10) (v := .ref (r_23 12)) (C := RX10) (T := TX10) (N := 49) hx hb hts iw_X10 hown hK.1 (va_one ha_23) 0 rfl rfl 12 (by decide) (hts _ fl_X10_34) (fun _ h9 => h9) rfl dX10_ready_76 ?_
        refine lv_iload_n hx hb dX10_ready_79 rfl (lv_at hl 1 rfl) ?_
        refine lv_iload_n hx hb dX10_ready_80 rfl (lv_at hl 2 rfl) ?_
        have ha_24 : va_at (DG E) vwCl ((r_23 12), .inl (E.2.2 0, 4, .inl (fun _ => 0))) _ := tg_arr (j := 12) hT (hg_23 12 (by decide) (by decide) (by decide)) (nx_1 (ne_G (hg_23 12 (by decide) (by decide) (by decide)) (hg_17 10 (by decide) (by decide) (by decide)) (by decide)) (nx_1 (ne_G (hg_23 12 (by decide) (by decide) (by decide)) (hg_20 11 (by decide) (by decide) (by decide)) (by decide)) nx_0))
        refine rr_iast (D := DG E) hx hb hK.1 0 ha_24 hS (by show G (r_23 12) ≠ 0; rw [(hg_23 12 (by decide) (by decide) (by decide))]; decide) rfl (show vp_in p0 4 from vp_in_iff.mpr (by omega)) dX10_ready_81 (fun H locs hn ho hz hS => ?_)
        have hr_25 : va_at (DG E) vwCl ((r_23 12), .inl (E.2.2 0, 4, .inl (upd (fun _ => 0) (p0 : Int32).toNatClampNeg p1))) H := hn
        have hr_19 := hr_19.kept (ho _ (ne_G (hg_17 10 (by decide) (by decide) (by decide)) (hg_23 12 (by decide) (by decide) (by decide)) (by decide)))
        have hr_22 := hr_22.kept (ho _ (ne_G (hg_20 11 (by decide) (by decide) (by decide)) (hg_23 12 (by decide) (by decide) (by decide)) (by decide)))
        have hT : TH E (T0 E) G [(r_17 10), (r_20 11), (r_23 12)] H := hT.keptx (fun q hq => List.mem_append_left [(r_23 12)] hq) (fun q _ hq => ho q (fun e => hq (by rw [e]; simp)))
        refine lv_aload_n hx hb dX10_ready_82 rfl (lv_at hl 0 rfl) ?_
        obtain ⟨t0_26, t1_26, t2_26, r_26, ha_26, hg_26⟩ := tg_20 hT hG (nx_1 (ne_G hG (hg_17 10 (by decide) (by decide) (by decide)) (by decide)) (nx_1 (ne_G hG (hg_20 11 (by decide) (by decide) (by decide)) (by decide)) (nx_1 (ne_G hG (hg_23 12 (by decide) (by decide) (by decide)) (by decide)) nx_0)))
        refine va_get (D := DG E) (ci := 10) (v := .ref (r_26 13)) (C := RX10) (T := TX10) (N := 49) hx hb hts iw_X10 hown hK.1 (va_one ha_26) 0 rfl rfl 13 (by decide) (hts _ fl_X10_37) (fun _ h9 => h9) rfl dX10_ready_83 ?_
        refine lv_iload_n hx hb dX10_ready_86 rfl (lv_at hl 1 rfl) ?_
        refine lv_iload_n hx hb dX10_ready_87 rfl (lv_at hl 2 rfl) ?_
        have ha_27 : va_at (DG E) vwCl ((r_26 13), .inl (E.2.2 0, 4, .inl (fun _ => 0))) _ := tg_arr (j := 13) hT (hg_26 13 (by decide) (by decide) (by decide)) (nx_1 (ne_G (hg_26 13 (by decide) (by decide) (by decide)) (hg_17 10 (by decide) (by decide) (by decide)) (by decide)) (nx_1 (ne_G (hg_26 13 (by decide) (by decide) (by decide)) (hg_20 11 (by decide) (by decide) (by decide)) (by decide)) (nx_1 (ne_G (hg_26 13 (by decide) (by decide) (by decide)) (hg_23 12 (by decide) (by decide) (by decide)) (by decide)) nx_0)))
        refine rr_iast (D := DG E) hx hb hK.1 0 ha_27 hS (by show G (r_26 13) ≠ 0; rw [(hg_26 13 (by decide) (by decide) (by decide))]; decide) rfl (show vp_in p0 4 from vp_in_iff.mpr (by omega)) dX10_ready_88 (fun H locs hn ho hz hS => ?_)
        have hr_28 : va_at (DG E) vwCl ((r_26 13), .inl (E.2.2 0, 4, .inl (upd (fun _ => 0) (p0 : Int32).toNatClampNeg p1))) H := hn
        have hr_19 := hr_19.kept (ho _ (ne_G (hg_17 10 (by decide) (by decide) (by decide)) (hg_26 13 (by decide) (by decide) (by decide)) (by decide)))
        have hr_22 := hr_22.kept (ho _ (ne_G (hg_20 11 (by decide) (by decide) (by decide)) (hg_26 13 (by decide) (by decide) (by decide)) (by decide)))
        have hr_25 := hr_25.kept (ho _ (ne_G (hg_23 12 (by decide) (by decide) (by decide)) (hg_26 13 (by decide) (by decide) (by decide)) (by decide)))
        have hT : TH E (T0 E) G [(r_17 10), (r_20 11), (r_23 12), (r_26 13)] H := hT.keptx (fun q hq => List.mem_append_left [(r_26 13)] hq) (fun q _ hq => ho q (fun e => hq (by rw [e]; simp)))
        refine lv_aload_n hx hb dX10_ready_89 rfl (lv_at hl 0 rfl) ?_
        obtain ⟨t0_29, t1_29, t2_29, r_29, ha_29, hg_29⟩ := tg_20 hT hG (nx_1 (ne_G hG (hg_17 10 (by decide) (by decide) (by decide)) (by decide)) (nx_1 (ne_G hG (hg_20 11 (by decide) (by decide) (by decide)) (by decide)) (nx_1 (ne_G hG (hg_23 12 (by decide) (by decide) (by decide)) (by decide)) (nx_1 (ne_G hG (hg_26 13 (by decide) (by decide) (by decide)) (by decide)) nx_0))))
        refine va_get (D := DG E) (ci := 10) (v := .ref (r_29 14)) (C := RX10) (T := TX10) (N := 49) hx hb hts iw_X10 hown hK.1 (va_one ha_29) 0 rfl rfl 14 (by decide) (hts _ fl_X10_40) (fun _ h9 => h9) rfl dX10_ready_90 ?_
        refine lv_iload_n hx hb dX10_ready_93 rfl (lv_at hl 1 rfl) ?_
        refine lv_iload_n hx hb dX10_ready_94 rfl (lv_at hl 3 rfl) ?_
        have ha_30 : va_at (DG E) vwCl ((r_29 14), .inl (E.2.2 0, 4, .inl (fun _ => 0))) _ := tg_arr (j := 14) hT (hg_29 14 (by decide) (by decide) (by decide)) (nx_1 (ne_G (hg_29 14 (by decide) (by decide) (by decide)) (hg_17 10 (by decide) (by decide) (by decide)) (by decide)) (nx_1 (ne_G (hg_29 14 (by decide) (by decide) (by decide)) (hg_20 11 (by decide) (by decide) (by decide)) (by decide)) (nx_1 (ne_G (hg_29 14 (by decide) (by decide) (by decide)) (hg_23 12 (by decide) (by decide) (by decide)) (by decide)) (nx_1 (ne_G (hg_29 14 (by decide) (by decide) (by decide)) (hg_26 13 (by decide) (by decide) (by decide)) (by decide)) nx_0))))
        refine rr_iast (D := DG E) hx hb hK.1 0 ha_30 hS (by show G (r_29 14) ≠ 0; rw [(hg_29 14 (by decide) (by decide) (by decide))]; decide) rfl (show vp_in p0 4 from vp_in_iff.mpr (by omega)) dX10_ready_95 (fun H locs hn ho hz hS => ?_)
        have hr_31 : va_at (DG E) vwCl ((r_29 14), .inl (E.2.2 0, 4, .inl (upd (fun _ => 0) (p0 : Int32).toNatClampNeg p2))) H := hn
        have hr_19 := hr_19.kept (ho _ (ne_G (hg_17 10 (by decide) (by decide) (by decide)) (hg_29 14 (by decide) (by decide) (by decide)) (by decide)))
        have hr_22 := hr_22.kept (ho _ (ne_G (hg_20 11 (by decide) (by decide) (by decide)) (hg_29 14 (by decide) (by decide) (by decide)) (by decide)))
        have hr_25 := hr_25.kept (ho _ (ne_G (hg_23 12 (by decide) (by decide) (by decide)) (hg_29 14 (by decide) (by decide) (by decide)) (by decide)))
        have hr_28 := hr_28.kept (ho _ (ne_G (hg_26 13 (by decide) (by decide) (by decide)) (hg_29 14 (by decide) (by decide) (by decide)) (by decide)))
        have hT : TH E (T0 E) G [(r_17 10), (r_20 11), (r_23 12), (r_26 13), (r_29 14)] H := hT.keptx (fun q hq => List.mem_append_left [(r_29 14)] hq) (fun q _ hq => ho q (fun e => hq (by rw [e]; simp)))
        obtain ⟨t0_32, t1_32, t2_32, r_32, ha_32, hg_32⟩ := tg_20 hT hG (nx_1 (ne_G hG (hg_17 10 (by decide) (by decide) (by decide)) (by decide)) (nx_1 (ne_G hG (hg_20 11 (by decide) (by decide) (by decide)) (by decide)) (nx_1 (ne_G hG (hg_23 12 (by decide) (by decide) (by decide)) (by decide)) (nx_1 (ne_G hG (hg_26 13 (by decide) (by decide) (by decide)) (by decide)) (nx_1 (ne_G hG (hg_29 14 (by decide) (by decide) (by decide)) (by decide)) nx_0)))))
        exact W.vret hx hb hr (fun t ht hW => ⟨⟨(), rfl, trivial, ⟨_, (by show va_at _ _ _ t.heap; rw [ht]; exact ha_32), (by rw [if_pos (by omega)]; exact rfl)⟩⟩, hS.F ht⟩) hS.2.2 dX10_ready_96
      · have c_11 := bI_0 c_11
        try simp only [lt_I, le_I, eq_I, i_0, i_1, i_2, i_3, i_4, i_5, i_6, i_7, i_8, i_10, i_12, i_16, i_20, i_23, i_24, i_31, i_32, i_63, i_64, i_m1] at c_11
        refine lv_aload_n hx hb dX10_ready_31 rfl (lv_at hl 0 rfl) ?_
        refine lv_iconst (v := 1) hx hb dX10_ready_32 (by decide) ?_
        obtain ⟨t0_33, t1_33, t2_33, r_33, ha_33, hg_33⟩ := tg_20 hT hG nx_0
        refine rr_put (D := DG E) (ci := 10) (v := .int 1) (ty := .int) (C := RX10) (T := TX10) (N := 49) hx hb hts iw_X10 tyX10 tyX10_ok nmX10 hown hK.1 ha_33 hS (by show G h0 ≠ 0; rw [hG]; decide) rfl 3 (by decide) (hts _ fl_X10_153) (fun _ h9 => h9) rfl (by decide +kernel) rfl rfl (Nat.le_of_ble_eq_true rfl) dX10_ready_33 (fun H locs hn ho hz hS => ?_)
        have hr_34 : va_at (DG E) vwCl (h0, .inr (10, mfs t0_33 t1_33 t2_33 1 r_33 0)) H := hn
        have hT : TH E (T0 E) G [h0] H := hT.keptx (fun q hq => List.mem_append_left [h0] hq) (fun q _ hq => ho q (fun e => hq (by rw [e]; simp)))
        refine lv_goto (tgt := 53) hx hb dX10_ready_36 (by decide) ?_
        refine lv_aload_n hx hb dX10_ready_53 rfl (lv_at hl 0 rfl) ?_
        refine va_get (D := DG E) (ci := 10) (v := .int 1) (C := RX10) (T := TX10) (N := 49) hx hb hts iw_X10 hown hK.1 (va_one hr_34) 0 rfl rfl 3 (by decide) (hts _ fl_X10_153) (fun _ h9 => h9) rfl dX10_ready_54 ?_
        refine lv_if_eq (tgt := 61) hx hb dX10_ready_57 (by decide) (fun c_35 => absurd c_35 (by decide)) (fun c_35 => ?_)
        exact W.vret hx hb hr (fun t ht hW => ⟨⟨(), rfl, trivial, ⟨_, (by show va_at _ _ _ t.heap; rw [ht]; exact hr_34), (by rw [if_neg (by omega)]; exact rfl)⟩⟩, hS.F ht⟩) hS.2.2 dX10_ready_60
theorem dX10_reset_0 : decode cX10_reset 0 = .ok (.aload_n 0, 1) := by decide +kernel
theorem dX10_reset_1 : decode cX10_reset 1 = .ok (.iconst 0, 1) := by decide +kernel
theorem dX10_reset_2 : decode cX10_reset 2 = .ok (.putfield 153, 3) := by decide +kernel
theorem dX10_reset_5 : decode cX10_reset 5 = .ok (.iload_n 1, 1) := by decide +kernel
theorem dX10_reset_6 : decode cX10_reset 6 = .ok (.iconst 3, 1) := by decide +kernel
theorem dX10_reset_7 : decode cX10_reset 7 = .ok (.invokestatic 156, 3) := by decide +kernel
theorem dX10_reset_10 : decode cX10_reset 10 = .ok (.ifCond .ne 5, 3) := by decide +kernel
theorem dX10_reset_13 : decode cX10_reset 13 = .ok (.iconst 0, 1) := by decide +kernel
theorem dX10_reset_14 : decode cX10_reset 14 = .ok (.ireturn, 1) := by decide +kernel
theorem dX10_reset_15 : decode cX10_reset 15 = .ok (.aload_n 0, 1) := by decide +kernel
theorem dX10_reset_16 : decode cX10_reset 16 = .ok (.getfield 28, 3) := by decide +kernel
theorem dX10_reset_19 : decode cX10_reset 19 = .ok (.iload_n 1, 1) := by decide +kernel
theorem dX10_reset_20 : decode cX10_reset 20 = .ok (.iconst 0, 1) := by decide +kernel
theorem dX10_reset_21 : decode cX10_reset 21 = .ok (.iastore, 1) := by decide +kernel
theorem dX10_reset_22 : decode cX10_reset 22 = .ok (.aload_n 0, 1) := by decide +kernel
theorem dX10_reset_23 : decode cX10_reset 23 = .ok (.getfield 59, 3) := by decide +kernel
theorem dX10_reset_26 : decode cX10_reset 26 = .ok (.iload_n 1, 1) := by decide +kernel
theorem dX10_reset_27 : decode cX10_reset 27 = .ok (.iconst 0, 1) := by decide +kernel
theorem dX10_reset_28 : decode cX10_reset 28 = .ok (.iastore, 1) := by decide +kernel
theorem dX10_reset_29 : decode cX10_reset 29 = .ok (.aload_n 0, 1) := by decide +kernel
theorem dX10_reset_30 : decode cX10_reset 30 = .ok (.getfield 62, 3) := by decide +kernel
theorem dX10_reset_33 : decode cX10_reset 33 = .ok (.iload_n 1, 1) := by decide +kernel
theorem dX10_reset_34 : decode cX10_reset 34 = .ok (.iconst 0, 1) := by decide +kernel
theorem dX10_reset_35 : decode cX10_reset 35 = .ok (.iastore, 1) := by decide +kernel
theorem dX10_reset_36 : decode cX10_reset 36 = .ok (.aload_n 0, 1) := by decide +kernel
theorem dX10_reset_37 : decode cX10_reset 37 = .ok (.getfield 89, 3) := by decide +kernel
theorem dX10_reset_40 : decode cX10_reset 40 = .ok (.iload_n 1, 1) := by decide +kernel
theorem dX10_reset_41 : decode cX10_reset 41 = .ok (.iconst 0, 1) := by decide +kernel
theorem dX10_reset_42 : decode cX10_reset 42 = .ok (.iastore, 1) := by decide +kernel
theorem dX10_reset_43 : decode cX10_reset 43 = .ok (.aload_n 0, 1) := by decide +kernel
theorem dX10_reset_44 : decode cX10_reset 44 = .ok (.getfield 92, 3) := by decide +kernel
theorem dX10_reset_47 : decode cX10_reset 47 = .ok (.iload_n 1, 1) := by decide +kernel
theorem dX10_reset_48 : decode cX10_reset 48 = .ok (.iconst 0, 1) := by decide +kernel
theorem dX10_reset_49 : decode cX10_reset 49 = .ok (.iastore, 1) := by decide +kernel
theorem dX10_reset_50 : decode cX10_reset 50 = .ok (.aload_n 0, 1) := by decide +kernel
theorem dX10_reset_51 : decode cX10_reset 51 = .ok (.getfield 107, 3) := by decide +kernel
theorem dX10_reset_54 : decode cX10_reset 54 = .ok (.iload_n 1, 1) := by decide +kernel
theorem dX10_reset_55 : decode cX10_reset 55 = .ok (.iconst 0, 1) := by decide +kernel
theorem dX10_reset_56 : decode cX10_reset 56 = .ok (.bastore, 1) := by decide +kernel
theorem dX10_reset_57 : decode cX10_reset 57 = .ok (.aload_n 0, 1) := by decide +kernel
theorem dX10_reset_58 : decode cX10_reset 58 = .ok (.getfield 56, 3) := by decide +kernel
theorem dX10_reset_61 : decode cX10_reset 61 = .ok (.iload_n 1, 1) := by decide +kernel
theorem dX10_reset_62 : decode cX10_reset 62 = .ok (.iconst 0, 1) := by decide +kernel
theorem dX10_reset_63 : decode cX10_reset 63 = .ok (.bastore, 1) := by decide +kernel
theorem dX10_reset_64 : decode cX10_reset 64 = .ok (.aload_n 0, 1) := by decide +kernel
theorem dX10_reset_65 : decode cX10_reset 65 = .ok (.getfield 52, 3) := by decide +kernel
theorem dX10_reset_68 : decode cX10_reset 68 = .ok (.iload_n 1, 1) := by decide +kernel
theorem dX10_reset_69 : decode cX10_reset 69 = .ok (.iconst 0, 1) := by decide +kernel
theorem dX10_reset_70 : decode cX10_reset 70 = .ok (.bastore, 1) := by decide +kernel
theorem dX10_reset_71 : decode cX10_reset 71 = .ok (.aload_n 0, 1) := by decide +kernel
theorem dX10_reset_72 : decode cX10_reset 72 = .ok (.getfield 43, 3) := by decide +kernel
theorem dX10_reset_75 : decode cX10_reset 75 = .ok (.iload_n 1, 1) := by decide +kernel
theorem dX10_reset_76 : decode cX10_reset 76 = .ok (.iconst 0, 1) := by decide +kernel
theorem dX10_reset_77 : decode cX10_reset 77 = .ok (.iastore, 1) := by decide +kernel
theorem dX10_reset_78 : decode cX10_reset 78 = .ok (.aload_n 0, 1) := by decide +kernel
theorem dX10_reset_79 : decode cX10_reset 79 = .ok (.getfield 46, 3) := by decide +kernel
theorem dX10_reset_82 : decode cX10_reset 82 = .ok (.iload_n 1, 1) := by decide +kernel
theorem dX10_reset_83 : decode cX10_reset 83 = .ok (.iconst 0, 1) := by decide +kernel
theorem dX10_reset_84 : decode cX10_reset 84 = .ok (.iastore, 1) := by decide +kernel
theorem dX10_reset_85 : decode cX10_reset 85 = .ok (.aload_n 0, 1) := by decide +kernel
theorem dX10_reset_86 : decode cX10_reset 86 = .ok (.getfield 49, 3) := by decide +kernel
theorem dX10_reset_89 : decode cX10_reset 89 = .ok (.iload_n 1, 1) := by decide +kernel
theorem dX10_reset_90 : decode cX10_reset 90 = .ok (.iconst 0, 1) := by decide +kernel
theorem dX10_reset_91 : decode cX10_reset 91 = .ok (.iastore, 1) := by decide +kernel
theorem dX10_reset_92 : decode cX10_reset 92 = .ok (.aload_n 0, 1) := by decide +kernel
theorem dX10_reset_93 : decode cX10_reset 93 = .ok (.getfield 110, 3) := by decide +kernel
theorem dX10_reset_96 : decode cX10_reset 96 = .ok (.iload_n 1, 1) := by decide +kernel
theorem dX10_reset_97 : decode cX10_reset 97 = .ok (.iconst 0, 1) := by decide +kernel
theorem dX10_reset_98 : decode cX10_reset 98 = .ok (.iastore, 1) := by decide +kernel
theorem dX10_reset_99 : decode cX10_reset 99 = .ok (.iconst 1, 1) := by decide +kernel
theorem dX10_reset_100 : decode cX10_reset 100 = .ok (.ireturn, 1) := by decide +kernel
set_option maxHeartbeats 4000000 in
set_option maxRecDepth 100000 in
theorem c_X10_reset (l : Launch) (E : EE) (z0 : Nat) (G : Nat → Nat) (hGz : ∀ q, G q ≠ 0 → z0 ≤ q) (h0 : Nat) (p0 : Int32) (hG : G h0 = 20) : Met l yX10_reset [Cond.code yX10_reset cX10_reset 2 (some .boolean)] ({ frames := 1, cells := 0, slots := 0, locals := 21 } : Room) (va_Pc [.ref h0, .int p0] (fun U => TH E (T0 E) G [] U.heap ∧ KS E z0 U)) (va_Qi (fun (r : Int32) (_ : Unit) => r = bI (0 ≤ p0.toInt ∧ p0.toInt < 4)) (fun _ _ => True) (fun q : Nat => G q ≠ 0)) 0 0 (fun q : Nat => G q ≠ 0) := by
  refine Met.ofW (cc := cX10_reset) (maxL := 2) (ret := (some .boolean)) (by decide) rfl ?_
  intro p e s m args below meth c s₁ B hml hv
  obtain ⟨rfl, hT, hK⟩ := hv
  have hx := B.exec
  have hb := B.bytes
  have hr := B.returns
  have hts : ∀ w ∈ TS, w.before ([.ref h0, .int p0] : List Value).toArray s = true := fun w hw => hK.2.1 w hw _
  have hown : s.vm.findClass RX10 = some m.cls := findClass_of_methodNamed B.named
  have hlocks := B.notSynchronized
  have hS : va_S (fun q : Nat => G q ≠ 0) s.heap s.heap [] := va_S.rf
  have hAz : ∀ q, (fun q : Nat => G q ≠ 0) q → z0 ≤ q := hGz
  have hl := lv_entry ([.ref h0, .int p0]) (n := 2) (Nat.le_of_ble_eq_true rfl)
  rw [lg_entry_eq]
  generalize (lg_sl ([.ref h0, .int p0]) ++ List.replicate (2 - (lg_sl ([.ref h0, .int p0])).length) Slot.unset).toArray = ls at hl ⊢
  have hl : lv_has ls 2 [(0, .ref h0), (1, .int p0)] := hl
  refine lv_aload_n hx hb dX10_reset_0 rfl (lv_at hl 0 rfl) ?_
  refine lv_iconst (v := 0) hx hb dX10_reset_1 (by decide) ?_
  obtain ⟨t0_1, t1_1, t2_1, r_1, ha_1, hg_1⟩ := tg_20 hT hG nx_0
  refine rr_put (D := DG E) (ci := 10) (v := .int 0) (ty := .int) (C := RX10) (T := TX10) (N := 49) hx hb hts iw_X10 tyX10 tyX10_ok nmX10 hown hK.1 ha_1 hS (by show G h0 ≠ 0; rw [hG]; decide) rfl 3 (by decide) (hts _ fl_X10_153) (fun _ h9 => h9) rfl (by decide +kernel) rfl rfl (Nat.le_of_ble_eq_true rfl) dX10_reset_2 (fun H locs hn ho hz hS => ?_)
  have hr_2 : va_at (DG E) vwCl (h0, .inr (10, mfs t0_1 t1_1 t2_1 0 r_1 0)) H := hn
  have hT : TH E (T0 E) G [] H := hT.set hG (show T0 E G 20 _ from ⟨t0_1, t1_1, t2_1, r_1, rfl, hg_1⟩) hr_2 ho
  refine lv_iload_n hx hb dX10_reset_5 rfl (lv_at hl 1 rfl) ?_
  refine lv_iconst (v := 3) hx hb dX10_reset_6 (by decide) ?_
  refine W.callR (W.runS (As := [.int p0, .int 3]) (rest := []) ⟨hx, hb, hml, hown, hts⟩ (c_X10_within l p0 3) (cwS 2 hts (gdS ml_X10_156 st_X10_within in_X10 co_X10_within rfl) rfl rfl rfl (by decide +kernel) ⟨Nat.le_of_ble_eq_true rfl, Nat.le_of_ble_eq_true rfl⟩) preEq rfl rfl hl.1 rfl (lv_room (Nat.le_of_ble_eq_true rfl)) dX10_reset_7 ⟨Nat.le_of_ble_eq_true rfl, Nat.le_of_ble_eq_true rfl⟩) ?_
  refine W.eq (g2 := F0 m 10 ls [.int (bI (0 ≤ p0.toInt ∧ p0.toInt ≤ (3 : Int32).toInt))]) (by rfl) ?_
  refine lv_if_ne (tgt := 15) hx hb dX10_reset_10 (by decide) (fun c_3 => ?_) (fun c_3 => ?_)
  · have c_3 := bI_n c_3
    try simp only [lt_I, le_I, eq_I, i_0, i_1, i_2, i_3, i_4, i_5, i_6, i_7, i_8, i_10, i_12, i_16, i_20, i_23, i_24, i_31, i_32, i_63, i_64, i_m1] at c_3
    refine lv_aload_n hx hb dX10_reset_15 rfl (lv_at hl 0 rfl) ?_
    obtain ⟨t0_4, t1_4, t2_4, r_4, ha_4, hg_4⟩ := tg_20 hT hG nx_0
    refine va_get (D := DG E) (ci := 10) (v := .ref (r_4 10)) (C := RX10) (T := TX10) (N := 49) hx hb hts iw_X10 hown hK.1 (va_one ha_4) 0 rfl rfl 10 (by decide) (hts _ fl_X10_28) (fun _ h9 => h9) rfl dX10_reset_16 ?_
    refine lv_iload_n hx hb dX10_reset_19 rfl (lv_at hl 1 rfl) ?_
    refine lv_iconst (v := 0) hx hb dX10_reset_20 (by decide) ?_
    have ha_5 : va_at (DG E) vwCl ((r_4 10), .inl (E.2.2 0, 4, .inl (fun _ => 0))) _ := tg_arr (j := 10) hT (hg_4 10 (by decide) (by decide) (by decide)) nx_0
    refine rr_iast (D := DG E) hx hb hK.1 0 ha_5 hS (by show G (r_4 10) ≠ 0; rw [(hg_4 10 (by decide) (by decide) (by decide))]; decide) rfl (show vp_in p0 4 from vp_in_iff.mpr (by omega)) dX10_reset_21 (fun H locs hn ho hz hS => ?_)
    have hr_6 : va_at (DG E) vwCl ((r_4 10), .inl (E.2.2 0, 4, .inl (upd (fun _ => 0) (p0 : Int32).toNatClampNeg 0))) H := hn
    have hT : TH E (T0 E) G [(r_4 10)] H := hT.keptx (fun q hq => List.mem_append_left [(r_4 10)] hq) (fun q _ hq => ho q (fun e => hq (by rw [e]; simp)))
    refine lv_aload_n hx hb dX10_reset_22 rfl (lv_at hl 0 rfl) ?_
    obtain ⟨t0_7, t1_7, t2_7, r_7, ha_7, hg_7⟩ := tg_20 hT hG (nx_1 (ne_G hG (hg_4 10 (by decide) (by decide) (by decide)) (by decide)) nx_0)
    refine va_get (D := DG E) (ci := 10) (v := .ref (r_7 20)) (C := RX10) (T := TX10) (N := 49) hx hb hts iw_X10 hown hK.1 (va_one ha_7) 0 rfl rfl 20 (by decide) (hts _ fl_X10_59) (fun _ h9 => h9) rfl dX10_reset_23 ?_
    refine lv_iload_n hx hb dX10_reset_26 rfl (lv_at hl 1 rfl) ?_
    refine lv_iconst (v := 0) hx hb dX10_reset_27 (by decide) ?_
    have ha_8 : va_at (DG E) vwCl ((r_7 20), .inl (E.2.2 0, 4, .inl (fun _ => 0))) _ := tg_arr (j := 20) hT (hg_7 20 (by decide) (by decide) (by decide)) (nx_1 (ne_G (hg_7 20 (by decide) (by decide) (by decide)) (hg_4 10 (by decide) (by decide) (by decide)) (by decide)) nx_0)
    refine rr_iast (D := DG E) hx hb hK.1 0 ha_8 hS (by show G (r_7 20) ≠ 0; rw [(hg_7 20 (by decide) (by decide) (by decide))]; decide) rfl (show vp_in p0 4 from vp_in_iff.mpr (by omega)) dX10_reset_28 (fun H locs hn ho hz hS => ?_)
    have hr_9 : va_at (DG E) vwCl ((r_7 20), .inl (E.2.2 0, 4, .inl (upd (fun _ => 0) (p0 : Int32).toNatClampNeg 0))) H := hn
    have hr_6 := hr_6.kept (ho _ (ne_G (hg_4 10 (by decide) (by decide) (by decide)) (hg_7 20 (by decide) (by decide) (by decide)) (by decide)))
    have hT : TH E (T0 E) G [(r_4 10), (r_7 20)] H := hT.keptx (fun q hq => List.mem_append_left [(r_7 20)] hq) (fun q _ hq => ho q (fun e => hq (by rw [e]; simp)))
    refine lv_aload_n hx hb dX10_reset_29 rfl (lv_at hl 0 rfl) ?_
    obtain ⟨t0_10, t1_10, t2_10, r_10, ha_10, hg_10⟩ := tg_20 hT hG (nx_1 (ne_G hG (hg_4 10 (by decide) (by decide) (by decide)) (by decide)) (nx_1 (ne_G hG (hg_7 20 (by decide) (by decide) (by decide)) (by decide)) nx_0))
    refine va_get (D := DG E) (ci := 10) (v := .ref (r_10 21)) (C := RX10) (T := TX10) (N := 49) hx hb hts iw_X10 hown hK.1 (va_one ha_10) 0 rfl rfl 21 (by decide) (hts _ fl_X10_62) (fun _ h9 => h9) rfl dX10_reset_30 ?_
    refine lv_iload_n hx hb dX10_reset_33 rfl (lv_at hl 1 rfl) ?_
    refine lv_iconst (v := 0) hx hb dX10_reset_34 (by decide) ?_
    have ha_11 : va_at (DG E) vwCl ((r_10 21), .inl (E.2.2 0, 4, .inl (fun _ => 0))) _ := tg_arr (j := 21) hT (hg_10 21 (by decide) (by decide) (by decide)) (nx_1 (ne_G (hg_10 21 (by decide) (by decide) (by decide)) (hg_4 10 (by decide) (by decide) (by decide)) (by decide)) (nx_1 (ne_G (hg_10 21 (by decide) (by decide) (by decide)) (hg_7 20 (by decide) (by decide) (by decide)) (by decide)) nx_0))
    refine rr_iast (D := DG E) hx hb hK.1 0 ha_11 hS (by show G (r_10 21) ≠ 0; rw [(hg_10 21 (by decide) (by decide) (by decide))]; decide) rfl (show vp_in p0 4 from vp_in_iff.mpr (by omega)) dX10_reset_35 (fun H locs hn ho hz hS => ?_)
    have hr_12 : va_at (DG E) vwCl ((r_10 21), .inl (E.2.2 0, 4, .inl (upd (fun _ => 0) (p0 : Int32).toNatClampNeg 0))) H := hn
    have hr_6 := hr_6.kept (ho _ (ne_G (hg_4 10 (by decide) (by decide) (by decide)) (hg_10 21 (by decide) (by decide) (by decide)) (by decide)))
    have hr_9 := hr_9.kept (ho _ (ne_G (hg_7 20 (by decide) (by decide) (by decide)) (hg_10 21 (by decide) (by decide) (by decide)) (by decide)))
    have hT : TH E (T0 E) G [(r_4 10), (r_7 20), (r_10 21)] H := hT.keptx (fun q hq => List.mem_append_left [(r_10 21)] hq) (fun q _ hq => ho q (fun e => hq (by rw [e]; simp)))
    refine lv_aload_n hx hb dX10_reset_36 rfl (lv_at hl 0 rfl) ?_
    obtain ⟨t0_13, t1_13, t2_13, r_13, ha_13, hg_13⟩ := tg_20 hT hG (nx_1 (ne_G hG (hg_4 10 (by decide) (by decide) (by decide)) (by decide)) (nx_1 (ne_G hG (hg_7 20 (by decide) (by decide) (by decide)) (by decide)) (nx_1 (ne_G hG (hg_10 21 (by decide) (by decide) (by decide)) (by decide)) nx_0)))
    refine va_get (D := DG E) (ci := 10) (v := .ref (r_13 30)) (C := RX10) (T := TX10) (N := 49) hx hb hts iw_X10 hown hK.1 (va_one ha_13) 0 rfl rfl 30 (by decide) (hts _ fl_X10_89) (fun _ h9 => h9) rfl dX10_reset_37 ?_
    refine lv_iload_n hx hb dX10_reset_40 rfl (lv_at hl 1 rfl) ?_
    refine lv_iconst (v := 0) hx hb dX10_reset_41 (by decide) ?_
    have ha_14 : va_at (DG E) vwCl ((r_13 30), .inl (E.2.2 0, 4, .inl (fun _ => 0))) _ := tg_arr (j := 30) hT (hg_13 30 (by decide) (by decide) (by decide)) (nx_1 (ne_G (hg_13 30 (by decide) (by decide) (by decide)) (hg_4 10 (by decide) (by decide) (by decide)) (by decide)) (nx_1 (ne_G (hg_13 30 (by decide) (by decide) (by decide)) (hg_7 20 (by decide) (by decide) (by decide)) (by decide)) (nx_1 (ne_G (hg_13 30 (by decide) (by decide) (by decide)) (hg_10 21 (by decide) (by decide) (by decide)) (by decide)) nx_0)))
    refine rr_iast (D := DG E) hx hb hK.1 0 ha_14 hS (by show G (r_13 30) ≠ 0; rw [(hg_13 30 (by decide) (by decide) (by decide))]; decide) rfl (show vp_in p0 4 from vp_in_iff.mpr (by omega)) dX10_reset_42 (fun H locs hn ho hz hS => ?_)
    have hr_15 : va_at (DG E) vwCl ((r_13 30), .inl (E.2.2 0, 4, .inl (upd (fun _ => 0) (p0 : Int32).toNatClampNeg 0))) H := hn
    have hr_6 := hr_6.kept (ho _ (ne_G (hg_4 10 (by decide) (by decide) (by decide)) (hg_13 30 (by decide) (by decide) (by decide)) (by decide)))
    have hr_9 := hr_9.kept (ho _ (ne_G (hg_7 20 (by decide) (by decide) (by decide)) (hg_13 30 (by decide) (by decide) (by decide)) (by decide)))
    have hr_12 := hr_12.kept (ho _ (ne_G (hg_10 21 (by decide) (by decide) (by decide)) (hg_13 30 (by decide) (by decide) (by decide)) (by decide)))
    have hT : TH E (T0 E) G [(r_4 10), (r_7 20), (r_10 21), (r_13 30)] H := hT.keptx (fun q hq => List.mem_append_left [(r_13 30)] hq) (fun q _ hq => ho q (fun e => hq (by rw [e]; simp)))
    refine lv_aload_n hx hb dX10_reset_43 rfl (lv_at hl 0 rfl) ?_
    obtain ⟨t0_16, t1_16, t2_16, r_16, ha_16, hg_16⟩ := tg_20 hT hG (nx_1 (ne_G hG (hg_4 10 (by decide) (by decide) (by decide)) (by decide)) (nx_1 (ne_G hG (hg_7 20 (by decide) (by decide) (by decide)) (by decide)) (nx_1 (ne_G hG (hg_10 21 (by decide) (by decide) (by decide)) (by decide)) (nx_1 (ne_G hG (hg_13 30 (by decide) (by decide) (by decide)) (by decide)) nx_0))))
    refine va_get (D := DG E) (ci := 10) (v := .ref (r_16 31)) (C := RX10) (T := TX10) (N := 49) hx hb hts iw_X10 hown hK.1 (va_one ha_16) 0 rfl rfl 31 (by decide) (hts _ fl_X10_92) (fun _ h9 => h9) rfl dX10_reset_44 ?_
    refine lv_iload_n hx hb dX10_reset_47 rfl (lv_at hl 1 rfl) ?_
    refine lv_iconst (v := 0) hx hb dX10_reset_48 (by decide) ?_
    have ha_17 : va_at (DG E) vwCl ((r_16 31), .inl (E.2.2 0, 4, .inl (fun _ => 0))) _ := tg_arr (j := 31) hT (hg_16 31 (by decide) (by decide) (by decide)) (nx_1 (ne_G (hg_16 31 (by decide) (by decide) (by decide)) (hg_4 10 (by decide) (by decide) (by decide)) (by decide)) (nx_1 (ne_G (hg_16 31 (by decide) (by decide) (by decide)) (hg_7 20 (by decide) (by decide) (by decide)) (by decide)) (nx_1 (ne_G (hg_16 31 (by decide) (by decide) (by decide)) (hg_10 21 (by decide) (by decide) (by decide)) (by decide)) (nx_1 (ne_G (hg_16 31 (by decide) (by decide) (by decide)) (hg_13 30 (by decide) (by decide) (by decide)) (by decide)) nx_0))))
    refine rr_iast (D := DG E) hx hb hK.1 0 ha_17 hS (by show G (r_16 31) ≠ 0; rw [(hg_16 31 (by decide) (by decide) (by decide))]; decide) rfl (show vp_in p0 4 from vp_in_iff.mpr (by omega)) dX10_reset_49 (fun H locs hn ho hz hS => ?_)
    have hr_18 : va_at (DG E) vwCl ((r_16 31), .inl (E.2.2 0, 4, .inl (upd (fun _ => 0) (p0 : Int32).toNatClampNeg 0))) H := hn
    have hr_6 := hr_6.kept (ho _ (ne_G (hg_4 10 (by decide) (by decide) (by decide)) (hg_16 31 (by decide) (by decide) (by decide)) (by decide)))
    have hr_9 := hr_9.kept (ho _ (ne_G (hg_7 20 (by decide) (by decide) (by decide)) (hg_16 31 (by decide) (by decide) (by decide)) (by decide)))
    have hr_12 := hr_12.kept (ho _ (ne_G (hg_10 21 (by decide) (by decide) (by decide)) (hg_16 31 (by decide) (by decide) (by decide)) (by decide)))
    have hr_15 := hr_15.kept (ho _ (ne_G (hg_13 30 (by decide) (by decide) (by decide)) (hg_16 31 (by decide) (by decide) (by decide)) (by decide)))
    have hT : TH E (T0 E) G [(r_4 10), (r_7 20), (r_10 21), (r_13 30), (r_16 31)] H := hT.keptx (fun q hq => List.mem_append_left [(r_16 31)] hq) (fun q _ hq => ho q (fun e => hq (by rw [e]; simp)))
    refine lv_aload_n hx hb dX10_reset_50 rfl (lv_at hl 0 rfl) ?_
    obtain ⟨t0_19, t1_19, t2_19, r_19, ha_19, hg_19⟩ := tg_20 hT hG (nx_1 (ne_G hG (hg_4 10 (by decide) (by decide) (by decide)) (by decide)) (nx_1 (ne_G hG (hg_7 20 (by decide) (by decide) (by decide)) (by decide)) (nx_1 (ne_G hG (hg_10 21 (by decide) (by decide) (by decide)) (by decide)) (nx_1 (ne_G hG (hg_13 30 (by decide) (by decide) (by decide)) (by decide)) (nx_1 (ne_G hG (hg_16 31 (by decide) (by decide) (by decide)) (by decide)) nx_0)))))
    refine va_get (D := DG E) (ci := 10) (v := .ref (r_19 36)) (C := RX10) (T := TX10) (N := 49) hx hb hts iw_X10 hown hK.1 (va_one ha_19) 0 rfl rfl 36 (by decide) (hts _ fl_X10_107) (fun _ h9 => h9) rfl dX10_reset_51 ?_
    refine lv_iload_n hx hb dX10_reset_54 rfl (lv_at hl 1 rfl) ?_
    refine lv_iconst (v := 0) hx hb dX10_reset_55 (by decide) ?_
    have ha_20 : va_at (DG E) vwCl ((r_19 36), .inl (E.2.2 1, 4, .inl (fun _ => 0))) _ := tg_arr (j := 36) hT (hg_19 36 (by decide) (by decide) (by decide)) (nx_1 (ne_G (hg_19 36 (by decide) (by decide) (by decide)) (hg_4 10 (by decide) (by decide) (by decide)) (by decide)) (nx_1 (ne_G (hg_19 36 (by decide) (by decide) (by decide)) (hg_7 20 (by decide) (by decide) (by decide)) (by decide)) (nx_1 (ne_G (hg_19 36 (by decide) (by decide) (by decide)) (hg_10 21 (by decide) (by decide) (by decide)) (by decide)) (nx_1 (ne_G (hg_19 36 (by decide) (by decide) (by decide)) (hg_13 30 (by decide) (by decide) (by decide)) (by decide)) (nx_1 (ne_G (hg_19 36 (by decide) (by decide) (by decide)) (hg_16 31 (by decide) (by decide) (by decide)) (by decide)) nx_0)))))
    refine rr_zast (D := DG E) hx hb hK.1 1 ha_20 hS (by show G (r_19 36) ≠ 0; rw [(hg_19 36 (by decide) (by decide) (by decide))]; decide) rfl (show vp_in p0 4 from vp_in_iff.mpr (by omega)) dX10_reset_56 (fun H locs hn ho hz hS => ?_)
    have hr_21 : va_at (DG E) vwCl ((r_19 36), .inl (E.2.2 1, 4, .inl (upd (fun _ => 0) (p0 : Int32).toNatClampNeg (vp_nar .boolean 0)))) H := hn
    have hr_6 := hr_6.kept (ho _ (ne_G (hg_4 10 (by decide) (by decide) (by decide)) (hg_19 36 (by decide) (by decide) (by decide)) (by decide)))
    have hr_9 := hr_9.kept (ho _ (ne_G (hg_7 20 (by decide) (by decide) (by decide)) (hg_19 36 (by decide) (by decide) (by decide)) (by decide)))
    have hr_12 := hr_12.kept (ho _ (ne_G (hg_10 21 (by decide) (by decide) (by decide)) (hg_19 36 (by decide) (by decide) (by decide)) (by decide)))
    have hr_15 := hr_15.kept (ho _ (ne_G (hg_13 30 (by decide) (by decide) (by decide)) (hg_19 36 (by decide) (by decide) (by decide)) (by decide)))
    have hr_18 := hr_18.kept (ho _ (ne_G (hg_16 31 (by decide) (by decide) (by decide)) (hg_19 36 (by decide) (by decide) (by decide)) (by decide)))
    have hT : TH E (T0 E) G [(r_4 10), (r_7 20), (r_10 21), (r_13 30), (r_16 31), (r_19 36)] H := hT.keptx (fun q hq => List.mem_append_left [(r_19 36)] hq) (fun q _ hq => ho q (fun e => hq (by rw [e]; simp)))
    refine lv_aload_n hx hb dX10_reset_57 rfl (lv_at hl 0 rfl) ?_
    obtain ⟨t0_22, t1_22, t2_22, r_22, ha_22, hg_22⟩ := tg_20 hT hG (nx_1 (ne_G hG (hg_4 10 (by decide) (by decide) (by decide)) (by decide)) (nx_1 (ne_G hG (hg_7 20 (by decide) (by decide) (by decide)) (by decide)) (nx_1 (ne_G hG (hg_10 21 (by decide) (by decide) (by decide)) (by decide)) (nx_1 (ne_G hG (hg_13 30 (by decide) (by decide) (by decide)) (by decide)) (nx_1 (ne_G hG (hg_16 31 (by decide) (by decide) (by decide)) (by decide)) (nx_1 (ne_G hG (hg_19 36 (by decide) (by decide) (by decide)) (by decide)) nx_0))))))
    refine va_get (D := DG E) (ci := 10) (v := .ref (r_22 19)) (C := RX10) (T := TX10) (N := 49) hx hb hts iw_X10 hown hK.1 (va_one ha_22) 0 rfl rfl 19 (by decide) (hts _ fl_X10_56) (fun _ h9 => h9) rfl dX10_reset_58 ?_
    refine lv_iload_n hx hb dX10_reset_61 rfl (lv_at hl 1 rfl) ?_
    refine lv_iconst (v := 0) hx hb dX10_reset_62 (by decide) ?_
    have ha_23 : va_at (DG E) vwCl ((r_22 19), .inl (E.2.2 1, 4, .inl (fun _ => 0))) _ := tg_arr (j := 19) hT (hg_22 19 (by decide) (by decide) (by decide)) (nx_1 (ne_G (hg_22 19 (by decide) (by decide) (by decide)) (hg_4 10 (by decide) (by decide) (by decide)) (by decide)) (nx_1 (ne_G (hg_22 19 (by decide) (by decide) (by decide)) (hg_7 20 (by decide) (by decide) (by decide)) (by decide)) (nx_1 (ne_G (hg_22 19 (by decide) (by decide) (by decide)) (hg_10 21 (by decide) (by decide) (by decide)) (by decide)) (nx_1 (ne_G (hg_22 19 (by decide) (by decide) (by decide)) (hg_13 30 (by decide) (by decide) (by decide)) (by decide)) (nx_1 (ne_G (hg_22 19 (by decide) (by decide) (by decide)) (hg_16 31 (by decide) (by decide) (by decide)) (by decide)) (nx_1 (ne_G (hg_22 19 (by decide) (by decide) (by decide)) (hg_19 36 (by decide) (by decide) (by decide)) (by decide)) nx_0))))))
    refine rr_zast (D := DG E) hx hb hK.1 1 ha_23 hS (by show G (r_22 19) ≠ 0; rw [(hg_22 19 (by decide) (by decide) (by decide))]; decide) rfl (show vp_in p0 4 from vp_in_iff.mpr (by omega)) dX10_reset_63 (fun H locs hn ho hz hS => ?_)
    have hr_24 : va_at (DG E) vwCl ((r_22 19), .inl (E.2.2 1, 4, .inl (upd (fun _ => 0) (p0 : Int32).toNatClampNeg (vp_nar .boolean 0)))) H := hn
    have hr_6 := hr_6.kept (ho _ (ne_G (hg_4 10 (by decide) (by decide) (by decide)) (hg_22 19 (by decide) (by decide) (by decide)) (by decide)))
    have hr_9 := hr_9.kept (ho _ (ne_G (hg_7 20 (by decide) (by decide) (by decide)) (hg_22 19 (by decide) (by decide) (by decide)) (by decide)))
    have hr_12 := hr_12.kept (ho _ (ne_G (hg_10 21 (by decide) (by decide) (by decide)) (hg_22 19 (by decide) (by decide) (by decide)) (by decide)))
    have hr_15 := hr_15.kept (ho _ (ne_G (hg_13 30 (by decide) (by decide) (by decide)) (hg_22 19 (by decide) (by decide) (by decide)) (by decide)))
    have hr_18 := hr_18.kept (ho _ (ne_G (hg_16 31 (by decide) (by decide) (by decide)) (hg_22 19 (by decide) (by decide) (by decide)) (by decide)))
    have hr_21 := hr_21.kept (ho _ (ne_G (hg_19 36 (by decide) (by decide) (by decide)) (hg_22 19 (by decide) (by decide) (by decide)) (by decide)))
    have hT : TH E (T0 E) G [(r_4 10), (r_7 20), (r_10 21), (r_13 30), (r_16 31), (r_19 36), (r_22 19)] H := hT.keptx (fun q hq => List.mem_append_left [(r_22 19)] hq) (fun q _ hq => ho q (fun e => hq (by rw [e]; simp)))
    refine lv_aload_n hx hb dX10_reset_64 rfl (lv_at hl 0 rfl) ?_
    obtain ⟨t0_25, t1_25, t2_25, r_25, ha_25, hg_25⟩ := tg_20 hT hG (nx_1 (ne_G hG (hg_4 10 (by decide) (by decide) (by decide)) (by decide)) (nx_1 (ne_G hG (hg_7 20 (by decide) (by decide) (by decide)) (by decide)) (nx_1 (ne_G hG (hg_10 21 (by decide) (by decide) (by decide)) (by decide)) (nx_1 (ne_G hG (hg_13 30 (by decide) (by decide) (by decide)) (by decide)) (nx_1 (ne_G hG (hg_16 31 (by decide) (by decide) (by decide)) (by decide)) (nx_1 (ne_G hG (hg_19 36 (by decide) (by decide) (by decide)) (by decide)) (nx_1 (ne_G hG (hg_22 19 (by decide) (by decide) (by decide)) (by decide)) nx_0)))))))
    refine va_get (D := DG E) (ci := 10) (v := .ref (r_25 18)) (C := RX10) (T := TX10) (N := 49) hx hb hts iw_X10 hown hK.1 (va_one ha_25) 0 rfl rfl 18 (by decide) (hts _ fl_X10_52) (fun _ h9 => h9) rfl dX10_reset_65 ?_
    refine lv_iload_n hx hb dX10_reset_68 rfl (lv_at hl 1 rfl) ?_
    refine lv_iconst (v := 0) hx hb dX10_reset_69 (by decide) ?_
    have ha_26 : va_at (DG E) vwCl ((r_25 18), .inl (E.2.2 1, 4, .inl (fun _ => 0))) _ := tg_arr (j := 18) hT (hg_25 18 (by decide) (by decide) (by decide)) (nx_1 (ne_G (hg_25 18 (by decide) (by decide) (by decide)) (hg_4 10 (by decide) (by decide) (by decide)) (by decide)) (nx_1 (ne_G (hg_25 18 (by decide) (by decide) (by decide)) (hg_7 20 (by decide) (by decide) (by decide)) (by decide)) (nx_1 (ne_G (hg_25 18 (by decide) (by decide) (by decide)) (hg_10 21 (by decide) (by decide) (by decide)) (by decide)) (nx_1 (ne_G (hg_25 18 (by decide) (by decide) (by decide)) (hg_13 30 (by decide) (by decide) (by decide)) (by decide)) (nx_1 (ne_G (hg_25 18 (by decide) (by decide) (by decide)) (hg_16 31 (by decide) (by decide) (by decide)) (by decide)) (nx_1 (ne_G (hg_25 18 (by decide) (by decide) (by decide)) (hg_19 36 (by decide) (by decide) (by decide)) (by decide)) (nx_1 (ne_G (hg_25 18 (by decide) (by decide) (by decide)) (hg_22 19 (by decide) (by decide) (by decide)) (by decide)) nx_0)))))))
    refine rr_zast (D := DG E) hx hb hK.1 1 ha_26 hS (by show G (r_25 18) ≠ 0; rw [(hg_25 18 (by decide) (by decide) (by decide))]; decide) rfl (show vp_in p0 4 from vp_in_iff.mpr (by omega)) dX10_reset_70 (fun H locs hn ho hz hS => ?_)
    have hr_27 : va_at (DG E) vwCl ((r_25 18), .inl (E.2.2 1, 4, .inl (upd (fun _ => 0) (p0 : Int32).toNatClampNeg (vp_nar .boolean 0)))) H := hn
    have hr_6 := hr_6.kept (ho _ (ne_G (hg_4 10 (by decide) (by decide) (by decide)) (hg_25 18 (by decide) (by decide) (by decide)) (by decide)))
    have hr_9 := hr_9.kept (ho _ (ne_G (hg_7 20 (by decide) (by decide) (by decide)) (hg_25 18 (by decide) (by decide) (by decide)) (by decide)))
    have hr_12 := hr_12.kept (ho _ (ne_G (hg_10 21 (by decide) (by decide) (by decide)) (hg_25 18 (by decide) (by decide) (by decide)) (by decide)))
    have hr_15 := hr_15.kept (ho _ (ne_G (hg_13 30 (by decide) (by decide) (by decide)) (hg_25 18 (by decide) (by decide) (by decide)) (by decide)))
    have hr_18 := hr_18.kept (ho _ (ne_G (hg_16 31 (by decide) (by decide) (by decide)) (hg_25 18 (by decide) (by decide) (by decide)) (by decide)))
    have hr_21 := hr_21.kept (ho _ (ne_G (hg_19 36 (by decide) (by decide) (by decide)) (hg_25 18 (by decide) (by decide) (by decide)) (by decide)))
    have hr_24 := hr_24.kept (ho _ (ne_G (hg_22 19 (by decide) (by decide) (by decide)) (hg_25 18 (by decide) (by decide) (by decide)) (by decide)))
    have hT : TH E (T0 E) G [(r_4 10), (r_7 20), (r_10 21), (r_13 30), (r_16 31), (r_19 36), (r_22 19), (r_25 18)] H := hT.keptx (fun q hq => List.mem_append_left [(r_25 18)] hq) (fun q _ hq => ho q (fun e => hq (by rw [e]; simp)))
    refine lv_aload_n hx hb dX10_reset_71 rfl (lv_at hl 0 rfl) ?_
    obtain ⟨t0_28, t1_28, t2_28, r_28, ha_28, hg_28⟩ := tg_20 hT hG (nx_1 (ne_G hG (hg_4 10 (by decide) (by decide) (by decide)) (by decide)) (nx_1 (ne_G hG (hg_7 20 (by decide) (by decide) (by decide)) (by decide)) (nx_1 (ne_G hG (hg_10 21 (by decide) (by decide) (by decide)) (by decide)) (nx_1 (ne_G hG (hg_13 30 (by decide) (by decide) (by decide)) (by decide)) (nx_1 (ne_G hG (hg_16 31 (by decide) (by decide) (by decide)) (by decide)) (nx_1 (ne_G hG (hg_19 36 (by decide) (by decide) (by decide)) (by decide)) (nx_1 (ne_G hG (hg_22 19 (by decide) (by decide) (by decide)) (by decide)) (nx_1 (ne_G hG (hg_25 18 (by decide) (by decide) (by decide)) (by decide)) nx_0))))))))
    refine va_get (D := DG E) (ci := 10) (v := .ref (r_28 15)) (C := RX10) (T := TX10) (N := 49) hx hb hts iw_X10 hown hK.1 (va_one ha_28) 0 rfl rfl 15 (by decide) (hts _ fl_X10_43) (fun _ h9 => h9) rfl dX10_reset_72 ?_
    refine lv_iload_n hx hb dX10_reset_75 rfl (lv_at hl 1 rfl) ?_
    refine lv_iconst (v := 0) hx hb dX10_reset_76 (by decide) ?_
    have ha_29 : va_at (DG E) vwCl ((r_28 15), .inl (E.2.2 0, 4, .inl (fun _ => 0))) _ := tg_arr (j := 15) hT (hg_28 15 (by decide) (by decide) (by decide)) (nx_1 (ne_G (hg_28 15 (by decide) (by decide) (by decide)) (hg_4 10 (by decide) (by decide) (by decide)) (by decide)) (nx_1 (ne_G (hg_28 15 (by decide) (by decide) (by decide)) (hg_7 20 (by decide) (by decide) (by decide)) (by decide)) (nx_1 (ne_G (hg_28 15 (by decide) (by decide) (by decide)) (hg_10 21 (by decide) (by decide) (by decide)) (by decide)) (nx_1 (ne_G (hg_28 15 (by decide) (by decide) (by decide)) (hg_13 30 (by decide) (by decide) (by decide)) (by decide)) (nx_1 (ne_G (hg_28 15 (by decide) (by decide) (by decide)) (hg_16 31 (by decide) (by decide) (by decide)) (by decide)) (nx_1 (ne_G (hg_28 15 (by decide) (by decide) (by decide)) (hg_19 36 (by decide) (by decide) (by decide)) (by decide)) (nx_1 (ne_G (hg_28 15 (by decide) (by decide) (by decide)) (hg_22 19 (by decide) (by decide) (by decide)) (by decide)) (nx_1 (ne_G (hg_28 15 (by decide) (by decide) (by decide)) (hg_25 18 (by decide) (by decide) (by decide)) (by decide)) nx_0))))))))
    refine rr_iast (D := DG E) hx hb hK.1 0 ha_29 hS (by show G (r_28 15) ≠ 0; rw [(hg_28 15 (by decide) (by decide) (by decide))]; decide) rfl (show vp_in p0 4 from vp_in_iff.mpr (by omega)) dX10_reset_77 (fun H locs hn ho hz hS => ?_)
    have hr_30 : va_at (DG E) vwCl ((r_28 15), .inl (E.2.2 0, 4, .inl (upd (fun _ => 0) (p0 : Int32).toNatClampNeg 0))) H := hn
    have hr_6 := hr_6.kept (ho _ (ne_G (hg_4 10 (by decide) (by decide) (by decide)) (hg_28 15 (by decide) (by decide) (by decide)) (by decide)))
    have hr_9 := hr_9.kept (ho _ (ne_G (hg_7 20 (by decide) (by decide) (by decide)) (hg_28 15 (by decide) (by decide) (by decide)) (by decide)))
    have hr_12 := hr_12.kept (ho _ (ne_G (hg_10 21 (by decide) (by decide) (by decide)) (hg_28 15 (by decide) (by decide) (by decide)) (by decide)))
    have hr_15 := hr_15.kept (ho _ (ne_G (hg_13 30 (by decide) (by decide) (by decide)) (hg_28 15 (by decide) (by decide) (by decide)) (by decide)))
    have hr_18 := hr_18.kept (ho _ (ne_G (hg_16 31 (by decide) (by decide) (by decide)) (hg_28 15 (by decide) (by decide) (by decide)) (by decide)))
    have hr_21 := hr_21.kept (ho _ (ne_G (hg_19 36 (by decide) (by decide) (by decide)) (hg_28 15 (by decide) (by decide) (by decide)) (by decide)))
    have hr_24 := hr_24.kept (ho _ (ne_G (hg_22 19 (by decide) (by decide) (by decide)) (hg_28 15 (by decide) (by decide) (by decide)) (by decide)))
    have hr_27 := hr_27.kept (ho _ (ne_G (hg_25 18 (by decide) (by decide) (by decide)) (hg_28 15 (by decide) (by decide) (by decide)) (by decide)))
    have hT : TH E (T0 E) G [(r_4 10), (r_7 20), (r_10 21), (r_13 30), (r_16 31), (r_19 36), (r_22 19), (r_25 18), (r_28 15)] H := hT.keptx (fun q hq => List.mem_append_left [(r_28 15)] hq) (fun q _ hq => ho q (fun e => hq (by rw [e]; simp)))
    refine lv_aload_n hx hb dX10_reset_78 rfl (lv_at hl 0 rfl) ?_
    obtain ⟨t0_31, t1_31, t2_31, r_31, ha_31, hg_31⟩ := tg_20 hT hG (nx_1 (ne_G hG (hg_4 10 (by decide) (by decide) (by decide)) (by decide)) (nx_1 (ne_G hG (hg_7 20 (by decide) (by decide) (by decide)) (by decide)) (nx_1 (ne_G hG (hg_10 21 (by decide) (by decide) (by decide)) (by decide)) (nx_1 (ne_G hG (hg_13 30 (by decide) (by decide) (by decide)) (by decide)) (nx_1 (ne_G hG (hg_16 31 (by decide) (by decide) (by decide)) (by decide)) (nx_1 (ne_G hG (hg_19 36 (by decide) (by decide) (by decide)) (by decide)) (nx_1 (ne_G hG (hg_22 19 (by decide) (by decide) (by decide)) (by decide)) (nx_1 (ne_G hG (hg_25 18 (by decide) (by decide) (by decide)) (by decide)) (nx_1 (ne_G hG (hg_28 15 (by decide) (by decide) (by decide)) (by decide)) nx_0)))))))))
    refine va_get (D := DG E) (ci := 10) (v := .ref (r_31 16)) (C := RX10) (T := TX10) (N := 49) hx hb hts iw_X10 hown hK.1 (va_one ha_31) 0 rfl rfl 16 (by decide) (hts _ fl_X10_46) (fun _ h9 => h9) rfl dX10_reset_79 ?_
    refine lv_iload_n hx hb dX10_reset_82 rfl (lv_at hl 1 rfl) ?_
    refine lv_iconst (v := 0) hx hb dX10_reset_83 (by decide) ?_
    have ha_32 : va_at (DG E) vwCl ((r_31 16), .inl (E.2.2 0, 4, .inl (fun _ => 0))) _ := tg_arr (j := 16) hT (hg_31 16 (by decide) (by decide) (by decide)) (nx_1 (ne_G (hg_31 16 (by decide) (by decide) (by decide)) (hg_4 10 (by decide) (by decide) (by decide)) (by decide)) (nx_1 (ne_G (hg_31 16 (by decide) (by decide) (by decide)) (hg_7 20 (by decide) (by decide) (by decide)) (by decide)) (nx_1 (ne_G (hg_31 16 (by decide) (by decide) (by decide)) (hg_10 21 (by decide) (by decide) (by decide)) (by decide)) (nx_1 (ne_G (hg_31 16 (by decide) (by decide) (by decide)) (hg_13 30 (by decide) (by decide) (by decide)) (by decide)) (nx_1 (ne_G (hg_31 16 (by decide) (by decide) (by decide)) (hg_16 31 (by decide) (by decide) (by decide)) (by decide)) (nx_1 (ne_G (hg_31 16 (by decide) (by decide) (by decide)) (hg_19 36 (by decide) (by decide) (by decide)) (by decide)) (nx_1 (ne_G (hg_31 16 (by decide) (by decide) (by decide)) (hg_22 19 (by decide) (by decide) (by decide)) (by decide)) (nx_1 (ne_G (hg_31 16 (by decide) (by decide) (by decide)) (hg_25 18 (by decide) (by decide) (by decide)) (by decide)) (nx_1 (ne_G (hg_31 16 (by decide) (by decide) (by decide)) (hg_28 15 (by decide) (by decide) (by decide)) (by decide)) nx_0)))))))))
    refine rr_iast (D := DG E) hx hb hK.1 0 ha_32 hS (by show G (r_31 16) ≠ 0; rw [(hg_31 16 (by decide) (by decide) (by decide))]; decide) rfl (show vp_in p0 4 from vp_in_iff.mpr (by omega)) dX10_reset_84 (fun H locs hn ho hz hS => ?_)
    have hr_33 : va_at (DG E) vwCl ((r_31 16), .inl (E.2.2 0, 4, .inl (upd (fun _ => 0) (p0 : Int32).toNatClampNeg 0))) H := hn
    have hr_6 := hr_6.kept (ho _ (ne_G (hg_4 10 (by decide) (by decide) (by decide)) (hg_31 16 (by decide) (by decide) (by decide)) (by decide)))
    have hr_9 := hr_9.kept (ho _ (ne_G (hg_7 20 (by decide) (by decide) (by decide)) (hg_31 16 (by decide) (by decide) (by decide)) (by decide)))
    have hr_12 := hr_12.kept (ho _ (ne_G (hg_10 21 (by decide) (by decide) (by decide)) (hg_31 16 (by decide) (by decide) (by decide)) (by decide)))
    have hr_15 := hr_15.kept (ho _ (ne_G (hg_13 30 (by decide) (by decide) (by decide)) (hg_31 16 (by decide) (by decide) (by decide)) (by decide)))
    have hr_18 := hr_18.kept (ho _ (ne_G (hg_16 31 (by decide) (by decide) (by decide)) (hg_31 16 (by decide) (by decide) (by decide)) (by decide)))
    have hr_21 := hr_21.kept (ho _ (ne_G (hg_19 36 (by decide) (by decide) (by decide)) (hg_31 16 (by decide) (by decide) (by decide)) (by decide)))
    have hr_24 := hr_24.kept (ho _ (ne_G (hg_22 19 (by decide) (by decide) (by decide)) (hg_31 16 (by decide) (by decide) (by decide)) (by decide)))
    have hr_27 := hr_27.kept (ho _ (ne_G (hg_25 18 (by decide) (by decide) (by decide)) (hg_31 16 (by decide) (by decide) (by decide)) (by decide)))
    have hr_30 := hr_30.kept (ho _ (ne_G (hg_28 15 (by decide) (by decide) (by decide)) (hg_31 16 (by decide) (by decide) (by decide)) (by decide)))
    have hT : TH E (T0 E) G [(r_4 10), (r_7 20), (r_10 21), (r_13 30), (r_16 31), (r_19 36), (r_22 19), (r_25 18), (r_28 15), (r_31 16)] H := hT.keptx (fun q hq => List.mem_append_left [(r_31 16)] hq) (fun q _ hq => ho q (fun e => hq (by rw [e]; simp)))
    refine lv_aload_n hx hb dX10_reset_85 rfl (lv_at hl 0 rfl) ?_
    obtain ⟨t0_34, t1_34, t2_34, r_34, ha_34, hg_34⟩ := tg_20 hT hG (nx_1 (ne_G hG (hg_4 10 (by decide) (by decide) (by decide)) (by decide)) (nx_1 (ne_G hG (hg_7 20 (by decide) (by decide) (by decide)) (by decide)) (nx_1 (ne_G hG (hg_10 21 (by decide) (by decide) (by decide)) (by decide)) (nx_1 (ne_G hG (hg_13 30 (by decide) (by decide) (by decide)) (by decide)) (nx_1 (ne_G hG (hg_16 31 (by decide) (by decide) (by decide)) (by decide)) (nx_1 (ne_G hG (hg_19 36 (by decide) (by decide) (by decide)) (by decide)) (nx_1 (ne_G hG (hg_22 19 (by decide) (by decide) (by decide)) (by decide)) (nx_1 (ne_G hG (hg_25 18 (by decide) (by decide) (by decide)) (by decide)) (nx_1 (ne_G hG (hg_28 15 (by decide) (by decide) (by decide)) (by decide)) (nx_1 (ne_G hG (hg_31 16 (by decide) (by decide) (by decide)) (by decide)) nx_0))))))))))
    refine va_get (D := DG E) (ci := 10) (v := .ref (r_34 17)) (C := RX10) (T := TX10) (N := 49) hx hb hts iw_X10 hown hK.1 (va_one ha_34) 0 rfl rfl 17 (by decide) (hts _ fl_X10_49) (fun _ h9 => h9) rfl dX10_reset_86 ?_
    refine lv_iload_n hx hb dX10_reset_89 rfl (lv_at hl 1 rfl) ?_
    refine lv_iconst (v := 0) hx hb dX10_reset_90 (by decide) ?_
    have ha_35 : va_at (DG E) vwCl ((r_34 17), .inl (E.2.2 0, 4, .inl (fun _ => 0))) _ := tg_arr (j := 17) hT (hg_34 17 (by decide) (by decide) (by decide)) (nx_1 (ne_G (hg_34 17 (by decide) (by decide) (by decide)) (hg_4 10 (by decide) (by decide) (by decide)) (by decide)) (nx_1 (ne_G (hg_34 17 (by decide) (by decide) (by decide)) (hg_7 20 (by decide) (by decide) (by decide)) (by decide)) (nx_1 (ne_G (hg_34 17 (by decide) (by decide) (by decide)) (hg_10 21 (by decide) (by decide) (by decide)) (by decide)) (nx_1 (ne_G (hg_34 17 (by decide) (by decide) (by decide)) (hg_13 30 (by decide) (by decide) (by decide)) (by decide)) (nx_1 (ne_G (hg_34 17 (by decide) (by decide) (by decide)) (hg_16 31 (by decide) (by decide) (by decide)) (by decide)) (nx_1 (ne_G (hg_34 17 (by decide) (by decide) (by decide)) (hg_19 36 (by decide) (by decide) (by decide)) (by decide)) (nx_1 (ne_G (hg_34 17 (by decide) (by decide) (by decide)) (hg_22 19 (by decide) (by decide) (by decide)) (by decide)) (nx_1 (ne_G (hg_34 17 (by decide) (by decide) (by decide)) (hg_25 18 (by decide) (by decide) (by decide)) (by decide)) (nx_1 (ne_G (hg_34 17 (by decide) (by decide) (by decide)) (hg_28 15 (by decide) (by decide) (by decide)) (by decide)) (nx_1 (ne_G (hg_34 17 (by decide) (by decide) (by decide)) (hg_31 16 (by decide) (by decide) (by decide)) (by decide)) nx_0))))))))))
    refine rr_iast (D := DG E) hx hb hK.1 0 ha_35 hS (by show G (r_34 17) ≠ 0; rw [(hg_34 17 (by decide) (by decide) (by decide))]; decide) rfl (show vp_in p0 4 from vp_in_iff.mpr (by omega)) dX10_reset_91 (fun H locs hn ho hz hS => ?_)
    have hr_36 : va_at (DG E) vwCl ((r_34 17), .inl (E.2.2 0, 4, .inl (upd (fun _ => 0) (p0 : Int32).toNatClampNeg 0))) H := hn
    have hr_6 := hr_6.kept (ho _ (ne_G (hg_4 10 (by decide) (by decide) (by decide)) (hg_34 17 (by decide) (by decide) (by decide)) (by decide)))
    have hr_9 := hr_9.kept (ho _ (ne_G (hg_7 20 (by decide) (by decide) (by decide)) (hg_34 17 (by decide) (by decide) (by decide)) (by decide)))
    have hr_12 := hr_12.kept (ho _ (ne_G (hg_10 21 (by decide) (by decide) (by decide)) (hg_34 17 (by decide) (by decide) (by decide)) (by decide)))
    have hr_15 := hr_15.kept (ho _ (ne_G (hg_13 30 (by decide) (by decide) (by decide)) (hg_34 17 (by decide) (by decide) (by decide)) (by decide)))
    have hr_18 := hr_18.kept (ho _ (ne_G (hg_16 31 (by decide) (by decide) (by decide)) (hg_34 17 (by decide) (by decide) (by decide)) (by decide)))
    have hr_21 := hr_21.kept (ho _ (ne_G (hg_19 36 (by decide) (by decide) (by decide)) (hg_34 17 (by decide) (by decide) (by decide)) (by decide)))
    have hr_24 := hr_24.kept (ho _ (ne_G (hg_22 19 (by decide) (by decide) (by decide)) (hg_34 17 (by decide) (by decide) (by decide)) (by decide)))
    have hr_27 := hr_27.kept (ho _ (ne_G (hg_25 18 (by decide) (by decide) (by decide)) (hg_34 17 (by decide) (by decide) (by decide)) (by decide)))
    have hr_30 := hr_30.kept (ho _ (ne_G (hg_28 15 (by decide) (by decide) (by decide)) (hg_34 17 (by decide) (by decide) (by decide)) (by decide)))
    have hr_33 := hr_33.kept (ho _ (ne_G (hg_31 16 (by decide) (by decide) (by decide)) (hg_34 17 (by decide) (by decide) (by decide)) (by decide)))
    have hT : TH E (T0 E) G [(r_4 10), (r_7 20), (r_10 21), (r_13 30), (r_16 31), (r_19 36), (r_22 19), (r_25 18), (r_28 15), (r_31 16), (r_34 17)] H := hT.keptx (fun q hq => List.mem_append_left [(r_34 17)] hq) (fun q _ hq => ho q (fun e => hq (by rw [e]; simp)))
    refine lv_aload_n hx hb dX10_reset_92 rfl (lv_at hl 0 rfl) ?_
    obtain ⟨t0_37, t1_37, t2_37, r_37, ha_37, hg_37⟩ := tg_20 hT hG (nx_1 (ne_G hG (hg_4 10 (by decide) (by decide) (by decide)) (by decide)) (nx_1 (ne_G hG (hg_7 20 (by decide) (by decide) (by decide)) (by decide)) (nx_1 (ne_G hG (hg_10 21 (by decide) (by decide) (by decide)) (by decide)) (nx_1 (ne_G hG (hg_13 30 (by decide) (by decide) (by decide)) (by decide)) (nx_1 (ne_G hG (hg_16 31 (by decide) (by decide) (by decide)) (by decide)) (nx_1 (ne_G hG (hg_19 36 (by decide) (by decide) (by decide)) (by decide)) (nx_1 (ne_G hG (hg_22 19 (by decide) (by decide) (by decide)) (by decide)) (nx_1 (ne_G hG (hg_25 18 (by decide) (by decide) (by decide)) (by decide)) (nx_1 (ne_G hG (hg_28 15 (by decide) (by decide) (by decide)) (by decide)) (nx_1 (ne_G hG (hg_31 16 (by decide) (by decide) (by decide)) (by decide)) (nx_1 (ne_G hG (hg_34 17 (by decide) (by decide) (by decide)) (by decide)) nx_0)))))))))))
    refine va_get (D := DG E) (ci := 10) (v := .ref (r_37 37)) (C := RX10) (T := TX10) (N := 49) hx hb hts iw_X10 hown hK.1 (va_one ha_37) 0 rfl rfl 37 (by decide) (hts _ fl_X10_110) (fun _ h9 => h9) rfl dX10_reset_93 ?_
    refine lv_iload_n hx hb dX10_reset_96 rfl (lv_at hl 1 rfl) ?_
    refine lv_iconst (v := 0) hx hb dX10_reset_97 (by decide) ?_
    have ha_38 : va_at (DG E) vwCl ((r_37 37), .inl (E.2.2 0, 4, .inl (fun _ => 0))) _ := tg_arr (j := 37) hT (hg_37 37 (by decide) (by decide) (by decide)) (nx_1 (ne_G (hg_37 37 (by decide) (by decide) (by decide)) (hg_4 10 (by decide) (by decide) (by decide)) (by decide)) (nx_1 (ne_G (hg_37 37 (by decide) (by decide) (by decide)) (hg_7 20 (by decide) (by decide) (by decide)) (by decide)) (nx_1 (ne_G (hg_37 37 (by decide) (by decide) (by decide)) (hg_10 21 (by decide) (by decide) (by decide)) (by decide)) (nx_1 (ne_G (hg_37 37 (by decide) (by decide) (by decide)) (hg_13 30 (by decide) (by decide) (by decide)) (by decide)) (nx_1 (ne_G (hg_37 37 (by decide) (by decide) (by decide)) (hg_16 31 (by decide) (by decide) (by decide)) (by decide)) (nx_1 (ne_G (hg_37 37 (by decide) (by decide) (by decide)) (hg_19 36 (by decide) (by decide) (by decide)) (by decide)) (nx_1 (ne_G (hg_37 37 (by decide) (by decide) (by decide)) (hg_22 19 (by decide) (by decide) (by decide)) (by decide)) (nx_1 (ne_G (hg_37 37 (by decide) (by decide) (by decide)) (hg_25 18 (by decide) (by decide) (by decide)) (by decide)) (nx_1 (ne_G (hg_37 37 (by decide) (by decide) (by decide)) (hg_28 15 (by decide) (by decide) (by decide)) (by decide)) (nx_1 (ne_G (hg_37 37 (by decide) (by decide) (by decide)) (hg_31 16 (by decide) (by decide) (by decide)) (by decide)) (nx_1 (ne_G (hg_37 37 (by decide) (by decide) (by decide)) (hg_34 17 (by decide) (by decide) (by decide)) (by decide)) nx_0)))))))))))
    refine rr_iast (D := DG E) hx hb hK.1 0 ha_38 hS (by show G (r_37 37) ≠ 0; rw [(hg_37 37 (by decide) (by decide) (by decide))]; decide) rfl (show vp_in p0 4 from vp_in_iff.mpr (by omega)) dX10_reset_98 (fun H locs hn ho hz hS => ?_)
    have hr_39 : va_at (DG E) vwCl ((r_37 37), .inl (E.2.2 0, 4, .inl (upd (fun _ => 0) (p0 : Int32).toNatClampNeg 0))) H := hn
    have hr_6 := hr_6.kept (ho _ (ne_G (hg_4 10 (by decide) (by decide) (by decide)) (hg_37 37 (by decide) (by decide) (by decide)) (by decide)))
    have hr_9 := hr_9.kept (ho _ (ne_G (hg_7 20 (by decide) (by decide) (by decide)) (hg_37 37 (by decide) (by decide) (by decide)) (by decide)))
    have hr_12 := hr_12.kept (ho _ (ne_G (hg_10 21 (by decide) (by decide) (by decide)) (hg_37 37 (by decide) (by decide) (by decide)) (by decide)))
    have hr_15 := hr_15.kept (ho _ (ne_G (hg_13 30 (by decide) (by decide) (by decide)) (hg_37 37 (by decide) (by decide) (by decide)) (by decide)))
    have hr_18 := hr_18.kept (ho _ (ne_G (hg_16 31 (by decide) (by decide) (by decide)) (hg_37 37 (by decide) (by decide) (by decide)) (by decide)))
    have hr_21 := hr_21.kept (ho _ (ne_G (hg_19 36 (by decide) (by decide) (by decide)) (hg_37 37 (by decide) (by decide) (by decide)) (by decide)))
    have hr_24 := hr_24.kept (ho _ (ne_G (hg_22 19 (by decide) (by decide) (by decide)) (hg_37 37 (by decide) (by decide) (by decide)) (by decide)))
    have hr_27 := hr_27.kept (ho _ (ne_G (hg_25 18 (by decide) (by decide) (by decide)) (hg_37 37 (by decide) (by decide) (by decide)) (by decide)))
    have hr_30 := hr_30.kept (ho _ (ne_G (hg_28 15 (by decide) (by decide) (by decide)) (hg_37 37 (by decide) (by decide) (by decide)) (by decide)))
    have hr_33 := hr_33.kept (ho _ (ne_G (hg_31 16 (by decide) (by decide) (by decide)) (hg_37 37 (by decide) (by decide) (by decide)) (by decide)))
    have hr_36 := hr_36.kept (ho _ (ne_G (hg_34 17 (by decide) (by decide) (by decide)) (hg_37 37 (by decide) (by decide) (by decide)) (by decide)))
    have hT : TH E (T0 E) G [(r_4 10), (r_7 20), (r_10 21), (r_13 30), (r_16 31), (r_19 36), (r_22 19), (r_25 18), (r_28 15), (r_31 16), (r_34 17), (r_37 37)] H := hT.keptx (fun q hq => List.mem_append_left [(r_37 37)] hq) (fun q _ hq => ho q (fun e => hq (by rw [e]; simp)))
    refine lv_iconst (v := 1) hx hb dX10_reset_99 (by decide) ?_
    exact W.zret (v := 1) (ty := .boolean) hx hb hr rfl (fun t ht hW => ⟨⟨1, (), rfl, (by rw [bI_t (by omega)]), trivial⟩, hS.F ht⟩) hS.2.2 dX10_reset_100
  · have c_3 := bI_0 c_3
    try simp only [lt_I, le_I, eq_I, i_0, i_1, i_2, i_3, i_4, i_5, i_6, i_7, i_8, i_10, i_12, i_16, i_20, i_23, i_24, i_31, i_32, i_63, i_64, i_m1] at c_3
    refine lv_iconst (v := 0) hx hb dX10_reset_13 (by decide) ?_
    exact W.zret (v := 0) (ty := .boolean) hx hb hr rfl (fun t ht hW => ⟨⟨0, (), rfl, (by rw [bI_f (by omega)]), trivial⟩, hS.F ht⟩) hS.2.2 dX10_reset_14
theorem dX10_send_0 : decode cX10_send 0 = .ok (.aload_n 0, 1) := by decide +kernel
theorem dX10_send_1 : decode cX10_send 1 = .ok (.iconst 0, 1) := by decide +kernel
theorem dX10_send_2 : decode cX10_send 2 = .ok (.putfield 153, 3) := by decide +kernel
theorem dX10_send_5 : decode cX10_send 5 = .ok (.aload_n 0, 1) := by decide +kernel
theorem dX10_send_6 : decode cX10_send 6 = .ok (.iload_n 1, 1) := by decide +kernel
theorem dX10_send_7 : decode cX10_send 7 = .ok (.iload_n 2, 1) := by decide +kernel
theorem dX10_send_8 : decode cX10_send 8 = .ok (.iload_n 3, 1) := by decide +kernel
theorem dX10_send_9 : decode cX10_send 9 = .ok (.invokevirtual 181, 3) := by decide +kernel
theorem dX10_send_12 : decode cX10_send 12 = .ok (.ifCond .ne 9, 3) := by decide +kernel
theorem dX10_send_15 : decode cX10_send 15 = .ok (.aload_n 0, 1) := by decide +kernel
theorem dX10_send_16 : decode cX10_send 16 = .ok (.iconst 1, 1) := by decide +kernel
theorem dX10_send_17 : decode cX10_send 17 = .ok (.invokevirtual 185, 3) := by decide +kernel
theorem dX10_send_20 : decode cX10_send 20 = .ok (.ireturn, 1) := by decide +kernel
theorem dX10_send_21 : decode cX10_send 21 = .ok (.aload_n 0, 1) := by decide +kernel
theorem dX10_send_22 : decode cX10_send 22 = .ok (.iload_n 1, 1) := by decide +kernel
theorem dX10_send_23 : decode cX10_send 23 = .ok (.invokevirtual 188, 3) := by decide +kernel
theorem dX10_send_26 : decode cX10_send 26 = .ok (.ifCond .eq 11, 3) := by decide +kernel
theorem dX10_send_29 : decode cX10_send 29 = .ok (.aload_n 0, 1) := by decide +kernel
theorem dX10_send_30 : decode cX10_send 30 = .ok (.iconst 2, 1) := by decide +kernel
theorem dX10_send_31 : decode cX10_send 31 = .ok (.invokevirtual 185, 3) := by decide +kernel
theorem dX10_send_34 : decode cX10_send 34 = .ok (.goto 14, 3) := by decide +kernel
theorem dX10_send_37 : decode cX10_send 37 = .ok (.aload_n 0, 1) := by decide +kernel
theorem dX10_send_38 : decode cX10_send 38 = .ok (.iload_n 1, 1) := by decide +kernel
theorem dX10_send_39 : decode cX10_send 39 = .ok (.iconst 0, 1) := by decide +kernel
theorem dX10_send_40 : decode cX10_send 40 = .ok (.iload_n 2, 1) := by decide +kernel
theorem dX10_send_41 : decode cX10_send 41 = .ok (.iload_n 3, 1) := by decide +kernel
theorem dX10_send_42 : decode cX10_send 42 = .ok (.iconst (-1), 1) := by decide +kernel
theorem dX10_send_43 : decode cX10_send 43 = .ok (.iconst (-1), 1) := by decide +kernel
theorem dX10_send_44 : decode cX10_send 44 = .ok (.iconst 0, 1) := by decide +kernel
theorem dX10_send_45 : decode cX10_send 45 = .ok (.invokevirtual 192, 3) := by decide +kernel
theorem dX10_send_48 : decode cX10_send 48 = .ok (.ireturn, 1) := by decide +kernel
set_option maxHeartbeats 4000000 in
set_option maxRecDepth 100000 in
theorem c_X10_send (l : Launch) (E : EE) (z0 : Nat) (G : Nat → Nat) (hGz : ∀ q, G q ≠ 0 → z0 ≤ q) (h0 : Nat) (p0 p1 p2 : Int32) (hG : G h0 = 20) : Met l yX10_send [Cond.code yX10_send cX10_send 4 (some .int)] ({ frames := 2, cells := 0, slots := 0, locals := 44 } : Room) (va_Pc [.ref h0, .int p0, .int p1, .int p2] (fun U => TH E (T0 E) G [] U.heap ∧ KS E z0 U)) (va_Qi (fun (r : Int32) (_ : Unit) => r = 0) (fun _ t => ∃ fs : List Value, va_at (DG E) vwCl (h0, .inr (10, fs)) t.heap ∧ fs[3]? = some (.int (if (0 ≤ p0.toInt ∧ p0.toInt < 4 ∧ 1 ≤ p2.toInt ∧ p2.toInt ≤ 12 ∧ 0 ≤ p1.toInt ∧ p1.toInt ≤ 32 - p2.toInt) then 2 else 1))) (fun q : Nat => G q ≠ 0)) 0 0 (fun q : Nat => G q ≠ 0) := by
  refine Met.ofW (cc := cX10_send) (maxL := 4) (ret := (some .int)) (by decide) rfl ?_
  intro p e s m args below meth c s₁ B hml hv
  obtain ⟨rfl, hT, hK⟩ := hv
  have hx := B.exec
  have hb := B.bytes
  have hr := B.returns
  have hts : ∀ w ∈ TS, w.before ([.ref h0, .int p0, .int p1, .int p2] : List Value).toArray s = true := fun w hw => hK.2.1 w hw _
  have hown : s.vm.findClass RX10 = some m.cls := findClass_of_methodNamed B.named
  have hlocks := B.notSynchronized
  have hS : va_S (fun q : Nat => G q ≠ 0) s.heap s.heap [] := va_S.rf
  have hAz : ∀ q, (fun q : Nat => G q ≠ 0) q → z0 ≤ q := hGz
  have hl := lv_entry ([.ref h0, .int p0, .int p1, .int p2]) (n := 4) (Nat.le_of_ble_eq_true rfl)
  rw [lg_entry_eq]
  generalize (lg_sl ([.ref h0, .int p0, .int p1, .int p2]) ++ List.replicate (4 - (lg_sl ([.ref h0, .int p0, .int p1, .int p2])).length) Slot.unset).toArray = ls at hl ⊢
  have hl : lv_has ls 4 [(0, .ref h0), (1, .int p0), (2, .int p1), (3, .int p2)] := hl
  refine lv_aload_n hx hb dX10_send_0 rfl (lv_at hl 0 rfl) ?_
  refine lv_iconst (v := 0) hx hb dX10_send_1 (by decide) ?_
  obtain ⟨t0_1, t1_1, t2_1, r_1, ha_1, hg_1⟩ := tg_20 hT hG nx_0
  refine rr_put (D := DG E) (ci := 10) (v := .int 0) (ty := .int) (C := RX10) (T := TX10) (N := 49) hx hb hts iw_X10 tyX10 tyX10_ok nmX10 hown hK.1 ha_1 hS (by show G h0 ≠ 0; rw [hG]; decide) rfl 3 (by decide) (hts _ fl_X10_153) (fun _ h9 => h9) rfl (by decide +kernel) rfl rfl (Nat.le_of_ble_eq_true rfl) dX10_send_2 (fun H locs hn ho hz hS => ?_)
  have hr_2 : va_at (DG E) vwCl (h0, .inr (10, mfs t0_1 t1_1 t2_1 0 r_1 0)) H := hn
  have hT : TH E (T0 E) G [] H := hT.set hG (show T0 E G 20 _ from ⟨t0_1, t1_1, t2_1, r_1, rfl, hg_1⟩) hr_2 ho
  refine lv_aload_n hx hb dX10_send_5 rfl (lv_at hl 0 rfl) ?_
  refine lv_iload_n hx hb dX10_send_6 rfl (lv_at hl 1 rfl) ?_
  refine lv_iload_n hx hb dX10_send_7 rfl (lv_at hl 2 rfl) ?_
  refine lv_iload_n hx hb dX10_send_8 rfl (lv_at hl 3 rfl) ?_
  obtain ⟨t0_3, t1_3, t2_3, r_3, ha_3, hg_3⟩ := tg_20 hT hG nx_0
  refine va_calli (rnV (fun H => TH E (T0 E) G [] H) (As := [.int p0, .int p1, .int p2]) (rest := []) ⟨hx, hb, hml, hown, hts⟩ (c_X10_cellsGood l E z0 G hGz h0 p0 p1 p2 hG) (cwV 3 hts (gdV ml_X10_181 im_X10_cellsGood se_X10_X10_cellsGood in_X10 co_X10_cellsGood rfl) rfl rfl rfl (by decide +kernel) ⟨Nat.le_of_ble_eq_true rfl, Nat.le_of_ble_eq_true rfl⟩) hT (fun U hU hW => hK.go hW hS hAz hU) (va_recv hK.1 (va_one ha_3) (ci := 10) (q0 := 0) rfl rfl) rfl rfl hl.1 rfl (lv_room (Nat.le_of_ble_eq_true rfl)) dX10_send_9 ⟨Nat.le_of_ble_eq_true rfl, Nat.le_of_ble_eq_true rfl⟩) hS (fun q _ h => h.elim) (fun q h => h.elim) (fun r_4 _ t H locs ht hvm hw hB hz hk hS => ?_)
  have hT : TH E (T0 E) G [] H := hT.kept (fun q hq => hk q hq (fun h => h))
  subst hw
  refine lv_if_ne (tgt := 21) hx hb dX10_send_12 (by decide) (fun c_5 => ?_) (fun c_5 => ?_)
  · have c_5 := bI_n c_5
    try simp only [lt_I, le_I, eq_I, i_0, i_1, i_2, i_3, i_4, i_5, i_6, i_7, i_8, i_10, i_12, i_16, i_20, i_23, i_24, i_31, i_32, i_63, i_64, i_m1] at c_5
    refine lv_aload_n hx hb dX10_send_21 rfl (lv_at hl 0 rfl) ?_
    refine lv_iload_n hx hb dX10_send_22 rfl (lv_at hl 1 rfl) ?_
    obtain ⟨t0_6, t1_6, t2_6, r_6, ha_6, hg_6⟩ := tg_20 hT hG nx_0
    refine va_calli (rnV (fun H => TH E (T0 E) G [] H) (As := [.int p0]) (rest := []) ⟨hx, hb, hml, hown, hts⟩ (c_X10_full l E z0 G hGz h0 p0 hG (by omega)) (cwV 1 hts (gdV ml_X10_188 im_X10_full se_X10_X10_full in_X10 co_X10_full rfl) rfl rfl rfl (by decide +kernel) ⟨Nat.le_of_ble_eq_true rfl, Nat.le_of_ble_eq_true rfl⟩) hT (fun U hU hW => hK.go hW hS hAz hU) (va_recv hK.1 (va_one ha_6) (ci := 10) (q0 := 0) rfl rfl) rfl rfl hl.1 rfl (lv_room (Nat.le_of_ble_eq_true rfl)) dX10_send_23 ⟨Nat.le_of_ble_eq_true rfl, Nat.le_of_ble_eq_true rfl⟩) hS (fun q _ h => h.elim) (fun q h => h.elim) (fun r_7 _ t H locs ht hvm hw hB hz hk hS => ?_)
    have hT : TH E (T0 E) G [] H := hT.kept (fun q hq => hk q hq (fun h => h))
    obtain rfl : r_7 = 1 := hw
    refine lv_if_eq (tgt := 37) hx hb dX10_send_26 (by decide) (fun c_8 => absurd c_8 (by decide)) (fun c_8 => ?_)
    refine lv_aload_n hx hb dX10_send_29 rfl (lv_at hl 0 rfl) ?_
    refine lv_iconst (v := 2) hx hb dX10_send_30 (by decide) ?_
    obtain ⟨t0_9, t1_9, t2_9, r_9, ha_9, hg_9⟩ := tg_20 hT hG nx_0
    refine va_calli (rnV (fun H => TH E (T0 E) G [] H) (As := [.int 2]) (rest := []) ⟨hx, hb, hml, hown, hts⟩ (c_X10_fail l E z0 G hGz h0 2 hG) (cwV 1 hts (gdV ml_X10_185 im_X10_fail se_X10_X10_fail in_X10 co_X10_fail rfl) rfl rfl rfl (by decide +kernel) ⟨Nat.le_of_ble_eq_true rfl, Nat.le_of_ble_eq_true rfl⟩) hT (fun U hU hW => hK.go hW hS hAz hU) (va_recv hK.1 (va_one ha_9) (ci := 10) (q0 := 0) rfl rfl) rfl rfl hl.1 rfl (lv_room (Nat.le_of_ble_eq_true rfl)) dX10_send_31 ⟨Nat.le_of_ble_eq_true rfl, Nat.le_of_ble_eq_true rfl⟩) hS (fun q _ h => by rw [h]; show G _ ≠ 0; rw [hG]; decide) (fun q h => by rw [h]; show G _ ≠ 0; rw [hG]; decide) (fun r_10 _ t H locs ht hvm hw hB hz hk hS => ?_)
    obtain ⟨fsx, hatx, hfx⟩ := hB
    rw [ht] at hatx
    have hT : TH E (T0 E) G [h0] H := hT.keptx (fun q hq => List.mem_append_left [h0] hq) (fun q hz hq => hk q hz (fun e => hq (by rw [e]; simp)))
    obtain rfl : r_10 = 0 := hw
    refine lv_goto (tgt := 48) hx hb dX10_send_34 (by decide) ?_
    exact W.iret (v := 0) hx hb hr (fun t ht hW => ⟨⟨0, (), rfl, rfl, ⟨_, (by show va_at _ _ _ t.heap; rw [ht]; exact hatx), (by rw [if_pos (by omega)]; exact hfx)⟩⟩, hS.F ht⟩) hS.2.2 dX10_send_48
  · have c_5 := bI_0 c_5
    try simp only [lt_I, le_I, eq_I, i_0, i_1, i_2, i_3, i_4, i_5, i_6, i_7, i_8, i_10, i_12, i_16, i_20, i_23, i_24, i_31, i_32, i_63, i_64, i_m1] at c_5
    refine lv_aload_n hx hb dX10_send_15 rfl (lv_at hl 0 rfl) ?_
    refine lv_iconst (v := 1) hx hb dX10_send_16 (by decide) ?_
    obtain ⟨t0_11, t1_11, t2_11, r_11, ha_11, hg_11⟩ := tg_20 hT hG nx_0
    refine va_calli (rnV (fun H => TH E (T0 E) G [] H) (As := [.int 1]) (rest := []) ⟨hx, hb, hml, hown, hts⟩ (c_X10_fail l E z0 G hGz h0 1 hG) (cwV 1 hts (gdV ml_X10_185 im_X10_fail se_X10_X10_fail in_X10 co_X10_fail rfl) rfl rfl rfl (by decide +kernel) ⟨Nat.le_of_ble_eq_true rfl, Nat.le_of_ble_eq_true rfl⟩) hT (fun U hU hW => hK.go hW hS hAz hU) (va_recv hK.1 (va_one ha_11) (ci := 10) (q0 := 0) rfl rfl) rfl rfl hl.1 rfl (lv_room (Nat.le_of_ble_eq_true rfl)) dX10_send_17 ⟨Nat.le_of_ble_eq_true rfl, Nat.le_of_ble_eq_true rfl⟩) hS (fun q _ h => by rw [h]; show G _ ≠ 0; rw [hG]; decide) (fun q h => by rw [h]; show G _ ≠ 0; rw [hG]; decide) (fun r_12 _ t H locs ht hvm hw hB hz hk hS => ?_)
    obtain ⟨fsx, hatx, hfx⟩ := hB
    rw [ht] at hatx
    have hT : TH E (T0 E) G [h0] H := hT.keptx (fun q hq => List.mem_append_left [h0] hq) (fun q hz hq => hk q hz (fun e => hq (by rw [e]; simp)))
    obtain rfl : r_12 = 0 := hw
    exact W.iret (v := 0) hx hb hr (fun t ht hW => ⟨⟨0, (), rfl, rfl, ⟨_, (by show va_at _ _ _ t.heap; rw [ht]; exact hatx), (by rw [if_neg (by omega)]; exact hfx)⟩⟩, hS.F ht⟩) hS.2.2 dX10_send_20
theorem dX10_move_0 : decode cX10_move 0 = .ok (.aload_n 0, 1) := by decide +kernel
theorem dX10_move_1 : decode cX10_move 1 = .ok (.iconst 0, 1) := by decide +kernel
theorem dX10_move_2 : decode cX10_move 2 = .ok (.putfield 153, 3) := by decide +kernel
theorem dX10_move_5 : decode cX10_move 5 = .ok (.aload_n 0, 1) := by decide +kernel
theorem dX10_move_6 : decode cX10_move 6 = .ok (.iload_n 1, 1) := by decide +kernel
theorem dX10_move_7 : decode cX10_move 7 = .ok (.iload_n 3, 1) := by decide +kernel
theorem dX10_move_8 : decode cX10_move 8 = .ok (.iload 4, 2) := by decide +kernel
theorem dX10_move_10 : decode cX10_move 10 = .ok (.invokevirtual 181, 3) := by decide +kernel
theorem dX10_move_13 : decode cX10_move 13 = .ok (.ifCond .eq 22, 3) := by decide +kernel
theorem dX10_move_16 : decode cX10_move 16 = .ok (.iload 5, 2) := by decide +kernel
theorem dX10_move_18 : decode cX10_move 18 = .ok (.iconst 5, 1) := by decide +kernel
theorem dX10_move_19 : decode cX10_move 19 = .ok (.invokestatic 156, 3) := by decide +kernel
theorem dX10_move_22 : decode cX10_move 22 = .ok (.ifCond .eq 13, 3) := by decide +kernel
theorem dX10_move_25 : decode cX10_move 25 = .ok (.iload 6, 2) := by decide +kernel
theorem dX10_move_27 : decode cX10_move 27 = .ok (.bipush 31, 2) := by decide +kernel
theorem dX10_move_29 : decode cX10_move 29 = .ok (.invokestatic 156, 3) := by decide +kernel
theorem dX10_move_32 : decode cX10_move 32 = .ok (.ifCond .ne 9, 3) := by decide +kernel
theorem dX10_move_35 : decode cX10_move 35 = .ok (.aload_n 0, 1) := by decide +kernel
theorem dX10_move_36 : decode cX10_move 36 = .ok (.iconst 1, 1) := by decide +kernel
theorem dX10_move_37 : decode cX10_move 37 = .ok (.invokevirtual 185, 3) := by decide +kernel
theorem dX10_move_40 : decode cX10_move 40 = .ok (.ireturn, 1) := by decide +kernel
theorem dX10_move_41 : decode cX10_move 41 = .ok (.aload_n 0, 1) := by decide +kernel
theorem dX10_move_42 : decode cX10_move 42 = .ok (.iload_n 1, 1) := by decide +kernel
theorem dX10_move_43 : decode cX10_move 43 = .ok (.invokevirtual 188, 3) := by decide +kernel
theorem dX10_move_46 : decode cX10_move 46 = .ok (.ifCond .eq 11, 3) := by decide +kernel
theorem dX10_move_49 : decode cX10_move 49 = .ok (.aload_n 0, 1) := by decide +kernel
theorem dX10_move_50 : decode cX10_move 50 = .ok (.iconst 2, 1) := by decide +kernel
theorem dX10_move_51 : decode cX10_move 51 = .ok (.invokevirtual 185, 3) := by decide +kernel
theorem dX10_move_54 : decode cX10_move 54 = .ok (.goto 25, 3) := by decide +kernel
theorem dX10_move_57 : decode cX10_move 57 = .ok (.aload_n 0, 1) := by decide +kernel
theorem dX10_move_58 : decode cX10_move 58 = .ok (.iload_n 1, 1) := by decide +kernel
theorem dX10_move_59 : decode cX10_move 59 = .ok (.iload_n 2, 1) := by decide +kernel
theorem dX10_move_60 : decode cX10_move 60 = .ok (.ifCond .eq 7, 3) := by decide +kernel
theorem dX10_move_63 : decode cX10_move 63 = .ok (.iconst 2, 1) := by decide +kernel
theorem dX10_move_64 : decode cX10_move 64 = .ok (.goto 4, 3) := by decide +kernel
theorem dX10_move_67 : decode cX10_move 67 = .ok (.iconst 1, 1) := by decide +kernel
theorem dX10_move_68 : decode cX10_move 68 = .ok (.iload_n 3, 1) := by decide +kernel
theorem dX10_move_69 : decode cX10_move 69 = .ok (.iload 4, 2) := by decide +kernel
theorem dX10_move_71 : decode cX10_move 71 = .ok (.iload 5, 2) := by decide +kernel
theorem dX10_move_73 : decode cX10_move 73 = .ok (.iload 6, 2) := by decide +kernel
theorem dX10_move_75 : decode cX10_move 75 = .ok (.iconst 0, 1) := by decide +kernel
theorem dX10_move_76 : decode cX10_move 76 = .ok (.invokevirtual 192, 3) := by decide +kernel
theorem dX10_move_79 : decode cX10_move 79 = .ok (.ireturn, 1) := by decide +kernel
set_option maxHeartbeats 4000000 in
set_option maxRecDepth 100000 in
theorem c_X10_move (l : Launch) (E : EE) (z0 : Nat) (G : Nat → Nat) (hGz : ∀ q, G q ≠ 0 → z0 ≤ q) (h0 : Nat) (p0 p1 p2 p3 p4 p5 : Int32) (hG : G h0 = 20) : Met l yX10_move [Cond.code yX10_move cX10_move 7 (some .int)] ({ frames := 2, cells := 0, slots := 0, locals := 44 } : Room) (va_Pc [.ref h0, .int p0, .int p1, .int p2, .int p3, .int p4, .int p5] (fun U => TH E (T0 E) G [] U.heap ∧ KS E z0 U)) (va_Qi (fun (r : Int32) (_ : Unit) => r = 0) (fun _ t => ∃ fs : List Value, va_at (DG E) vwCl (h0, .inr (10, fs)) t.heap ∧ fs[3]? = some (.int (if (0 ≤ p0.toInt ∧ p0.toInt < 4 ∧ 1 ≤ p3.toInt ∧ p3.toInt ≤ 12 ∧ 0 ≤ p2.toInt ∧ p2.toInt ≤ 32 - p3.toInt ∧ 0 ≤ p4.toInt ∧ p4.toInt < 6 ∧ 0 ≤ p5.toInt ∧ p5.toInt < 32) then 2 else 1))) (fun q : Nat => G q ≠ 0)) 0 0 (fun q : Nat => G q ≠ 0) := by
  refine Met.ofW (cc := cX10_move) (maxL := 7) (ret := (some .int)) (by decide) rfl ?_
  intro p e s m args below meth c s₁ B hml hv
  obtain ⟨rfl, hT, hK⟩ := hv
  have hx := B.exec
  have hb := B.bytes
  have hr := B.returns
  have hts : ∀ w ∈ TS, w.before ([.ref h0, .int p0, .int p1, .int p2, .int p3, .int p4, .int p5] : List Value).toArray s = true := fun w hw => hK.2.1 w hw _
  have hown : s.vm.findClass RX10 = some m.cls := findClass_of_methodNamed B.named
  have hlocks := B.notSynchronized
  have hS : va_S (fun q : Nat => G q ≠ 0) s.heap s.heap [] := va_S.rf
  have hAz : ∀ q, (fun q : Nat => G q ≠ 0) q → z0 ≤ q := hGz
  have hl := lv_entry ([.ref h0, .int p0, .int p1, .int p2, .int p3, .int p4, .int p5]) (n := 7) (Nat.le_of_ble_eq_true rfl)
  rw [lg_entry_eq]
  generalize (lg_sl ([.ref h0, .int p0, .int p1, .int p2, .int p3, .int p4, .int p5]) ++ List.replicate (7 - (lg_sl ([.ref h0, .int p0, .int p1, .int p2, .int p3, .int p4, .int p5])).length) Slot.unset).toArray = ls at hl ⊢
  have hl : lv_has ls 7 [(0, .ref h0), (1, .int p0), (2, .int p1), (3, .int p2), (4, .int p3), (5, .int p4), (6, .int p5)] := hl
  refine lv_aload_n hx hb dX10_move_0 rfl (lv_at hl 0 rfl) ?_
  refine lv_iconst (v := 0) hx hb dX10_move_1 (by decide) ?_
  obtain ⟨t0_1, t1_1, t2_1, r_1, ha_1, hg_1⟩ := tg_20 hT hG nx_0
  refine rr_put (D := DG E) (ci := 10) (v := .int 0) (ty := .int) (C := RX10) (T := TX10) (N := 49) hx hb hts iw_X10 tyX10 tyX10_ok nmX10 hown hK.1 ha_1 hS (by show G h0 ≠ 0; rw [hG]; decide) rfl 3 (by decide) (hts _ fl_X10_153) (fun _ h9 => h9) rfl (by decide +kernel) rfl rfl (Nat.le_of_ble_eq_true rfl) dX10_move_2 (fun H locs hn ho hz hS => ?_)
  have hr_2 : va_at (DG E) vwCl (h0, .inr (10, mfs t0_1 t1_1 t2_1 0 r_1 0)) H := hn
  have hT : TH E (T0 E) G [] H := hT.set hG (show T0 E G 20 _ from ⟨t0_1, t1_1, t2_1, r_1, rfl, hg_1⟩) hr_2 ho
  refine lv_aload_n hx hb dX10_move_5 rfl (lv_at hl 0 rfl) ?_
  refine lv_iload_n hx hb dX10_move_6 rfl (lv_at hl 1 rfl) ?_
  refine lv_iload_n hx hb dX10_move_7 rfl (lv_at hl 3 rfl) ?_
  refine lv_iload hx hb dX10_move_8 (lv_at hl 4 rfl) ?_
  obtain ⟨t0_3, t1_3, t2_3, r_3, ha_3, hg_3⟩ := tg_20 hT hG nx_0
  refine va_calli (rnV (fun H => TH E (T0 E) G [] H) (As := [.int p0, .int p2, .int p3]) (rest := []) ⟨hx, hb, hml, hown, hts⟩ (c_X10_cellsGood l E z0 G hGz h0 p0 p2 p3 hG) (cwV 3 hts (gdV ml_X10_181 im_X10_cellsGood se_X10_X10_cellsGood in_X10 co_X10_cellsGood rfl) rfl rfl rfl (by decide +kernel) ⟨Nat.le_of_ble_eq_true rfl, Nat.le_of_ble_eq_true rfl⟩) hT (fun U hU hW => hK.go hW hS hAz hU) (va_recv hK.1 (va_one ha_3) (ci := 10) (q0 := 0) rfl rfl) rfl rfl hl.1 rfl (lv_room (Nat.le_of_ble_eq_true rfl)) dX10_move_10 ⟨Nat.le_of_ble_eq_true rfl, Nat.le_of_ble_eq_true rfl⟩) hS (fun q _ h => h.elim) (fun q h => h.elim) (fun r_4 _ t H locs ht hvm hw hB hz hk hS => ?_)
  have hT : TH E (T0 E) G [] H := hT.kept (fun q hq => hk q hq (fun h => h))
  subst hw
  refine lv_if_eq (tgt := 35) hx hb dX10_move_13 (by decide) (fun c_5 => ?_) (fun c_5 => ?_)
  · have c_5 := bI_0 c_5
    try simp only [lt_I, le_I, eq_I, i_0, i_1, i_2, i_3, i_4, i_5, i_6, i_7, i_8, i_10, i_12, i_16, i_20, i_23, i_24, i_31, i_32, i_63, i_64, i_m1] at c_5
    refine lv_aload_n hx hb dX10_move_35 rfl (lv_at hl 0 rfl) ?_
    refine lv_iconst (v := 1) hx hb dX10_move_36 (by decide) ?_
    obtain ⟨t0_6, t1_6, t2_6, r_6, ha_6, hg_6⟩ := tg_20 hT hG nx_0
    refine va_calli (rnV (fun H => TH E (T0 E) G [] H) (As := [.int 1]) (rest := []) ⟨hx, hb, hml, hown, hts⟩ (c_X10_fail l E z0 G hGz h0 1 hG) (cwV 1 hts (gdV ml_X10_185 im_X10_fail se_X10_X10_fail in_X10 co_X10_fail rfl) rfl rfl rfl (by decide +kernel) ⟨Nat.le_of_ble_eq_true rfl, Nat.le_of_ble_eq_true rfl⟩) hT (fun U hU hW => hK.go hW hS hAz hU) (va_recv hK.1 (va_one ha_6) (ci := 10) (q0 := 0) rfl rfl) rfl rfl hl.1 rfl (lv_room (Nat.le_of_ble_eq_true rfl)) dX10_move_37 ⟨Nat.le_of_ble_eq_true rfl, Nat.le_of_ble_eq_true rfl⟩) hS (fun q _ h => by rw [h]; show G _ ≠ 0; rw [hG]; decide) (fun q h => by rw [h]; show G _ ≠ 0; rw [hG]; decide) (fun r_7 _ t H locs ht hvm hw hB hz hk hS => ?_)
    obtain ⟨fsx, hatx, hfx⟩ := hB
    rw [ht] at hatx
    have hT : TH E (T0 E) G [h0] H := hT.keptx (fun q hq => List.mem_append_left [h0] hq) (fun q hz hq => hk q hz (fun e => hq (by rw [e]; simp)))
    obtain rfl : r_7 = 0 := hw
    exact W.iret (v := 0) hx hb hr (fun t ht hW => ⟨⟨0, (), rfl, rfl, ⟨_, (by show va_at _ _ _ t.heap; rw [ht]; exact hatx), (by rw [if_neg (by omega)]; exact hfx)⟩⟩, hS.F ht⟩) hS.2.2 dX10_move_40
  · have c_5 := bI_n c_5
    try simp only [lt_I, le_I, eq_I, i_0, i_1, i_2, i_3, i_4, i_5, i_6, i_7, i_8, i_10, i_12, i_16, i_20, i_23, i_24, i_31, i_32, i_63, i_64, i_m1] at c_5
    refine lv_iload hx hb dX10_move_16 (lv_at hl 5 rfl) ?_
    refine lv_iconst (v := 5) hx hb dX10_move_18 (by decide) ?_
    refine W.callR (W.runS (As := [.int p4, .int 5]) (rest := []) ⟨hx, hb, hml, hown, hts⟩ (c_X10_within l p4 5) (cwS 2 hts (gdS ml_X10_156 st_X10_within in_X10 co_X10_within rfl) rfl rfl rfl (by decide +kernel) ⟨Nat.le_of_ble_eq_true rfl, Nat.le_of_ble_eq_true rfl⟩) preEq rfl rfl hl.1 rfl (lv_room (Nat.le_of_ble_eq_true rfl)) dX10_move_19 ⟨Nat.le_of_ble_eq_true rfl, Nat.le_of_ble_eq_true rfl⟩) ?_
    refine W.eq (g2 := F0 m 22 ls [.int (bI (0 ≤ p4.toInt ∧ p4.toInt ≤ (5 : Int32).toInt))]) (by rfl) ?_
    refine lv_if_eq (tgt := 35) hx hb dX10_move_22 (by decide) (fun c_8 => ?_) (fun c_8 => ?_)
    · have c_8 := bI_0 c_8
      try simp only [lt_I, le_I, eq_I, i_0, i_1, i_2, i_3, i_4, i_5, i_6, i_7, i_8, i_10, i_12, i_16, i_20, i_23, i_24, i_31, i_32, i_63, i_64, i_m1] at c_8
      refine lv_aload_n hx hb dX10_move_35 rfl (lv_at hl 0 rfl) ?_
      refine lv_iconst (v := 1) hx hb dX10_move_36 (by decide) ?_
      obtain ⟨t0_9, t1_9, t2_9, r_9, ha_9, hg_9⟩ := tg_20 hT hG nx_0
      refine va_calli (rnV (fun H => TH E (T0 E) G [] H) (As := [.int 1]) (rest := []) ⟨hx, hb, hml, hown, hts⟩ (c_X10_fail l E z0 G hGz h0 1 hG) (cwV 1 hts (gdV ml_X10_185 im_X10_fail se_X10_X10_fail in_X10 co_X10_fail rfl) rfl rfl rfl (by decide +kernel) ⟨Nat.le_of_ble_eq_true rfl, Nat.le_of_ble_eq_true rfl⟩) hT (fun U hU hW => hK.go hW hS hAz hU) (va_recv hK.1 (va_one ha_9) (ci := 10) (q0 := 0) rfl rfl) rfl rfl hl.1 rfl (lv_room (Nat.le_of_ble_eq_true rfl)) dX10_move_37 ⟨Nat.le_of_ble_eq_true rfl, Nat.le_of_ble_eq_true rfl⟩) hS (fun q _ h => by rw [h]; show G _ ≠ 0; rw [hG]; decide) (fun q h => by rw [h]; show G _ ≠ 0; rw [hG]; decide) (fun r_10 _ t H locs ht hvm hw hB hz hk hS => ?_)
      obtain ⟨fsx, hatx, hfx⟩ := hB
      rw [ht] at hatx
      have hT : TH E (T0 E) G [h0] H := hT.keptx (fun q hq => List.mem_append_left [h0] hq) (fun q hz hq => hk q hz (fun e => hq (by rw [e]; simp)))
      obtain rfl : r_10 = 0 := hw
      exact W.iret (v := 0) hx hb hr (fun t ht hW => ⟨⟨0, (), rfl, rfl, ⟨_, (by show va_at _ _ _ t.heap; rw [ht]; exact hatx), (by rw [if_neg (by omega)]; exact hfx)⟩⟩, hS.F ht⟩) hS.2.2 dX10_move_40
    · have c_8 := bI_n c_8
      try simp only [lt_I, le_I, eq_I, i_0, i_1, i_2, i_3, i_4, i_5, i_6, i_7, i_8, i_10, i_12, i_16, i_20, i_23, i_24, i_31, i_32, i_63, i_64, i_m1] at c_8
      refine lv_iload hx hb dX10_move_25 (lv_at hl 6 rfl) ?_
      refine lv_bipush (v := 31) hx hb dX10_move_27 (by decide) ?_
      refine W.callR (W.runS (As := [.int p5, .int 31]) (rest := []) ⟨hx, hb, hml, hown, hts⟩ (c_X10_within l p5 31) (cwS 2 hts (gdS ml_X10_156 st_X10_within in_X10 co_X10_within rfl) rfl rfl rfl (by decide +kernel) ⟨Nat.le_of_ble_eq_true rfl, Nat.le_of_ble_eq_true rfl⟩) preEq rfl rfl hl.1 rfl (lv_room (Nat.le_of_ble_eq_true rfl)) dX10_move_29 ⟨Nat.le_of_ble_eq_true rfl, Nat.le_of_ble_eq_true rfl⟩) ?_
      refine W.eq (g2 := F0 m 32 ls [.int (bI (0 ≤ p5.toInt ∧ p5.toInt ≤ (31 : Int32).toInt))]) (by rfl) ?_
      refine lv_if_ne (tgt := 41) hx hb dX10_move_32 (by decide) (fun c_11 => ?_) (fun c_11 => ?_)
      · have c_11 := bI_n c_11
        try simp only [lt_I, le_I, eq_I, i_0, i_1, i_2, i_3, i_4, i_5, i_6, i_7, i_8, i_10, i_12, i_16, i_20, i_23, i_24, i_31, i_32, i_63, i_64, i_m1] at c_11
        refine lv_aload_n hx hb dX10_move_41 rfl (lv_at hl 0 rfl) ?_
        refine lv_iload_n hx hb dX10_move_42 rfl (lv_at hl 1 rfl) ?_
        obtain ⟨t0_12, t1_12, t2_12, r_12, ha_12, hg_12⟩ := tg_20 hT hG nx_0
        refine va_calli (rnV (fun H => TH E (T0 E) G [] H) (As := [.int p0]) (rest := []) ⟨hx, hb, hml, hown, hts⟩ (c_X10_full l E z0 G hGz h0 p0 hG (by omega)) (cwV 1 hts (gdV ml_X10_188 im_X10_full se_X10_X10_full in_X10 co_X10_full rfl) rfl rfl rfl (by decide +kernel) ⟨Nat.le_of_ble_eq_true rfl, Nat.le_of_ble_eq_true rfl⟩) hT (fun U hU hW => hK.go hW hS hAz hU) (va_recv hK.1 (va_one ha_12) (ci := 10) (q0 := 0) rfl rfl) rfl rfl hl.1 rfl (lv_room (Nat.le_of_ble_eq_true rfl)) dX10_move_43 ⟨Nat.le_of_ble_eq_true rfl, Nat.le_of_ble_eq_true rfl⟩) hS (fun q _ h => h.elim) (fun q h => h.elim) (fun r_13 _ t H locs ht hvm hw hB hz hk hS => ?_)
        have hT : TH E (T0 E) G [] H := hT.kept (fun q hq => hk q hq (fun h => h))
        obtain rfl : r_13 = 1 := hw
        refine lv_if_eq (tgt := 57) hx hb dX10_move_46 (by decide) (fun c_14 => absurd c_14 (by decide)) (fun c_14 => ?_)
        refine lv_aload_n hx hb dX10_move_49 rfl (lv_at hl 0 rfl) ?_
        refine lv_iconst (v := 2) hx hb dX10_move_50 (by decide) ?_
        obtain ⟨t0_15, t1_15, t2_15, r_15, ha_15, hg_15⟩ := tg_20 hT hG nx_0
        refine va_calli (rnV (fun H => TH E (T0 E) G [] H) (As := [.int 2]) (rest := []) ⟨hx, hb, hml, hown, hts⟩ (c_X10_fail l E z0 G hGz h0 2 hG) (cwV 1 hts (gdV ml_X10_185 im_X10_fail se_X10_X10_fail in_X10 co_X10_fail rfl) rfl rfl rfl (by decide +kernel) ⟨Nat.le_of_ble_eq_true rfl, Nat.le_of_ble_eq_true rfl⟩) hT (fun U hU hW => hK.go hW hS hAz hU) (va_recv hK.1 (va_one ha_15) (ci := 10) (q0 := 0) rfl rfl) rfl rfl hl.1 rfl (lv_room (Nat.le_of_ble_eq_true rfl)) dX10_move_51 ⟨Nat.le_of_ble_eq_true rfl, Nat.le_of_ble_eq_true rfl⟩) hS (fun q _ h => by rw [h]; show G _ ≠ 0; rw [hG]; decide) (fun q h => by rw [h]; show G _ ≠ 0; rw [hG]; decide) (fun r_16 _ t H locs ht hvm hw hB hz hk hS => ?_)
        obtain ⟨fsx, hatx, hfx⟩ := hB
        rw [ht] at hatx
        have hT : TH E (T0 E) G [h0] H := hT.keptx (fun q hq => List.mem_append_left [h0] hq) (fun q hz hq => hk q hz (fun e => hq (by rw [e]; simp)))
        obtain rfl : r_16 = 0 := hw
        refine lv_goto (tgt := 79) hx hb dX10_move_54 (by decide) ?_
        exact W.iret (v := 0) hx hb hr (fun t ht hW => ⟨⟨0, (), rfl, rfl, ⟨_, (by show va_at _ _ _ t.heap; rw [ht]; exact hatx), (by rw [if_pos (by omega)]; exact hfx)⟩⟩, hS.F ht⟩) hS.2.2 dX10_move_79
      · have c_11 := bI_0 c_11
        try simp only [lt_I, le_I, eq_I, i_0, i_1, i_2, i_3, i_4, i_5, i_6, i_7, i_8, i_10, i_12, i_16, i_20, i_23, i_24, i_31, i_32, i_63, i_64, i_m1] at c_11
        refine lv_aload_n hx hb dX10_move_35 rfl (lv_at hl 0 rfl) ?_
        refine lv_iconst (v := 1) hx hb dX10_move_36 (by decide) ?_
        obtain ⟨t0_17, t1_17, t2_17, r_17, ha_17, hg_17⟩ := tg_20 hT hG nx_0
        refine va_calli (rnV (fun H => TH E (T0 E) G [] H) (As := [.int 1]) (rest := []) ⟨hx, hb, hml, hown, hts⟩ (c_X10_fail l E z0 G hGz h0 1 hG) (cwV 1 hts (gdV ml_X10_185 im_X10_fail se_X10_X10_fail in_X10 co_X10_fail rfl) rfl rfl rfl (by decide +kernel) ⟨Nat.le_of_ble_eq_true rfl, Nat.le_of_ble_eq_true rfl⟩) hT (fun U hU hW => hK.go hW hS hAz hU) (va_recv hK.1 (va_one ha_17) (ci := 10) (q0 := 0) rfl rfl) rfl rfl hl.1 rfl (lv_room (Nat.le_of_ble_eq_true rfl)) dX10_move_37 ⟨Nat.le_of_ble_eq_true rfl, Nat.le_of_ble_eq_true rfl⟩) hS (fun q _ h => by rw [h]; show G _ ≠ 0; rw [hG]; decide) (fun q h => by rw [h]; show G _ ≠ 0; rw [hG]; decide) (fun r_18 _ t H locs ht hvm hw hB hz hk hS => ?_)
        obtain ⟨fsx, hatx, hfx⟩ := hB
        rw [ht] at hatx
        have hT : TH E (T0 E) G [h0] H := hT.keptx (fun q hq => List.mem_append_left [h0] hq) (fun q hz hq => hk q hz (fun e => hq (by rw [e]; simp)))
        obtain rfl : r_18 = 0 := hw
        exact W.iret (v := 0) hx hb hr (fun t ht hW => ⟨⟨0, (), rfl, rfl, ⟨_, (by show va_at _ _ _ t.heap; rw [ht]; exact hatx), (by rw [if_neg (by omega)]; exact hfx)⟩⟩, hS.F ht⟩) hS.2.2 dX10_move_40
theorem dX10_add_0 : decode cX10_add 0 = .ok (.aload_n 0, 1) := by decide +kernel
theorem dX10_add_1 : decode cX10_add 1 = .ok (.iconst 0, 1) := by decide +kernel
theorem dX10_add_2 : decode cX10_add 2 = .ok (.putfield 153, 3) := by decide +kernel
theorem dX10_add_5 : decode cX10_add 5 = .ok (.aload_n 0, 1) := by decide +kernel
theorem dX10_add_6 : decode cX10_add 6 = .ok (.iload_n 1, 1) := by decide +kernel
theorem dX10_add_7 : decode cX10_add 7 = .ok (.iload_n 2, 1) := by decide +kernel
theorem dX10_add_8 : decode cX10_add 8 = .ok (.iconst 1, 1) := by decide +kernel
theorem dX10_add_9 : decode cX10_add 9 = .ok (.invokevirtual 181, 3) := by decide +kernel
theorem dX10_add_12 : decode cX10_add 12 = .ok (.ifCond .eq 21, 3) := by decide +kernel
theorem dX10_add_15 : decode cX10_add 15 = .ok (.iload_n 3, 1) := by decide +kernel
theorem dX10_add_16 : decode cX10_add 16 = .ok (.iconst 5, 1) := by decide +kernel
theorem dX10_add_17 : decode cX10_add 17 = .ok (.invokestatic 156, 3) := by decide +kernel
theorem dX10_add_20 : decode cX10_add 20 = .ok (.ifCond .eq 13, 3) := by decide +kernel
theorem dX10_add_23 : decode cX10_add 23 = .ok (.iload 4, 2) := by decide +kernel
theorem dX10_add_25 : decode cX10_add 25 = .ok (.bipush 31, 2) := by decide +kernel
theorem dX10_add_27 : decode cX10_add 27 = .ok (.invokestatic 156, 3) := by decide +kernel
theorem dX10_add_30 : decode cX10_add 30 = .ok (.ifCond .ne 9, 3) := by decide +kernel
theorem dX10_add_33 : decode cX10_add 33 = .ok (.aload_n 0, 1) := by decide +kernel
theorem dX10_add_34 : decode cX10_add 34 = .ok (.iconst 1, 1) := by decide +kernel
theorem dX10_add_35 : decode cX10_add 35 = .ok (.invokevirtual 185, 3) := by decide +kernel
theorem dX10_add_38 : decode cX10_add 38 = .ok (.ireturn, 1) := by decide +kernel
theorem dX10_add_39 : decode cX10_add 39 = .ok (.aload_n 0, 1) := by decide +kernel
theorem dX10_add_40 : decode cX10_add 40 = .ok (.iload_n 1, 1) := by decide +kernel
theorem dX10_add_41 : decode cX10_add 41 = .ok (.invokevirtual 188, 3) := by decide +kernel
theorem dX10_add_44 : decode cX10_add 44 = .ok (.ifCond .eq 11, 3) := by decide +kernel
theorem dX10_add_47 : decode cX10_add 47 = .ok (.aload_n 0, 1) := by decide +kernel
theorem dX10_add_48 : decode cX10_add 48 = .ok (.iconst 2, 1) := by decide +kernel
theorem dX10_add_49 : decode cX10_add 49 = .ok (.invokevirtual 185, 3) := by decide +kernel
theorem dX10_add_52 : decode cX10_add 52 = .ok (.goto 16, 3) := by decide +kernel
theorem dX10_add_55 : decode cX10_add 55 = .ok (.aload_n 0, 1) := by decide +kernel
theorem dX10_add_56 : decode cX10_add 56 = .ok (.iload_n 1, 1) := by decide +kernel
theorem dX10_add_57 : decode cX10_add 57 = .ok (.iconst 3, 1) := by decide +kernel
theorem dX10_add_58 : decode cX10_add 58 = .ok (.iload_n 2, 1) := by decide +kernel
theorem dX10_add_59 : decode cX10_add 59 = .ok (.iconst 1, 1) := by decide +kernel
theorem dX10_add_60 : decode cX10_add 60 = .ok (.iload_n 3, 1) := by decide +kernel
theorem dX10_add_61 : decode cX10_add 61 = .ok (.iload 4, 2) := by decide +kernel
theorem dX10_add_63 : decode cX10_add 63 = .ok (.iload 5, 2) := by decide +kernel
theorem dX10_add_65 : decode cX10_add 65 = .ok (.invokevirtual 192, 3) := by decide +kernel
theorem dX10_add_68 : decode cX10_add 68 = .ok (.ireturn, 1) := by decide +kernel
set_option maxHeartbeats 4000000 in
set_option maxRecDepth 100000 in
theorem c_X10_add (l : Launch) (E : EE) (z0 : Nat) (G : Nat → Nat) (hGz : ∀ q, G q ≠ 0 → z0 ≤ q) (h0 : Nat) (p0 p1 p2 p3 p4 : Int32) (hG : G h0 = 20) : Met l yX10_add [Cond.code yX10_add cX10_add 6 (some .int)] ({ frames := 2, cells := 0, slots := 0, locals := 44 } : Room) (va_Pc [.ref h0, .int p0, .int p1, .int p2, .int p3, .int p4] (fun U => TH E (T0 E) G [] U.heap ∧ KS E z0 U)) (va_Qi (fun (r : Int32) (_ : Unit) => r = 0) (fun _ t => ∃ fs : List Value, va_at (DG E) vwCl (h0, .inr (10, fs)) t.heap ∧ fs[3]? = some (.int (if (0 ≤ p0.toInt ∧ p0.toInt < 4 ∧ 0 ≤ p1.toInt ∧ p1.toInt < 32 ∧ 0 ≤ p2.toInt ∧ p2.toInt < 6 ∧ 0 ≤ p3.toInt ∧ p3.toInt < 32) then 2 else 1))) (fun q : Nat => G q ≠ 0)) 0 0 (fun q : Nat => G q ≠ 0) := by
  refine Met.ofW (cc := cX10_add) (maxL := 6) (ret := (some .int)) (by decide) rfl ?_
  intro p e s m args below meth c s₁ B hml hv
  obtain ⟨rfl, hT, hK⟩ := hv
  have hx := B.exec
  have hb := B.bytes
  have hr := B.returns
  have hts : ∀ w ∈ TS, w.before ([.ref h0, .int p0, .int p1, .int p2, .int p3, .int p4] : List Value).toArray s = true := fun w hw => hK.2.1 w hw _
  have hown : s.vm.findClass RX10 = some m.cls := findClass_of_methodNamed B.named
  have hlocks := B.notSynchronized
  have hS : va_S (fun q : Nat => G q ≠ 0) s.heap s.heap [] := va_S.rf
  have hAz : ∀ q, (fun q : Nat => G q ≠ 0) q → z0 ≤ q := hGz
  have hl := lv_entry ([.ref h0, .int p0, .int p1, .int p2, .int p3, .int p4]) (n := 6) (Nat.le_of_ble_eq_true rfl)
  rw [lg_entry_eq]
  generalize (lg_sl ([.ref h0, .int p0, .int p1, .int p2, .int p3, .int p4]) ++ List.replicate (6 - (lg_sl ([.ref h0, .int p0, .int p1, .int p2, .int p3, .int p4])).length) Slot.unset).toArray = ls at hl ⊢
  have hl : lv_has ls 6 [(0, .ref h0), (1, .int p0), (2, .int p1), (3, .int p2), (4, .int p3), (5, .int p4)] := hl
  refine lv_aload_n hx hb dX10_add_0 rfl (lv_at hl 0 rfl) ?_
  refine lv_iconst (v := 0) hx hb dX10_add_1 (by decide) ?_
  obtain ⟨t0_1, t1_1, t2_1, r_1, ha_1, hg_1⟩ := tg_20 hT hG nx_0
  refine rr_put (D := DG E) (ci := 10) (v := .int 0) (ty := .int) (C := RX10) (T := TX10) (N := 49) hx hb hts iw_X10 tyX10 tyX10_ok nmX10 hown hK.1 ha_1 hS (by show G h0 ≠ 0; rw [hG]; decide) rfl 3 (by decide) (hts _ fl_X10_153) (fun _ h9 => h9) rfl (by decide +kernel) rfl rfl (Nat.le_of_ble_eq_true rfl) dX10_add_2 (fun H locs hn ho hz hS => ?_)
  have hr_2 : va_at (DG E) vwCl (h0, .inr (10, mfs t0_1 t1_1 t2_1 0 r_1 0)) H := hn
  have hT : TH E (T0 E) G [] H := hT.set hG (show T0 E G 20 _ from ⟨t0_1, t1_1, t2_1, r_1, rfl, hg_1⟩) hr_2 ho
  refine lv_aload_n hx hb dX10_add_5 rfl (lv_at hl 0 rfl) ?_
  refine lv_iload_n hx hb dX10_add_6 rfl (lv_at hl 1 rfl) ?_
  refine lv_iload_n hx hb dX10_add_7 rfl (lv_at hl 2 rfl) ?_
  refine lv_iconst (v := 1) hx hb dX10_add_8 (by decide) ?_
  obtain ⟨t0_3, t1_3, t2_3, r_3, ha_3, hg_3⟩ := tg_20 hT hG nx_0
  refine va_calli (rnV (fun H => TH E (T0 E) G [] H) (As := [.int p0, .int p1, .int 1]) (rest := []) ⟨hx, hb, hml, hown, hts⟩ (c_X10_cellsGood l E z0 G hGz h0 p0 p1 1 hG) (cwV 3 hts (gdV ml_X10_181 im_X10_cellsGood se_X10_X10_cellsGood in_X10 co_X10_cellsGood rfl) rfl rfl rfl (by decide +kernel) ⟨Nat.le_of_ble_eq_true rfl, Nat.le_of_ble_eq_true rfl⟩) hT (fun U hU hW => hK.go hW hS hAz hU) (va_recv hK.1 (va_one ha_3) (ci := 10) (q0 := 0) rfl rfl) rfl rfl hl.1 rfl (lv_room (Nat.le_of_ble_eq_true rfl)) dX10_add_9 ⟨Nat.le_of_ble_eq_true rfl, Nat.le_of_ble_eq_true rfl⟩) hS (fun q _ h => h.elim) (fun q h => h.elim) (fun r_4 _ t H locs ht hvm hw hB hz hk hS => ?_)
  have hT : TH E (T0 E) G [] H := hT.kept (fun q hq => hk q hq (fun h => h))
  subst hw
  refine lv_if_eq (tgt := 33) hx hb dX10_add_12 (by decide) (fun c_5 => ?_) (fun c_5 => ?_)
  · have c_5 := bI_0 c_5
    try simp only [lt_I, le_I, eq_I, i_0, i_1, i_2, i_3, i_4, i_5, i_6, i_7, i_8, i_10, i_12, i_16, i_20, i_23, i_24, i_31, i_32, i_63, i_64, i_m1] at c_5
    refine lv_aload_n hx hb dX10_add_33 rfl (lv_at hl 0 rfl) ?_
    refine lv_iconst (v := 1) hx hb dX10_add_34 (by decide) ?_
    obtain ⟨t0_6, t1_6, t2_6, r_6, ha_6, hg_6⟩ := tg_20 hT hG nx_0
    refine va_calli (rnV (fun H => TH E (T0 E) G [] H) (As := [.int 1]) (rest := []) ⟨hx, hb, hml, hown, hts⟩ (c_X10_fail l E z0 G hGz h0 1 hG) (cwV 1 hts (gdV ml_X10_185 im_X10_fail se_X10_X10_fail in_X10 co_X10_fail rfl) rfl rfl rfl (by decide +kernel) ⟨Nat.le_of_ble_eq_true rfl, Nat.le_of_ble_eq_true rfl⟩) hT (fun U hU hW => hK.go hW hS hAz hU) (va_recv hK.1 (va_one ha_6) (ci := 10) (q0 := 0) rfl rfl) rfl rfl hl.1 rfl (lv_room (Nat.le_of_ble_eq_true rfl)) dX10_add_35 ⟨Nat.le_of_ble_eq_true rfl, Nat.le_of_ble_eq_true rfl⟩) hS (fun q _ h => by rw [h]; show G _ ≠ 0; rw [hG]; decide) (fun q h => by rw [h]; show G _ ≠ 0; rw [hG]; decide) (fun r_7 _ t H locs ht hvm hw hB hz hk hS => ?_)
    obtain ⟨fsx, hatx, hfx⟩ := hB
    rw [ht] at hatx
    have hT : TH E (T0 E) G [h0] H := hT.keptx (fun q hq => List.mem_append_left [h0] hq) (fun q hz hq => hk q hz (fun e => hq (by rw [e]; simp)))
    obtain rfl : r_7 = 0 := hw
    exact W.iret (v := 0) hx hb hr (fun t ht hW => ⟨⟨0, (), rfl, rfl, ⟨_, (by show va_at _ _ _ t.heap; rw [ht]; exact hatx), (by rw [if_neg (by omega)]; exact hfx)⟩⟩, hS.F ht⟩) hS.2.2 dX10_add_38
  · have c_5 := bI_n c_5
    try simp only [lt_I, le_I, eq_I, i_0, i_1, i_2, i_3, i_4, i_5, i_6, i_7, i_8, i_10, i_12, i_16, i_20, i_23, i_24, i_31, i_32, i_63, i_64, i_m1] at c_5
    refine lv_iload_n hx hb dX10_add_15 rfl (lv_at hl 3 rfl) ?_
    refine lv_iconst (v := 5) hx hb dX10_add_16 (by decide) ?_
    refine W.callR (W.runS (As := [.int p2, .int 5]) (rest := []) ⟨hx, hb, hml, hown, hts⟩ (c_X10_within l p2 5) (cwS 2 hts (gdS ml_X10_156 st_X10_within in_X10 co_X10_within rfl) rfl rfl rfl (by decide +kernel) ⟨Nat.le_of_ble_eq_true rfl, Nat.le_of_ble_eq_true rfl⟩) preEq rfl rfl hl.1 rfl (lv_room (Nat.le_of_ble_eq_true rfl)) dX10_add_17 ⟨Nat.le_of_ble_eq_true rfl, Nat.le_of_ble_eq_true rfl⟩) ?_
    refine W.eq (g2 := F0 m 20 ls [.int (bI (0 ≤ p2.toInt ∧ p2.toInt ≤ (5 : Int32).toInt))]) (by rfl) ?_
    refine lv_if_eq (tgt := 33) hx hb dX10_add_20 (by decide) (fun c_8 => ?_) (fun c_8 => ?_)
    · have c_8 := bI_0 c_8
      try simp only [lt_I, le_I, eq_I, i_0, i_1, i_2, i_3, i_4, i_5, i_6, i_7, i_8, i_10, i_12, i_16, i_20, i_23, i_24, i_31, i_32, i_63, i_64, i_m1] at c_8
      refine lv_aload_n hx hb dX10_add_33 rfl (lv_at hl 0 rfl) ?_
      refine lv_iconst (v := 1) hx hb dX10_add_34 (by decide) ?_
      obtain ⟨t0_9, t1_9, t2_9, r_9, ha_9, hg_9⟩ := tg_20 hT hG nx_0
      refine va_calli (rnV (fun H => TH E (T0 E) G [] H) (As := [.int 1]) (rest := []) ⟨hx, hb, hml, hown, hts⟩ (c_X10_fail l E z0 G hGz h0 1 hG) (cwV 1 hts (gdV ml_X10_185 im_X10_fail se_X10_X10_fail in_X10 co_X10_fail rfl) rfl rfl rfl (by decide +kernel) ⟨Nat.le_of_ble_eq_true rfl, Nat.le_of_ble_eq_true rfl⟩) hT (fun U hU hW => hK.go hW hS hAz hU) (va_recv hK.1 (va_one ha_9) (ci := 10) (q0 := 0) rfl rfl) rfl rfl hl.1 rfl (lv_room (Nat.le_of_ble_eq_true rfl)) dX10_add_35 ⟨Nat.le_of_ble_eq_true rfl, Nat.le_of_ble_eq_true rfl⟩) hS (fun q _ h => by rw [h]; show G _ ≠ 0; rw [hG]; decide) (fun q h => by rw [h]; show G _ ≠ 0; rw [hG]; decide) (fun r_10 _ t H locs ht hvm hw hB hz hk hS => ?_)
      obtain ⟨fsx, hatx, hfx⟩ := hB
      rw [ht] at hatx
      have hT : TH E (T0 E) G [h0] H := hT.keptx (fun q hq => List.mem_append_left [h0] hq) (fun q hz hq => hk q hz (fun e => hq (by rw [e]; simp)))
      obtain rfl : r_10 = 0 := hw
      exact W.iret (v := 0) hx hb hr (fun t ht hW => ⟨⟨0, (), rfl, rfl, ⟨_, (by show va_at _ _ _ t.heap; rw [ht]; exact hatx), (by rw [if_neg (by omega)]; exact hfx)⟩⟩, hS.F ht⟩) hS.2.2 dX10_add_38
    · have c_8 := bI_n c_8
      try simp only [lt_I, le_I, eq_I, i_0, i_1, i_2, i_3, i_4, i_5, i_6, i_7, i_8, i_10, i_12, i_16, i_20, i_23, i_24, i_31, i_32, i_63, i_64, i_m1] at c_8
      refine lv_iload hx hb dX10_add_23 (lv_at hl 4 rfl) ?_
      refine lv_bipush (v := 31) hx hb dX10_add_25 (by decide) ?_
      refine W.callR (W.runS (As := [.int p3, .int 31]) (rest := []) ⟨hx, hb, hml, hown, hts⟩ (c_X10_within l p3 31) (cwS 2 hts (gdS ml_X10_156 st_X10_within in_X10 co_X10_within rfl) rfl rfl rfl (by decide +kernel) ⟨Nat.le_of_ble_eq_true rfl, Nat.le_of_ble_eq_true rfl⟩) preEq rfl rfl hl.1 rfl (lv_room (Nat.le_of_ble_eq_true rfl)) dX10_add_27 ⟨Nat.le_of_ble_eq_true rfl, Nat.le_of_ble_eq_true rfl⟩) ?_
      refine W.eq (g2 := F0 m 30 ls [.int (bI (0 ≤ p3.toInt ∧ p3.toInt ≤ (31 : Int32).toInt))]) (by rfl) ?_
      refine lv_if_ne (tgt := 39) hx hb dX10_add_30 (by decide) (fun c_11 => ?_) (fun c_11 => ?_)
      · have c_11 := bI_n c_11
        try simp only [lt_I, le_I, eq_I, i_0, i_1, i_2, i_3, i_4, i_5, i_6, i_7, i_8, i_10, i_12, i_16, i_20, i_23, i_24, i_31, i_32, i_63, i_64, i_m1] at c_11
        refine lv_aload_n hx hb dX10_add_39 rfl (lv_at hl 0 rfl) ?_
        refine lv_iload_n hx hb dX10_add_40 rfl (lv_at hl 1 rfl) ?_
        obtain ⟨t0_12, t1_12, t2_12, r_12, ha_12, hg_12⟩ := tg_20 hT hG nx_0
        refine va_calli (rnV (fun H => TH E (T0 E) G [] H) (As := [.int p0]) (rest := []) ⟨hx, hb, hml, hown, hts⟩ (c_X10_full l E z0 G hGz h0 p0 hG (by omega)) (cwV 1 hts (gdV ml_X10_188 im_X10_full se_X10_X10_full in_X10 co_X10_full rfl) rfl rfl rfl (by decide +kernel) ⟨Nat.le_of_ble_eq_true rfl, Nat.le_of_ble_eq_true rfl⟩) hT (fun U hU hW => hK.go hW hS hAz hU) (va_recv hK.1 (va_one ha_12) (ci := 10) (q0 := 0) rfl rfl) rfl rfl hl.1 rfl (lv_room (Nat.le_of_ble_eq_true rfl)) dX10_add_41 ⟨Nat.le_of_ble_eq_true rfl, Nat.le_of_ble_eq_true rfl⟩) hS (fun q _ h => h.elim) (fun q h => h.elim) (fun r_13 _ t H locs ht hvm hw hB hz hk hS => ?_)
        have hT : TH E (T0 E) G [] H := hT.kept (fun q hq => hk q hq (fun h => h))
        obtain rfl : r_13 = 1 := hw
        refine lv_if_eq (tgt := 55) hx hb dX10_add_44 (by decide) (fun c_14 => absurd c_14 (by decide)) (fun c_14 => ?_)
        refine lv_aload_n hx hb dX10_add_47 rfl (lv_at hl 0 rfl) ?_
        refine lv_iconst (v := 2) hx hb dX10_add_48 (by decide) ?_
        obtain ⟨t0_15, t1_15, t2_15, r_15, ha_15, hg_15⟩ := tg_20 hT hG nx_0
        refine va_calli (rnV (fun H => TH E (T0 E) G [] H) (As := [.int 2]) (rest := []) ⟨hx, hb, hml, hown, hts⟩ (c_X10_fail l E z0 G hGz h0 2 hG) (cwV 1 hts (gdV ml_X10_185 im_X10_fail se_X10_X10_fail in_X10 co_X10_fail rfl) rfl rfl rfl (by decide +kernel) ⟨Nat.le_of_ble_eq_true rfl, Nat.le_of_ble_eq_true rfl⟩) hT (fun U hU hW => hK.go hW hS hAz hU) (va_recv hK.1 (va_one ha_15) (ci := 10) (q0 := 0) rfl rfl) rfl rfl hl.1 rfl (lv_room (Nat.le_of_ble_eq_true rfl)) dX10_add_49 ⟨Nat.le_of_ble_eq_true rfl, Nat.le_of_ble_eq_true rfl⟩) hS (fun q _ h => by rw [h]; show G _ ≠ 0; rw [hG]; decide) (fun q h => by rw [h]; show G _ ≠ 0; rw [hG]; decide) (fun r_16 _ t H locs ht hvm hw hB hz hk hS => ?_)
        obtain ⟨fsx, hatx, hfx⟩ := hB
        rw [ht] at hatx
        have hT : TH E (T0 E) G [h0] H := hT.keptx (fun q hq => List.mem_append_left [h0] hq) (fun q hz hq => hk q hz (fun e => hq (by rw [e]; simp)))
        obtain rfl : r_16 = 0 := hw
        refine lv_goto (tgt := 68) hx hb dX10_add_52 (by decide) ?_
        exact W.iret (v := 0) hx hb hr (fun t ht hW => ⟨⟨0, (), rfl, rfl, ⟨_, (by show va_at _ _ _ t.heap; rw [ht]; exact hatx), (by rw [if_pos (by omega)]; exact hfx)⟩⟩, hS.F ht⟩) hS.2.2 dX10_add_68
      · have c_11 := bI_0 c_11
        try simp only [lt_I, le_I, eq_I, i_0, i_1, i_2, i_3, i_4, i_5, i_6, i_7, i_8, i_10, i_12, i_16, i_20, i_23, i_24, i_31, i_32, i_63, i_64, i_m1] at c_11
        refine lv_aload_n hx hb dX10_add_33 rfl (lv_at hl 0 rfl) ?_
        refine lv_iconst (v := 1) hx hb dX10_add_34 (by decide) ?_
        obtain ⟨t0_17, t1_17, t2_17, r_17, ha_17, hg_17⟩ := tg_20 hT hG nx_0
        refine va_calli (rnV (fun H => TH E (T0 E) G [] H) (As := [.int 1]) (rest := []) ⟨hx, hb, hml, hown, hts⟩ (c_X10_fail l E z0 G hGz h0 1 hG) (cwV 1 hts (gdV ml_X10_185 im_X10_fail se_X10_X10_fail in_X10 co_X10_fail rfl) rfl rfl rfl (by decide +kernel) ⟨Nat.le_of_ble_eq_true rfl, Nat.le_of_ble_eq_true rfl⟩) hT (fun U hU hW => hK.go hW hS hAz hU) (va_recv hK.1 (va_one ha_17) (ci := 10) (q0 := 0) rfl rfl) rfl rfl hl.1 rfl (lv_room (Nat.le_of_ble_eq_true rfl)) dX10_add_35 ⟨Nat.le_of_ble_eq_true rfl, Nat.le_of_ble_eq_true rfl⟩) hS (fun q _ h => by rw [h]; show G _ ≠ 0; rw [hG]; decide) (fun q h => by rw [h]; show G _ ≠ 0; rw [hG]; decide) (fun r_18 _ t H locs ht hvm hw hB hz hk hS => ?_)
        obtain ⟨fsx, hatx, hfx⟩ := hB
        rw [ht] at hatx
        have hT : TH E (T0 E) G [h0] H := hT.keptx (fun q hq => List.mem_append_left [h0] hq) (fun q hz hq => hk q hz (fun e => hq (by rw [e]; simp)))
        obtain rfl : r_18 = 0 := hw
        exact W.iret (v := 0) hx hb hr (fun t ht hW => ⟨⟨0, (), rfl, rfl, ⟨_, (by show va_at _ _ _ t.heap; rw [ht]; exact hatx), (by rw [if_neg (by omega)]; exact hfx)⟩⟩, hS.F ht⟩) hS.2.2 dX10_add_38
theorem dX10_push_0 : decode cX10_push 0 = .ok (.aload_n 0, 1) := by decide +kernel
theorem dX10_push_1 : decode cX10_push 1 = .ok (.iconst 0, 1) := by decide +kernel
theorem dX10_push_2 : decode cX10_push 2 = .ok (.putfield 153, 3) := by decide +kernel
theorem dX10_push_5 : decode cX10_push 5 = .ok (.iload_n 1, 1) := by decide +kernel
theorem dX10_push_6 : decode cX10_push 6 = .ok (.iconst 3, 1) := by decide +kernel
theorem dX10_push_7 : decode cX10_push 7 = .ok (.invokestatic 156, 3) := by decide +kernel
theorem dX10_push_10 : decode cX10_push 10 = .ok (.ifCond .ne 5, 3) := by decide +kernel
theorem dX10_push_13 : decode cX10_push 13 = .ok (.iconst (-1), 1) := by decide +kernel
theorem dX10_push_14 : decode cX10_push 14 = .ok (.ireturn, 1) := by decide +kernel
theorem dX10_push_15 : decode cX10_push 15 = .ok (.aload_n 0, 1) := by decide +kernel
theorem dX10_push_16 : decode cX10_push 16 = .ok (.getfield 28, 3) := by decide +kernel
theorem dX10_push_19 : decode cX10_push 19 = .ok (.iload_n 1, 1) := by decide +kernel
theorem dX10_push_20 : decode cX10_push 20 = .ok (.iaload, 1) := by decide +kernel
theorem dX10_push_21 : decode cX10_push 21 = .ok (.iconst 1, 1) := by decide +kernel
theorem dX10_push_22 : decode cX10_push 22 = .ok (.if_icmp .ne 27, 3) := by decide +kernel
theorem dX10_push_25 : decode cX10_push 25 = .ok (.aload_n 0, 1) := by decide +kernel
theorem dX10_push_26 : decode cX10_push 26 = .ok (.getfield 37, 3) := by decide +kernel
theorem dX10_push_29 : decode cX10_push 29 = .ok (.iload_n 1, 1) := by decide +kernel
theorem dX10_push_30 : decode cX10_push 30 = .ok (.iaload, 1) := by decide +kernel
theorem dX10_push_31 : decode cX10_push 31 = .ok (.aload_n 0, 1) := by decide +kernel
theorem dX10_push_32 : decode cX10_push 32 = .ok (.getfield 31, 3) := by decide +kernel
theorem dX10_push_35 : decode cX10_push 35 = .ok (.iload_n 1, 1) := by decide +kernel
theorem dX10_push_36 : decode cX10_push 36 = .ok (.iaload, 1) := by decide +kernel
theorem dX10_push_37 : decode cX10_push 37 = .ok (.if_icmp .eq 12, 3) := by decide +kernel
theorem dX10_push_40 : decode cX10_push 40 = .ok (.aload_n 0, 1) := by decide +kernel
theorem dX10_push_41 : decode cX10_push 41 = .ok (.getfield 52, 3) := by decide +kernel
theorem dX10_push_44 : decode cX10_push 44 = .ok (.iload_n 1, 1) := by decide +kernel
theorem dX10_push_45 : decode cX10_push 45 = .ok (.baload, 1) := by decide +kernel
theorem dX10_push_46 : decode cX10_push 46 = .ok (.ifCond .eq 5, 3) := by decide +kernel
theorem dX10_push_49 : decode cX10_push 49 = .ok (.iconst (-1), 1) := by decide +kernel
theorem dX10_push_50 : decode cX10_push 50 = .ok (.ireturn, 1) := by decide +kernel
theorem dX10_push_51 : decode cX10_push 51 = .ok (.aload_n 0, 1) := by decide +kernel
theorem dX10_push_52 : decode cX10_push 52 = .ok (.getfield 37, 3) := by decide +kernel
theorem dX10_push_55 : decode cX10_push 55 = .ok (.iload_n 1, 1) := by decide +kernel
theorem dX10_push_56 : decode cX10_push 56 = .ok (.iaload, 1) := by decide +kernel
theorem dX10_push_57 : decode cX10_push 57 = .ok (.istore_n 2, 1) := by decide +kernel
theorem dX10_push_58 : decode cX10_push 58 = .ok (.aload_n 0, 1) := by decide +kernel
theorem dX10_push_59 : decode cX10_push 59 = .ok (.iload_n 1, 1) := by decide +kernel
theorem dX10_push_60 : decode cX10_push 60 = .ok (.iload_n 2, 1) := by decide +kernel
theorem dX10_push_61 : decode cX10_push 61 = .ok (.invokevirtual 196, 3) := by decide +kernel
theorem dX10_push_64 : decode cX10_push 64 = .ok (.istore_n 3, 1) := by decide +kernel
theorem dX10_push_65 : decode cX10_push 65 = .ok (.aload_n 0, 1) := by decide +kernel
theorem dX10_push_66 : decode cX10_push 66 = .ok (.getfield 86, 3) := by decide +kernel
theorem dX10_push_69 : decode cX10_push 69 = .ok (.iload_n 3, 1) := by decide +kernel
theorem dX10_push_70 : decode cX10_push 70 = .ok (.iaload, 1) := by decide +kernel
theorem dX10_push_71 : decode cX10_push 71 = .ok (.iload_n 2, 1) := by decide +kernel
theorem dX10_push_72 : decode cX10_push 72 = .ok (.invokestatic 174, 3) := by decide +kernel
theorem dX10_push_75 : decode cX10_push 75 = .ok (.istore 4, 2) := by decide +kernel
theorem dX10_push_77 : decode cX10_push 77 = .ok (.aload_n 0, 1) := by decide +kernel
theorem dX10_push_78 : decode cX10_push 78 = .ok (.getfield 65, 3) := by decide +kernel
theorem dX10_push_81 : decode cX10_push 81 = .ok (.iload_n 3, 1) := by decide +kernel
theorem dX10_push_82 : decode cX10_push 82 = .ok (.iaload, 1) := by decide +kernel
theorem dX10_push_83 : decode cX10_push 83 = .ok (.iconst 2, 1) := by decide +kernel
theorem dX10_push_84 : decode cX10_push 84 = .ok (.if_icmp .ne 14, 3) := by decide +kernel
theorem dX10_push_87 : decode cX10_push 87 = .ok (.aload_n 0, 1) := by decide +kernel
theorem dX10_push_88 : decode cX10_push 88 = .ok (.iload_n 3, 1) := by decide +kernel
theorem dX10_push_89 : decode cX10_push 89 = .ok (.invokevirtual 178, 3) := by decide +kernel
theorem dX10_push_92 : decode cX10_push 92 = .ok (.iload 4, 2) := by decide +kernel
theorem dX10_push_94 : decode cX10_push 94 = .ok (.isub, 1) := by decide +kernel
theorem dX10_push_95 : decode cX10_push 95 = .ok (.goto 4, 3) := by decide +kernel
theorem dX10_push_98 : decode cX10_push 98 = .ok (.iconst 1, 1) := by decide +kernel
theorem dX10_push_99 : decode cX10_push 99 = .ok (.istore 5, 2) := by decide +kernel
theorem dX10_push_101 : decode cX10_push 101 = .ok (.aload_n 0, 1) := by decide +kernel
theorem dX10_push_102 : decode cX10_push 102 = .ok (.getfield 34, 3) := by decide +kernel
theorem dX10_push_105 : decode cX10_push 105 = .ok (.iload_n 1, 1) := by decide +kernel
theorem dX10_push_106 : decode cX10_push 106 = .ok (.iaload, 1) := by decide +kernel
theorem dX10_push_107 : decode cX10_push 107 = .ok (.iload_n 2, 1) := by decide +kernel
theorem dX10_push_108 : decode cX10_push 108 = .ok (.iload 5, 2) := by decide +kernel
theorem dX10_push_110 : decode cX10_push 110 = .ok (.iadd, 1) := by decide +kernel
theorem dX10_push_111 : decode cX10_push 111 = .ok (.iconst 1, 1) := by decide +kernel
theorem dX10_push_112 : decode cX10_push 112 = .ok (.isub, 1) := by decide +kernel
theorem dX10_push_113 : decode cX10_push 113 = .ok (.bipush 64, 2) := by decide +kernel
theorem dX10_push_115 : decode cX10_push 115 = .ok (.irem, 1) := by decide +kernel
theorem dX10_push_116 : decode cX10_push 116 = .ok (.invokestatic 174, 3) := by decide +kernel
theorem dX10_push_119 : decode cX10_push 119 = .ok (.bipush 8, 2) := by decide +kernel
theorem dX10_push_121 : decode cX10_push 121 = .ok (.if_icmp .lt 5, 3) := by decide +kernel
theorem dX10_push_124 : decode cX10_push 124 = .ok (.iconst (-1), 1) := by decide +kernel
theorem dX10_push_125 : decode cX10_push 125 = .ok (.ireturn, 1) := by decide +kernel
theorem dX10_push_126 : decode cX10_push 126 = .ok (.iload_n 2, 1) := by decide +kernel
theorem dX10_push_127 : decode cX10_push 127 = .ok (.aload_n 0, 1) := by decide +kernel
theorem dX10_push_128 : decode cX10_push 128 = .ok (.getfield 34, 3) := by decide +kernel
theorem dX10_push_131 : decode cX10_push 131 = .ok (.iload_n 1, 1) := by decide +kernel
theorem dX10_push_132 : decode cX10_push 132 = .ok (.iaload, 1) := by decide +kernel
theorem dX10_push_133 : decode cX10_push 133 = .ok (.if_icmp .ne 10, 3) := by decide +kernel
theorem dX10_push_136 : decode cX10_push 136 = .ok (.aload_n 0, 1) := by decide +kernel
theorem dX10_push_137 : decode cX10_push 137 = .ok (.getfield 43, 3) := by decide +kernel
theorem dX10_push_140 : decode cX10_push 140 = .ok (.iload_n 1, 1) := by decide +kernel
theorem dX10_push_141 : decode cX10_push 141 = .ok (.iconst 0, 1) := by decide +kernel
theorem dX10_push_142 : decode cX10_push 142 = .ok (.iastore, 1) := by decide +kernel
theorem dX10_push_143 : decode cX10_push 143 = .ok (.aload_n 0, 1) := by decide +kernel
theorem dX10_push_144 : decode cX10_push 144 = .ok (.getfield 71, 3) := by decide +kernel
theorem dX10_push_147 : decode cX10_push 147 = .ok (.iload_n 3, 1) := by decide +kernel
theorem dX10_push_148 : decode cX10_push 148 = .ok (.iaload, 1) := by decide +kernel
theorem dX10_push_149 : decode cX10_push 149 = .ok (.iconst 4, 1) := by decide +kernel
theorem dX10_push_150 : decode cX10_push 150 = .ok (.iload 4, 2) := by decide +kernel
theorem dX10_push_152 : decode cX10_push 152 = .ok (.imul, 1) := by decide +kernel
theorem dX10_push_153 : decode cX10_push 153 = .ok (.isub, 1) := by decide +kernel
theorem dX10_push_154 : decode cX10_push 154 = .ok (.istore 6, 2) := by decide +kernel
theorem dX10_push_156 : decode cX10_push 156 = .ok (.iload 4, 2) := by decide +kernel
theorem dX10_push_158 : decode cX10_push 158 = .ok (.ifCond .ne 7, 3) := by decide +kernel
theorem dX10_push_161 : decode cX10_push 161 = .ok (.iconst 1, 1) := by decide +kernel
theorem dX10_push_162 : decode cX10_push 162 = .ok (.goto 4, 3) := by decide +kernel
theorem dX10_push_165 : decode cX10_push 165 = .ok (.iconst 0, 1) := by decide +kernel
theorem dX10_push_166 : decode cX10_push 166 = .ok (.iload 4, 2) := by decide +kernel
theorem dX10_push_168 : decode cX10_push 168 = .ok (.aload_n 0, 1) := by decide +kernel
theorem dX10_push_169 : decode cX10_push 169 = .ok (.iload_n 3, 1) := by decide +kernel
theorem dX10_push_170 : decode cX10_push 170 = .ok (.invokevirtual 178, 3) := by decide +kernel
theorem dX10_push_173 : decode cX10_push 173 = .ok (.iconst 1, 1) := by decide +kernel
theorem dX10_push_174 : decode cX10_push 174 = .ok (.isub, 1) := by decide +kernel
theorem dX10_push_175 : decode cX10_push 175 = .ok (.if_icmp .ne 7, 3) := by decide +kernel
theorem dX10_push_178 : decode cX10_push 178 = .ok (.iconst 2, 1) := by decide +kernel
theorem dX10_push_179 : decode cX10_push 179 = .ok (.goto 4, 3) := by decide +kernel
theorem dX10_push_182 : decode cX10_push 182 = .ok (.iconst 0, 1) := by decide +kernel
theorem dX10_push_183 : decode cX10_push 183 = .ok (.iadd, 1) := by decide +kernel
theorem dX10_push_184 : decode cX10_push 184 = .ok (.istore 7, 2) := by decide +kernel
theorem dX10_push_186 : decode cX10_push 186 = .ok (.aload_n 0, 1) := by decide +kernel
theorem dX10_push_187 : decode cX10_push 187 = .ok (.iload_n 1, 1) := by decide +kernel
theorem dX10_push_188 : decode cX10_push 188 = .ok (.aload_n 0, 1) := by decide +kernel
theorem dX10_push_189 : decode cX10_push 189 = .ok (.getfield 65, 3) := by decide +kernel
theorem dX10_push_192 : decode cX10_push 192 = .ok (.iload_n 3, 1) := by decide +kernel
theorem dX10_push_193 : decode cX10_push 193 = .ok (.iaload, 1) := by decide +kernel
theorem dX10_push_194 : decode cX10_push 194 = .ok (.iload_n 2, 1) := by decide +kernel
theorem dX10_push_195 : decode cX10_push 195 = .ok (.aload_n 0, 1) := by decide +kernel
theorem dX10_push_196 : decode cX10_push 196 = .ok (.getfield 65, 3) := by decide +kernel
theorem dX10_push_199 : decode cX10_push 199 = .ok (.iload_n 3, 1) := by decide +kernel
theorem dX10_push_200 : decode cX10_push 200 = .ok (.iaload, 1) := by decide +kernel
theorem dX10_push_201 : decode cX10_push 201 = .ok (.ifCond .ne 8, 3) := by decide +kernel
theorem dX10_push_204 : decode cX10_push 204 = .ok (.iload 7, 2) := by decide +kernel
theorem dX10_push_206 : decode cX10_push 206 = .ok (.goto 9, 3) := by decide +kernel
theorem dX10_push_209 : decode cX10_push 209 = .ok (.aload_n 0, 1) := by decide +kernel
theorem dX10_push_210 : decode cX10_push 210 = .ok (.getfield 74, 3) := by decide +kernel
theorem dX10_push_213 : decode cX10_push 213 = .ok (.iload_n 3, 1) := by decide +kernel
theorem dX10_push_214 : decode cX10_push 214 = .ok (.iaload, 1) := by decide +kernel
theorem dX10_push_215 : decode cX10_push 215 = .ok (.aload_n 0, 1) := by decide +kernel
theorem dX10_push_216 : decode cX10_push 216 = .ok (.getfield 65, 3) := by decide +kernel
theorem dX10_push_219 : decode cX10_push 219 = .ok (.iload_n 3, 1) := by decide +kernel
theorem dX10_push_220 : decode cX10_push 220 = .ok (.iaload, 1) := by decide +kernel
theorem dX10_push_221 : decode cX10_push 221 = .ok (.ifCond .ne 7, 3) := by decide +kernel
theorem dX10_push_224 : decode cX10_push 224 = .ok (.iconst (-1), 1) := by decide +kernel
theorem dX10_push_225 : decode cX10_push 225 = .ok (.goto 14, 3) := by decide +kernel
theorem dX10_push_228 : decode cX10_push 228 = .ok (.aload_n 0, 1) := by decide +kernel
theorem dX10_push_229 : decode cX10_push 229 = .ok (.getfield 77, 3) := by decide +kernel
theorem dX10_push_232 : decode cX10_push 232 = .ok (.iload_n 3, 1) := by decide +kernel
theorem dX10_push_233 : decode cX10_push 233 = .ok (.iaload, 1) := by decide +kernel
theorem dX10_push_234 : decode cX10_push 234 = .ok (.iconst 4, 1) := by decide +kernel
theorem dX10_push_235 : decode cX10_push 235 = .ok (.iload 4, 2) := by decide +kernel
theorem dX10_push_237 : decode cX10_push 237 = .ok (.imul, 1) := by decide +kernel
theorem dX10_push_238 : decode cX10_push 238 = .ok (.iadd, 1) := by decide +kernel
theorem dX10_push_239 : decode cX10_push 239 = .ok (.aload_n 0, 1) := by decide +kernel
theorem dX10_push_240 : decode cX10_push 240 = .ok (.getfield 80, 3) := by decide +kernel
theorem dX10_push_243 : decode cX10_push 243 = .ok (.iload_n 3, 1) := by decide +kernel
theorem dX10_push_244 : decode cX10_push 244 = .ok (.iaload, 1) := by decide +kernel
theorem dX10_push_245 : decode cX10_push 245 = .ok (.invokevirtual 199, 3) := by decide +kernel
theorem dX10_push_248 : decode cX10_push 248 = .ok (.istore 8, 2) := by decide +kernel
theorem dX10_push_250 : decode cX10_push 250 = .ok (.aload_n 0, 1) := by decide +kernel
theorem dX10_push_251 : decode cX10_push 251 = .ok (.getfield 65, 3) := by decide +kernel
theorem dX10_push_254 : decode cX10_push 254 = .ok (.iload_n 3, 1) := by decide +kernel
theorem dX10_push_255 : decode cX10_push 255 = .ok (.iaload, 1) := by decide +kernel
theorem dX10_push_256 : decode cX10_push 256 = .ok (.iconst 2, 1) := by decide +kernel
theorem dX10_push_257 : decode cX10_push 257 = .ok (.if_icmp .ge 33, 3) := by decide +kernel
theorem dX10_push_260 : decode cX10_push 260 = .ok (.aload_n 0, 1) := by decide +kernel
theorem dX10_push_261 : decode cX10_push 261 = .ok (.iload 8, 2) := by decide +kernel
theorem dX10_push_263 : decode cX10_push 263 = .ok (.iload_n 1, 1) := by decide +kernel
theorem dX10_push_264 : decode cX10_push 264 = .ok (.aload_n 0, 1) := by decide +kernel
theorem dX10_push_265 : decode cX10_push 265 = .ok (.getfield 68, 3) := by decide +kernel
theorem dX10_push_268 : decode cX10_push 268 = .ok (.iload_n 3, 1) := by decide +kernel
theorem dX10_push_269 : decode cX10_push 269 = .ok (.iaload, 1) := by decide +kernel
theorem dX10_push_270 : decode cX10_push 270 = .ok (.iconst 4, 1) := by decide +kernel
theorem dX10_push_271 : decode cX10_push 271 = .ok (.iload 4, 2) := by decide +kernel
theorem dX10_push_273 : decode cX10_push 273 = .ok (.imul, 1) := by decide +kernel
theorem dX10_push_274 : decode cX10_push 274 = .ok (.iadd, 1) := by decide +kernel
theorem dX10_push_275 : decode cX10_push 275 = .ok (.iload 6, 2) := by decide +kernel
theorem dX10_push_277 : decode cX10_push 277 = .ok (.iconst 4, 1) := by decide +kernel
theorem dX10_push_278 : decode cX10_push 278 = .ok (.if_icmp .ge 8, 3) := by decide +kernel
theorem dX10_push_281 : decode cX10_push 281 = .ok (.iload 6, 2) := by decide +kernel
theorem dX10_push_283 : decode cX10_push 283 = .ok (.goto 4, 3) := by decide +kernel
theorem dX10_push_286 : decode cX10_push 286 = .ok (.iconst 4, 1) := by decide +kernel
theorem dX10_push_287 : decode cX10_push 287 = .ok (.invokevirtual 203, 3) := by decide +kernel
theorem dX10_push_290 : decode cX10_push 290 = .ok (.aload_n 0, 1) := by decide +kernel
theorem dX10_push_291 : decode cX10_push 291 = .ok (.getfield 65, 3) := by decide +kernel
theorem dX10_push_294 : decode cX10_push 294 = .ok (.iload_n 3, 1) := by decide +kernel
theorem dX10_push_295 : decode cX10_push 295 = .ok (.iaload, 1) := by decide +kernel
theorem dX10_push_296 : decode cX10_push 296 = .ok (.iconst 2, 1) := by decide +kernel
theorem dX10_push_297 : decode cX10_push 297 = .ok (.if_icmp .ne 17, 3) := by decide +kernel
theorem dX10_push_300 : decode cX10_push 300 = .ok (.iload 8, 2) := by decide +kernel
theorem dX10_push_302 : decode cX10_push 302 = .ok (.ifCond .lt 12, 3) := by decide +kernel
theorem dX10_push_305 : decode cX10_push 305 = .ok (.aload_n 0, 1) := by decide +kernel
theorem dX10_push_306 : decode cX10_push 306 = .ok (.getfield 128, 3) := by decide +kernel
theorem dX10_push_309 : decode cX10_push 309 = .ok (.iload 8, 2) := by decide +kernel
theorem dX10_push_311 : decode cX10_push 311 = .ok (.iload 6, 2) := by decide +kernel
theorem dX10_push_313 : decode cX10_push 313 = .ok (.iastore, 1) := by decide +kernel
theorem dX10_push_314 : decode cX10_push 314 = .ok (.aload_n 0, 1) := by decide +kernel
theorem dX10_push_315 : decode cX10_push 315 = .ok (.getfield 37, 3) := by decide +kernel
theorem dX10_push_318 : decode cX10_push 318 = .ok (.iload_n 1, 1) := by decide +kernel
theorem dX10_push_319 : decode cX10_push 319 = .ok (.iload_n 2, 1) := by decide +kernel
theorem dX10_push_320 : decode cX10_push 320 = .ok (.iload 5, 2) := by decide +kernel
theorem dX10_push_322 : decode cX10_push 322 = .ok (.iadd, 1) := by decide +kernel
theorem dX10_push_323 : decode cX10_push 323 = .ok (.bipush 64, 2) := by decide +kernel
theorem dX10_push_325 : decode cX10_push 325 = .ok (.irem, 1) := by decide +kernel
theorem dX10_push_326 : decode cX10_push 326 = .ok (.iastore, 1) := by decide +kernel
theorem dX10_push_327 : decode cX10_push 327 = .ok (.iload_n 2, 1) := by decide +kernel
theorem dX10_push_328 : decode cX10_push 328 = .ok (.ireturn, 1) := by decide +kernel
set_option maxHeartbeats 4000000 in
set_option maxRecDepth 100000 in
theorem c_X10_push (l : Launch) (E : EE) (z0 : Nat) (G : Nat → Nat) (hGz : ∀ q, G q ≠ 0 → z0 ≤ q) (h0 : Nat) (p0 : Int32) (hG : G h0 = 20) : Met l yX10_push [Cond.code yX10_push cX10_push 9 (some .int)] ({ frames := 1, cells := 0, slots := 0, locals := 21 } : Room) (va_Pc [.ref h0, .int p0] (fun U => TH E (T0 E) G [] U.heap ∧ KS E z0 U)) (va_Qi (fun (r : Int32) (_ : Unit) => r = -1) (fun _ _ => True) (fun q : Nat => G q ≠ 0)) 0 0 (fun q : Nat => G q ≠ 0) := by
  refine Met.ofW (cc := cX10_push) (maxL := 9) (ret := (some .int)) (by decide) rfl ?_
  intro p e s m args below meth c s₁ B hml hv
  obtain ⟨rfl, hT, hK⟩ := hv
  have hx := B.exec
  have hb := B.bytes
  have hr := B.returns
  have hts : ∀ w ∈ TS, w.before ([.ref h0, .int p0] : List Value).toArray s = true := fun w hw => hK.2.1 w hw _
  have hown : s.vm.findClass RX10 = some m.cls := findClass_of_methodNamed B.named
  have hlocks := B.notSynchronized
  have hS : va_S (fun q : Nat => G q ≠ 0) s.heap s.heap [] := va_S.rf
  have hAz : ∀ q, (fun q : Nat => G q ≠ 0) q → z0 ≤ q := hGz
  have hl := lv_entry ([.ref h0, .int p0]) (n := 9) (Nat.le_of_ble_eq_true rfl)
  rw [lg_entry_eq]
  generalize (lg_sl ([.ref h0, .int p0]) ++ List.replicate (9 - (lg_sl ([.ref h0, .int p0])).length) Slot.unset).toArray = ls at hl ⊢
  have hl : lv_has ls 9 [(0, .ref h0), (1, .int p0)] := hl
  refine lv_aload_n hx hb dX10_push_0 rfl (lv_at hl 0 rfl) ?_
  refine lv_iconst (v := 0) hx hb dX10_push_1 (by decide) ?_
  obtain ⟨t0_1, t1_1, t2_1, r_1, ha_1, hg_1⟩ := tg_20 hT hG nx_0
  refine rr_put (D := DG E) (ci := 10) (v := .int 0) (ty := .int) (C := RX10) (T := TX10) (N := 49) hx hb hts iw_X10 tyX10 tyX10_ok nmX10 hown hK.1 ha_1 hS (by show G h0 ≠ 0; rw [hG]; decide) rfl 3 (by decide) (hts _ fl_X10_153) (fun _ h9 => h9) rfl (by decide +kernel) rfl rfl (Nat.le_of_ble_eq_true rfl) dX10_push_2 (fun H locs hn ho hz hS => ?_)
  have hr_2 : va_at (DG E) vwCl (h0, .inr (10, mfs t0_1 t1_1 t2_1 0 r_1 0)) H := hn
  have hT : TH E (T0 E) G [] H := hT.set hG (show T0 E G 20 _ from ⟨t0_1, t1_1, t2_1, r_1, rfl, hg_1⟩) hr_2 ho
  refine lv_iload_n hx hb dX10_push_5 rfl (lv_at hl 1 rfl) ?_
  refine lv_iconst (v := 3) hx hb dX10_push_6 (by decide) ?_
  refine W.callR (W.runS (As := [.int p0, .int 3]) (rest := []) ⟨hx, hb, hml, hown, hts⟩ (c_X10_within l p0 3) (cwS 2 hts (gdS ml_X10_156 st_X10_within in_X10 co_X10_within rfl) rfl rfl rfl (by decide +kernel) ⟨Nat.le_of_ble_eq_true rfl, Nat.le_of_ble_eq_true rfl⟩) preEq rfl rfl hl.1 rfl (lv_room (Nat.le_of_ble_eq_true rfl)) dX10_push_7 ⟨Nat.le_of_ble_eq_true rfl, Nat.le_of_ble_eq_true rfl⟩) ?_
  refine W.eq (g2 := F0 m 10 ls [.int (bI (0 ≤ p0.toInt ∧ p0.toInt ≤ (3 : Int32).toInt))]) (by rfl) ?_
  refine lv_if_ne (tgt := 15) hx hb dX10_push_10 (by decide) (fun c_3 => ?_) (fun c_3 => ?_)
  · have c_3 := bI_n c_3
    try simp only [lt_I, le_I, eq_I, i_0, i_1, i_2, i_3, i_4, i_5, i_6, i_7, i_8, i_10, i_12, i_16, i_20, i_23, i_24, i_31, i_32, i_63, i_64, i_m1] at c_3
    refine lv_aload_n hx hb dX10_push_15 rfl (lv_at hl 0 rfl) ?_
    obtain ⟨t0_4, t1_4, t2_4, r_4, ha_4, hg_4⟩ := tg_20 hT hG nx_0
    refine va_get (D := DG E) (ci := 10) (v := .ref (r_4 10)) (C := RX10) (T := TX10) (N := 49) hx hb hts iw_X10 hown hK.1 (va_one ha_4) 0 rfl rfl 10 (by decide) (hts _ fl_X10_28) (fun _ h9 => h9) rfl dX10_push_16 ?_
    refine lv_iload_n hx hb dX10_push_19 rfl (lv_at hl 1 rfl) ?_
    have ha_5 : va_at (DG E) vwCl ((r_4 10), .inl (E.2.2 0, 4, .inl (fun _ => 0))) _ := tg_arr (j := 10) hT (hg_4 10 (by decide) (by decide) (by decide)) nx_0
    refine va_iald (D := DG E) hx hb hK.1 (va_one ha_5) 0 0 rfl rfl (show vp_in p0 4 from vp_in_iff.mpr (by omega)) dX10_push_20 ?_
    refine W.eq (g2 := F0 m 21 ls [.int 0]) (by rfl) ?_
    refine lv_iconst (v := 1) hx hb dX10_push_21 (by decide) ?_
    refine lv_icmp_ne (tgt := 49) hx hb dX10_push_22 (by decide) (fun c_6 => ?_) (fun c_6 => absurd c_6 (by decide))
    refine lv_iconst (v := (-1)) hx hb dX10_push_49 (by decide) ?_
    exact W.iret (v := (-1)) hx hb hr (fun t ht hW => ⟨⟨(-1), (), rfl, rfl, trivial⟩, hS.F ht⟩) hS.2.2 dX10_push_50
  · have c_3 := bI_0 c_3
    try simp only [lt_I, le_I, eq_I, i_0, i_1, i_2, i_3, i_4, i_5, i_6, i_7, i_8, i_10, i_12, i_16, i_20, i_23, i_24, i_31, i_32, i_63, i_64, i_m1] at c_3
    refine lv_iconst (v := (-1)) hx hb dX10_push_13 (by decide) ?_
    exact W.iret (v := (-1)) hx hb hr (fun t ht hW => ⟨⟨(-1), (), rfl, rfl, trivial⟩, hS.F ht⟩) hS.2.2 dX10_push_14
theorem dX10_deliver_0 : decode cX10_deliver 0 = .ok (.aload_n 0, 1) := by decide +kernel
theorem dX10_deliver_1 : decode cX10_deliver 1 = .ok (.iconst 0, 1) := by decide +kernel
theorem dX10_deliver_2 : decode cX10_deliver 2 = .ok (.putfield 153, 3) := by decide +kernel
theorem dX10_deliver_5 : decode cX10_deliver 5 = .ok (.iload_n 1, 1) := by decide +kernel
theorem dX10_deliver_6 : decode cX10_deliver 6 = .ok (.ifCond .lt 11, 3) := by decide +kernel
theorem dX10_deliver_9 : decode cX10_deliver 9 = .ok (.iload_n 1, 1) := by decide +kernel
theorem dX10_deliver_10 : decode cX10_deliver 10 = .ok (.aload_n 0, 1) := by decide +kernel
theorem dX10_deliver_11 : decode cX10_deliver 11 = .ok (.getfield 164, 3) := by decide +kernel
theorem dX10_deliver_14 : decode cX10_deliver 14 = .ok (.if_icmp .lt 5, 3) := by decide +kernel
theorem dX10_deliver_17 : decode cX10_deliver 17 = .ok (.iconst 0, 1) := by decide +kernel
theorem dX10_deliver_18 : decode cX10_deliver 18 = .ok (.ireturn, 1) := by decide +kernel
theorem dX10_deliver_19 : decode cX10_deliver 19 = .ok (.aload_n 0, 1) := by decide +kernel
theorem dX10_deliver_20 : decode cX10_deliver 20 = .ok (.iload_n 1, 1) := by decide +kernel
theorem dX10_deliver_21 : decode cX10_deliver 21 = .ok (.bipush 24, 2) := by decide +kernel
theorem dX10_deliver_23 : decode cX10_deliver 23 = .ok (.invokevirtual 170, 3) := by decide +kernel
theorem dX10_deliver_26 : decode cX10_deliver 26 = .ok (.aload_n 0, 1) := by decide +kernel
theorem dX10_deliver_27 : decode cX10_deliver 27 = .ok (.iload_n 1, 1) := by decide +kernel
theorem dX10_deliver_28 : decode cX10_deliver 28 = .ok (.invokevirtual 265, 3) := by decide +kernel
theorem dX10_deliver_31 : decode cX10_deliver 31 = .ok (.aload_n 0, 1) := by decide +kernel
theorem dX10_deliver_32 : decode cX10_deliver 32 = .ok (.getfield 119, 3) := by decide +kernel
theorem dX10_deliver_35 : decode cX10_deliver 35 = .ok (.bipush 24, 2) := by decide +kernel
theorem dX10_deliver_37 : decode cX10_deliver 37 = .ok (.iaload, 1) := by decide +kernel
theorem dX10_deliver_38 : decode cX10_deliver 38 = .ok (.istore_n 2, 1) := by decide +kernel
theorem dX10_deliver_39 : decode cX10_deliver 39 = .ok (.aload_n 0, 1) := by decide +kernel
theorem dX10_deliver_40 : decode cX10_deliver 40 = .ok (.getfield 28, 3) := by decide +kernel
theorem dX10_deliver_43 : decode cX10_deliver 43 = .ok (.iload_n 2, 1) := by decide +kernel
theorem dX10_deliver_44 : decode cX10_deliver 44 = .ok (.iaload, 1) := by decide +kernel
theorem dX10_deliver_45 : decode cX10_deliver 45 = .ok (.iconst 1, 1) := by decide +kernel
theorem dX10_deliver_46 : decode cX10_deliver 46 = .ok (.if_icmp .eq 5, 3) := by decide +kernel
theorem dX10_deliver_49 : decode cX10_deliver 49 = .ok (.iconst 1, 1) := by decide +kernel
theorem dX10_deliver_50 : decode cX10_deliver 50 = .ok (.ireturn, 1) := by decide +kernel
theorem dX10_deliver_51 : decode cX10_deliver 51 = .ok (.aload_n 0, 1) := by decide +kernel
theorem dX10_deliver_52 : decode cX10_deliver 52 = .ok (.getfield 122, 3) := by decide +kernel
theorem dX10_deliver_55 : decode cX10_deliver 55 = .ok (.bipush 24, 2) := by decide +kernel
theorem dX10_deliver_57 : decode cX10_deliver 57 = .ok (.iaload, 1) := by decide +kernel
theorem dX10_deliver_58 : decode cX10_deliver 58 = .ok (.iconst 4, 1) := by decide +kernel
theorem dX10_deliver_59 : decode cX10_deliver 59 = .ok (.if_icmp .ge 11, 3) := by decide +kernel
theorem dX10_deliver_62 : decode cX10_deliver 62 = .ok (.aload_n 0, 1) := by decide +kernel
theorem dX10_deliver_63 : decode cX10_deliver 63 = .ok (.iload_n 2, 1) := by decide +kernel
theorem dX10_deliver_64 : decode cX10_deliver 64 = .ok (.invokevirtual 268, 3) := by decide +kernel
theorem dX10_deliver_67 : decode cX10_deliver 67 = .ok (.goto 64, 3) := by decide +kernel
theorem dX10_deliver_70 : decode cX10_deliver 70 = .ok (.aload_n 0, 1) := by decide +kernel
theorem dX10_deliver_71 : decode cX10_deliver 71 = .ok (.getfield 122, 3) := by decide +kernel
theorem dX10_deliver_74 : decode cX10_deliver 74 = .ok (.bipush 24, 2) := by decide +kernel
theorem dX10_deliver_76 : decode cX10_deliver 76 = .ok (.iaload, 1) := by decide +kernel
theorem dX10_deliver_77 : decode cX10_deliver 77 = .ok (.iconst 4, 1) := by decide +kernel
theorem dX10_deliver_78 : decode cX10_deliver 78 = .ok (.if_icmp .ne 11, 3) := by decide +kernel
theorem dX10_deliver_81 : decode cX10_deliver 81 = .ok (.aload_n 0, 1) := by decide +kernel
theorem dX10_deliver_82 : decode cX10_deliver 82 = .ok (.iload_n 2, 1) := by decide +kernel
theorem dX10_deliver_83 : decode cX10_deliver 83 = .ok (.invokevirtual 271, 3) := by decide +kernel
theorem dX10_deliver_86 : decode cX10_deliver 86 = .ok (.goto 45, 3) := by decide +kernel
theorem dX10_deliver_89 : decode cX10_deliver 89 = .ok (.aload_n 0, 1) := by decide +kernel
theorem dX10_deliver_90 : decode cX10_deliver 90 = .ok (.getfield 122, 3) := by decide +kernel
theorem dX10_deliver_93 : decode cX10_deliver 93 = .ok (.bipush 24, 2) := by decide +kernel
theorem dX10_deliver_95 : decode cX10_deliver 95 = .ok (.iaload, 1) := by decide +kernel
theorem dX10_deliver_96 : decode cX10_deliver 96 = .ok (.iconst 5, 1) := by decide +kernel
theorem dX10_deliver_97 : decode cX10_deliver 97 = .ok (.if_icmp .ne 29, 3) := by decide +kernel
theorem dX10_deliver_100 : decode cX10_deliver 100 = .ok (.aload_n 0, 1) := by decide +kernel
theorem dX10_deliver_101 : decode cX10_deliver 101 = .ok (.iload_n 2, 1) := by decide +kernel
theorem dX10_deliver_102 : decode cX10_deliver 102 = .ok (.aload_n 0, 1) := by decide +kernel
theorem dX10_deliver_103 : decode cX10_deliver 103 = .ok (.getfield 34, 3) := by decide +kernel
theorem dX10_deliver_106 : decode cX10_deliver 106 = .ok (.iload_n 2, 1) := by decide +kernel
theorem dX10_deliver_107 : decode cX10_deliver 107 = .ok (.iaload, 1) := by decide +kernel
theorem dX10_deliver_108 : decode cX10_deliver 108 = .ok (.aload_n 0, 1) := by decide +kernel
theorem dX10_deliver_109 : decode cX10_deliver 109 = .ok (.getfield 125, 3) := by decide +kernel
theorem dX10_deliver_112 : decode cX10_deliver 112 = .ok (.bipush 24, 2) := by decide +kernel
theorem dX10_deliver_114 : decode cX10_deliver 114 = .ok (.iaload, 1) := by decide +kernel
theorem dX10_deliver_115 : decode cX10_deliver 115 = .ok (.invokestatic 174, 3) := by decide +kernel
theorem dX10_deliver_118 : decode cX10_deliver 118 = .ok (.iconst 1, 1) := by decide +kernel
theorem dX10_deliver_119 : decode cX10_deliver 119 = .ok (.iadd, 1) := by decide +kernel
theorem dX10_deliver_120 : decode cX10_deliver 120 = .ok (.invokevirtual 262, 3) := by decide +kernel
theorem dX10_deliver_123 : decode cX10_deliver 123 = .ok (.goto 8, 3) := by decide +kernel
theorem dX10_deliver_126 : decode cX10_deliver 126 = .ok (.aload_n 0, 1) := by decide +kernel
theorem dX10_deliver_127 : decode cX10_deliver 127 = .ok (.iload_n 2, 1) := by decide +kernel
theorem dX10_deliver_128 : decode cX10_deliver 128 = .ok (.invokevirtual 274, 3) := by decide +kernel
theorem dX10_deliver_131 : decode cX10_deliver 131 = .ok (.iconst 1, 1) := by decide +kernel
theorem dX10_deliver_132 : decode cX10_deliver 132 = .ok (.ireturn, 1) := by decide +kernel
set_option maxHeartbeats 4000000 in
set_option maxRecDepth 100000 in
theorem c_X10_deliver (l : Launch) (E : EE) (z0 : Nat) (G : Nat → Nat) (hGz : ∀ q, G q ≠ 0 → z0 ≤ q) (h0 : Nat) (p0 : Int32) (hG : G h0 = 20) : Met l yX10_deliver [Cond.code yX10_deliver cX10_deliver 3 (some .boolean)] ({ frames := 0, cells := 0, slots := 0, locals := 0 } : Room) (va_Pc [.ref h0, .int p0] (fun U => TH E (T0 E) G [] U.heap ∧ KS E z0 U)) (va_Qi (fun (r : Int32) (_ : Unit) => r = 0) (fun _ _ => True) (fun q : Nat => G q ≠ 0)) 0 0 (fun q : Nat => G q ≠ 0) := by
  refine Met.ofW (cc := cX10_deliver) (maxL := 3) (ret := (some .boolean)) (by decide) rfl ?_
  intro p e s m args below meth c s₁ B hml hv
  obtain ⟨rfl, hT, hK⟩ := hv
  have hx := B.exec
  have hb := B.bytes
  have hr := B.returns
  have hts : ∀ w ∈ TS, w.before ([.ref h0, .int p0] : List Value).toArray s = true := fun w hw => hK.2.1 w hw _
  have hown : s.vm.findClass RX10 = some m.cls := findClass_of_methodNamed B.named
  have hlocks := B.notSynchronized
  have hS : va_S (fun q : Nat => G q ≠ 0) s.heap s.heap [] := va_S.rf
  have hAz : ∀ q, (fun q : Nat => G q ≠ 0) q → z0 ≤ q := hGz
  have hl := lv_entry ([.ref h0, .int p0]) (n := 3) (Nat.le_of_ble_eq_true rfl)
  rw [lg_entry_eq]
  generalize (lg_sl ([.ref h0, .int p0]) ++ List.replicate (3 - (lg_sl ([.ref h0, .int p0])).length) Slot.unset).toArray = ls at hl ⊢
  have hl : lv_has ls 3 [(0, .ref h0), (1, .int p0)] := hl
  refine lv_aload_n hx hb dX10_deliver_0 rfl (lv_at hl 0 rfl) ?_
  refine lv_iconst (v := 0) hx hb dX10_deliver_1 (by decide) ?_
  obtain ⟨t0_1, t1_1, t2_1, r_1, ha_1, hg_1⟩ := tg_20 hT hG nx_0
  refine rr_put (D := DG E) (ci := 10) (v := .int 0) (ty := .int) (C := RX10) (T := TX10) (N := 49) hx hb hts iw_X10 tyX10 tyX10_ok nmX10 hown hK.1 ha_1 hS (by show G h0 ≠ 0; rw [hG]; decide) rfl 3 (by decide) (hts _ fl_X10_153) (fun _ h9 => h9) rfl (by decide +kernel) rfl rfl (Nat.le_of_ble_eq_true rfl) dX10_deliver_2 (fun H locs hn ho hz hS => ?_)
  have hr_2 : va_at (DG E) vwCl (h0, .inr (10, mfs t0_1 t1_1 t2_1 0 r_1 0)) H := hn
  have hT : TH E (T0 E) G [] H := hT.set hG (show T0 E G 20 _ from ⟨t0_1, t1_1, t2_1, r_1, rfl, hg_1⟩) hr_2 ho
  refine lv_iload_n hx hb dX10_deliver_5 rfl (lv_at hl 1 rfl) ?_
  refine lv_if_lt (tgt := 17) hx hb dX10_deliver_6 (by decide) (fun c_3 => ?_) (fun c_3 => ?_)
  · simp only [lt_I, le_I, eq_I, i_0, i_1, i_2, i_3, i_4, i_5, i_6, i_7, i_8, i_10, i_12, i_16, i_20, i_23, i_24, i_31, i_32, i_63, i_64, i_m1] at c_3
    refine lv_iconst (v := 0) hx hb dX10_deliver_17 (by decide) ?_
    exact W.zret (v := 0) (ty := .boolean) hx hb hr rfl (fun t ht hW => ⟨⟨0, (), rfl, rfl, trivial⟩, hS.F ht⟩) hS.2.2 dX10_deliver_18
  · simp only [lt_I, le_I, eq_I, i_0, i_1, i_2, i_3, i_4, i_5, i_6, i_7, i_8, i_10, i_12, i_16, i_20, i_23, i_24, i_31, i_32, i_63, i_64, i_m1] at c_3
    refine lv_iload_n hx hb dX10_deliver_9 rfl (lv_at hl 1 rfl) ?_
    refine lv_aload_n hx hb dX10_deliver_10 rfl (lv_at hl 0 rfl) ?_
    obtain ⟨t0_4, t1_4, t2_4, r_4, ha_4, hg_4⟩ := tg_20 hT hG nx_0
    refine va_get (D := DG E) (ci := 10) (v := .int 0) (C := RX10) (T := TX10) (N := 49) hx hb hts iw_X10 hown hK.1 (va_one ha_4) 0 rfl rfl 40 (by decide) (hts _ fl_X10_164) (fun _ h9 => h9) rfl dX10_deliver_11 ?_
    refine lv_icmp_lt (tgt := 19) hx hb dX10_deliver_14 (by decide) (fun c_5 => ?_) (fun c_5 => ?_)
    · simp only [lt_I, le_I, eq_I, i_0, i_1, i_2, i_3, i_4, i_5, i_6, i_7, i_8, i_10, i_12, i_16, i_20, i_23, i_24, i_31, i_32, i_63, i_64, i_m1] at c_5
      refine lv_aload_n hx hb dX10_deliver_19 rfl (lv_at hl 0 rfl) ?_
      refine lv_iload_n hx hb dX10_deliver_20 rfl (lv_at hl 1 rfl) ?_
      refine lv_bipush (v := 24) hx hb dX10_deliver_21 (by decide) ?_
      exfalso
      omega
    · simp only [lt_I, le_I, eq_I, i_0, i_1, i_2, i_3, i_4, i_5, i_6, i_7, i_8, i_10, i_12, i_16, i_20, i_23, i_24, i_31, i_32, i_63, i_64, i_m1] at c_5
      refine lv_iconst (v := 0) hx hb dX10_deliver_17 (by decide) ?_
      exact W.zret (v := 0) (ty := .boolean) hx hb hr rfl (fun t ht hW => ⟨⟨0, (), rfl, rfl, trivial⟩, hS.F ht⟩) hS.2.2 dX10_deliver_18
theorem dX10_spoil_0 : decode cX10_spoil 0 = .ok (.aload_n 0, 1) := by decide +kernel
theorem dX10_spoil_1 : decode cX10_spoil 1 = .ok (.iconst 0, 1) := by decide +kernel
theorem dX10_spoil_2 : decode cX10_spoil 2 = .ok (.putfield 153, 3) := by decide +kernel
theorem dX10_spoil_5 : decode cX10_spoil 5 = .ok (.iload_n 1, 1) := by decide +kernel
theorem dX10_spoil_6 : decode cX10_spoil 6 = .ok (.ifCond .lt 24, 3) := by decide +kernel
theorem dX10_spoil_9 : decode cX10_spoil 9 = .ok (.iload_n 1, 1) := by decide +kernel
theorem dX10_spoil_10 : decode cX10_spoil 10 = .ok (.aload_n 0, 1) := by decide +kernel
theorem dX10_spoil_11 : decode cX10_spoil 11 = .ok (.getfield 164, 3) := by decide +kernel
theorem dX10_spoil_14 : decode cX10_spoil 14 = .ok (.if_icmp .ge 16, 3) := by decide +kernel
theorem dX10_spoil_17 : decode cX10_spoil 17 = .ok (.iload_n 2, 1) := by decide +kernel
theorem dX10_spoil_18 : decode cX10_spoil 18 = .ok (.ifCond .eq 14, 3) := by decide +kernel
theorem dX10_spoil_21 : decode cX10_spoil 21 = .ok (.aload_n 0, 1) := by decide +kernel
theorem dX10_spoil_22 : decode cX10_spoil 22 = .ok (.getfield 164, 3) := by decide +kernel
theorem dX10_spoil_25 : decode cX10_spoil 25 = .ok (.bipush 24, 2) := by decide +kernel
theorem dX10_spoil_27 : decode cX10_spoil 27 = .ok (.if_icmp .ne 5, 3) := by decide +kernel
theorem dX10_spoil_30 : decode cX10_spoil 30 = .ok (.iconst 0, 1) := by decide +kernel
theorem dX10_spoil_31 : decode cX10_spoil 31 = .ok (.ireturn, 1) := by decide +kernel
theorem dX10_spoil_32 : decode cX10_spoil 32 = .ok (.iload_n 2, 1) := by decide +kernel
theorem dX10_spoil_33 : decode cX10_spoil 33 = .ok (.ifCond .eq 25, 3) := by decide +kernel
theorem dX10_spoil_36 : decode cX10_spoil 36 = .ok (.aload_n 0, 1) := by decide +kernel
theorem dX10_spoil_37 : decode cX10_spoil 37 = .ok (.iload_n 1, 1) := by decide +kernel
theorem dX10_spoil_38 : decode cX10_spoil 38 = .ok (.aload_n 0, 1) := by decide +kernel
theorem dX10_spoil_39 : decode cX10_spoil 39 = .ok (.getfield 164, 3) := by decide +kernel
theorem dX10_spoil_42 : decode cX10_spoil 42 = .ok (.invokevirtual 170, 3) := by decide +kernel
theorem dX10_spoil_45 : decode cX10_spoil 45 = .ok (.aload_n 0, 1) := by decide +kernel
theorem dX10_spoil_46 : decode cX10_spoil 46 = .ok (.dup, 1) := by decide +kernel
theorem dX10_spoil_47 : decode cX10_spoil 47 = .ok (.getfield 164, 3) := by decide +kernel
theorem dX10_spoil_50 : decode cX10_spoil 50 = .ok (.iconst 1, 1) := by decide +kernel
theorem dX10_spoil_51 : decode cX10_spoil 51 = .ok (.iadd, 1) := by decide +kernel
theorem dX10_spoil_52 : decode cX10_spoil 52 = .ok (.putfield 164, 3) := by decide +kernel
theorem dX10_spoil_55 : decode cX10_spoil 55 = .ok (.goto 8, 3) := by decide +kernel
theorem dX10_spoil_58 : decode cX10_spoil 58 = .ok (.aload_n 0, 1) := by decide +kernel
theorem dX10_spoil_59 : decode cX10_spoil 59 = .ok (.iload_n 1, 1) := by decide +kernel
theorem dX10_spoil_60 : decode cX10_spoil 60 = .ok (.invokevirtual 265, 3) := by decide +kernel
theorem dX10_spoil_63 : decode cX10_spoil 63 = .ok (.iconst 1, 1) := by decide +kernel
theorem dX10_spoil_64 : decode cX10_spoil 64 = .ok (.ireturn, 1) := by decide +kernel
set_option maxHeartbeats 4000000 in
set_option maxRecDepth 100000 in
theorem c_X10_spoil (l : Launch) (E : EE) (z0 : Nat) (G : Nat → Nat) (hGz : ∀ q, G q ≠ 0 → z0 ≤ q) (h0 : Nat) (p0 p1 : Int32) (hG : G h0 = 20) : Met l yX10_spoil [Cond.code yX10_spoil cX10_spoil 3 (some .boolean)] ({ frames := 0, cells := 0, slots := 0, locals := 0 } : Room) (va_Pc [.ref h0, .int p0, .int p1] (fun U => TH E (T0 E) G [] U.heap ∧ KS E z0 U)) (va_Qi (fun (r : Int32) (_ : Unit) => r = 0) (fun _ _ => True) (fun q : Nat => G q ≠ 0)) 0 0 (fun q : Nat => G q ≠ 0) := by
  refine Met.ofW (cc := cX10_spoil) (maxL := 3) (ret := (some .boolean)) (by decide) rfl ?_
  intro p e s m args below meth c s₁ B hml hv
  obtain ⟨rfl, hT, hK⟩ := hv
  have hx := B.exec
  have hb := B.bytes
  have hr := B.returns
  have hts : ∀ w ∈ TS, w.before ([.ref h0, .int p0, .int p1] : List Value).toArray s = true := fun w hw => hK.2.1 w hw _
  have hown : s.vm.findClass RX10 = some m.cls := findClass_of_methodNamed B.named
  have hlocks := B.notSynchronized
  have hS : va_S (fun q : Nat => G q ≠ 0) s.heap s.heap [] := va_S.rf
  have hAz : ∀ q, (fun q : Nat => G q ≠ 0) q → z0 ≤ q := hGz
  have hl := lv_entry ([.ref h0, .int p0, .int p1]) (n := 3) (Nat.le_of_ble_eq_true rfl)
  rw [lg_entry_eq]
  generalize (lg_sl ([.ref h0, .int p0, .int p1]) ++ List.replicate (3 - (lg_sl ([.ref h0, .int p0, .int p1])).length) Slot.unset).toArray = ls at hl ⊢
  have hl : lv_has ls 3 [(0, .ref h0), (1, .int p0), (2, .int p1)] := hl
  refine lv_aload_n hx hb dX10_spoil_0 rfl (lv_at hl 0 rfl) ?_
  refine lv_iconst (v := 0) hx hb dX10_spoil_1 (by decide) ?_
  obtain ⟨t0_1, t1_1, t2_1, r_1, ha_1, hg_1⟩ := tg_20 hT hG nx_0
  refine rr_put (D := DG E) (ci := 10) (v := .int 0) (ty := .int) (C := RX10) (T := TX10) (N := 49) hx hb hts iw_X10 tyX10 tyX10_ok nmX10 hown hK.1 ha_1 hS (by show G h0 ≠ 0; rw [hG]; decide) rfl 3 (by decide) (hts _ fl_X10_153) (fun _ h9 => h9) rfl (by decide +kernel) rfl rfl (Nat.le_of_ble_eq_true rfl) dX10_spoil_2 (fun H locs hn ho hz hS => ?_)
  have hr_2 : va_at (DG E) vwCl (h0, .inr (10, mfs t0_1 t1_1 t2_1 0 r_1 0)) H := hn
  have hT : TH E (T0 E) G [] H := hT.set hG (show T0 E G 20 _ from ⟨t0_1, t1_1, t2_1, r_1, rfl, hg_1⟩) hr_2 ho
  refine lv_iload_n hx hb dX10_spoil_5 rfl (lv_at hl 1 rfl) ?_
  refine lv_if_lt (tgt := 30) hx hb dX10_spoil_6 (by decide) (fun c_3 => ?_) (fun c_3 => ?_)
  · simp only [lt_I, le_I, eq_I, i_0, i_1, i_2, i_3, i_4, i_5, i_6, i_7, i_8, i_10, i_12, i_16, i_20, i_23, i_24, i_31, i_32, i_63, i_64, i_m1] at c_3
    refine lv_iconst (v := 0) hx hb dX10_spoil_30 (by decide) ?_
    exact W.zret (v := 0) (ty := .boolean) hx hb hr rfl (fun t ht hW => ⟨⟨0, (), rfl, rfl, trivial⟩, hS.F ht⟩) hS.2.2 dX10_spoil_31
  · simp only [lt_I, le_I, eq_I, i_0, i_1, i_2, i_3, i_4, i_5, i_6, i_7, i_8, i_10, i_12, i_16, i_20, i_23, i_24, i_31, i_32, i_63, i_64, i_m1] at c_3
    refine lv_iload_n hx hb dX10_spoil_9 rfl (lv_at hl 1 rfl) ?_
    refine lv_aload_n hx hb dX10_spoil_10 rfl (lv_at hl 0 rfl) ?_
    obtain ⟨t0_4, t1_4, t2_4, r_4, ha_4, hg_4⟩ := tg_20 hT hG nx_0
    refine va_get (D := DG E) (ci := 10) (v := .int 0) (C := RX10) (T := TX10) (N := 49) hx hb hts iw_X10 hown hK.1 (va_one ha_4) 0 rfl rfl 40 (by decide) (hts _ fl_X10_164) (fun _ h9 => h9) rfl dX10_spoil_11 ?_
    refine lv_icmp_ge (tgt := 30) hx hb dX10_spoil_14 (by decide) (fun c_5 => ?_) (fun c_5 => ?_)
    · simp only [lt_I, le_I, eq_I, i_0, i_1, i_2, i_3, i_4, i_5, i_6, i_7, i_8, i_10, i_12, i_16, i_20, i_23, i_24, i_31, i_32, i_63, i_64, i_m1] at c_5
      refine lv_iconst (v := 0) hx hb dX10_spoil_30 (by decide) ?_
      exact W.zret (v := 0) (ty := .boolean) hx hb hr rfl (fun t ht hW => ⟨⟨0, (), rfl, rfl, trivial⟩, hS.F ht⟩) hS.2.2 dX10_spoil_31
    · simp only [lt_I, le_I, eq_I, i_0, i_1, i_2, i_3, i_4, i_5, i_6, i_7, i_8, i_10, i_12, i_16, i_20, i_23, i_24, i_31, i_32, i_63, i_64, i_m1] at c_5
      refine lv_iload_n hx hb dX10_spoil_17 rfl (lv_at hl 2 rfl) ?_
      refine lv_if_eq (tgt := 32) hx hb dX10_spoil_18 (by decide) (fun c_6 => ?_) (fun c_6 => ?_)
      · simp only [lt_I, le_I, eq_I, i_0, i_1, i_2, i_3, i_4, i_5, i_6, i_7, i_8, i_10, i_12, i_16, i_20, i_23, i_24, i_31, i_32, i_63, i_64, i_m1] at c_6
        refine lv_iload_n hx hb dX10_spoil_32 rfl (lv_at hl 2 rfl) ?_
        refine lv_if_eq (tgt := 58) hx hb dX10_spoil_33 (by decide) (fun c_7 => ?_) (fun c_7 => ?_)
        · simp only [lt_I, le_I, eq_I, i_0, i_1, i_2, i_3, i_4, i_5, i_6, i_7, i_8, i_10, i_12, i_16, i_20, i_23, i_24, i_31, i_32, i_63, i_64, i_m1] at c_7
          refine lv_aload_n hx hb dX10_spoil_58 rfl (lv_at hl 0 rfl) ?_
          refine lv_iload_n hx hb dX10_spoil_59 rfl (lv_at hl 1 rfl) ?_
          exfalso
          omega
        · simp only [lt_I, le_I, eq_I, i_0, i_1, i_2, i_3, i_4, i_5, i_6, i_7, i_8, i_10, i_12, i_16, i_20, i_23, i_24, i_31, i_32, i_63, i_64, i_m1] at c_7
          refine lv_aload_n hx hb dX10_spoil_36 rfl (lv_at hl 0 rfl) ?_
          refine lv_iload_n hx hb dX10_spoil_37 rfl (lv_at hl 1 rfl) ?_
          refine lv_aload_n hx hb dX10_spoil_38 rfl (lv_at hl 0 rfl) ?_
          obtain ⟨t0_8, t1_8, t2_8, r_8, ha_8, hg_8⟩ := tg_20 hT hG nx_0
          refine va_get (D := DG E) (ci := 10) (v := .int 0) (C := RX10) (T := TX10) (N := 49) hx hb hts iw_X10 hown hK.1 (va_one ha_8) 0 rfl rfl 40 (by decide) (hts _ fl_X10_164) (fun _ h9 => h9) rfl dX10_spoil_39 ?_
          exfalso
          omega
      · simp only [lt_I, le_I, eq_I, i_0, i_1, i_2, i_3, i_4, i_5, i_6, i_7, i_8, i_10, i_12, i_16, i_20, i_23, i_24, i_31, i_32, i_63, i_64, i_m1] at c_6
        refine lv_aload_n hx hb dX10_spoil_21 rfl (lv_at hl 0 rfl) ?_
        obtain ⟨t0_9, t1_9, t2_9, r_9, ha_9, hg_9⟩ := tg_20 hT hG nx_0
        refine va_get (D := DG E) (ci := 10) (v := .int 0) (C := RX10) (T := TX10) (N := 49) hx hb hts iw_X10 hown hK.1 (va_one ha_9) 0 rfl rfl 40 (by decide) (hts _ fl_X10_164) (fun _ h9 => h9) rfl dX10_spoil_22 ?_
        refine lv_bipush (v := 24) hx hb dX10_spoil_25 (by decide) ?_
        refine lv_icmp_ne (tgt := 32) hx hb dX10_spoil_27 (by decide) (fun c_10 => ?_) (fun c_10 => absurd c_10 (by decide))
        refine lv_iload_n hx hb dX10_spoil_32 rfl (lv_at hl 2 rfl) ?_
        refine lv_if_eq (tgt := 58) hx hb dX10_spoil_33 (by decide) (fun c_11 => ?_) (fun c_11 => ?_)
        · simp only [lt_I, le_I, eq_I, i_0, i_1, i_2, i_3, i_4, i_5, i_6, i_7, i_8, i_10, i_12, i_16, i_20, i_23, i_24, i_31, i_32, i_63, i_64, i_m1] at c_11
          refine lv_aload_n hx hb dX10_spoil_58 rfl (lv_at hl 0 rfl) ?_
          refine lv_iload_n hx hb dX10_spoil_59 rfl (lv_at hl 1 rfl) ?_
          exfalso
          omega
        · simp only [lt_I, le_I, eq_I, i_0, i_1, i_2, i_3, i_4, i_5, i_6, i_7, i_8, i_10, i_12, i_16, i_20, i_23, i_24, i_31, i_32, i_63, i_64, i_m1] at c_11
          refine lv_aload_n hx hb dX10_spoil_36 rfl (lv_at hl 0 rfl) ?_
          refine lv_iload_n hx hb dX10_spoil_37 rfl (lv_at hl 1 rfl) ?_
          refine lv_aload_n hx hb dX10_spoil_38 rfl (lv_at hl 0 rfl) ?_
          obtain ⟨t0_12, t1_12, t2_12, r_12, ha_12, hg_12⟩ := tg_20 hT hG nx_0
          refine va_get (D := DG E) (ci := 10) (v := .int 0) (C := RX10) (T := TX10) (N := 49) hx hb hts iw_X10 hown hK.1 (va_one ha_12) 0 rfl rfl 40 (by decide) (hts _ fl_X10_164) (fun _ h9 => h9) rfl dX10_spoil_39 ?_
          exfalso
          omega
theorem dX10_packets_0 : decode cX10_packets 0 = .ok (.aload_n 0, 1) := by decide +kernel
theorem dX10_packets_1 : decode cX10_packets 1 = .ok (.iconst 0, 1) := by decide +kernel
theorem dX10_packets_2 : decode cX10_packets 2 = .ok (.putfield 153, 3) := by decide +kernel
theorem dX10_packets_5 : decode cX10_packets 5 = .ok (.aload_n 0, 1) := by decide +kernel
theorem dX10_packets_6 : decode cX10_packets 6 = .ok (.getfield 164, 3) := by decide +kernel
theorem dX10_packets_9 : decode cX10_packets 9 = .ok (.ireturn, 1) := by decide +kernel
set_option maxHeartbeats 4000000 in
set_option maxRecDepth 100000 in
theorem c_X10_packets (l : Launch) (E : EE) (z0 : Nat) (G : Nat → Nat) (hGz : ∀ q, G q ≠ 0 → z0 ≤ q) (h0 : Nat) (hG : G h0 = 20) : Met l yX10_packets [Cond.code yX10_packets cX10_packets 1 (some .int)] ({ frames := 0, cells := 0, slots := 0, locals := 0 } : Room) (va_Pc [.ref h0] (fun U => TH E (T0 E) G [] U.heap ∧ KS E z0 U)) (va_Qi (fun (r : Int32) (_ : Unit) => r = 0) (fun _ _ => True) (fun q : Nat => G q ≠ 0)) 0 0 (fun q : Nat => G q ≠ 0) := by
  refine Met.ofW (cc := cX10_packets) (maxL := 1) (ret := (some .int)) (by decide) rfl ?_
  intro p e s m args below meth c s₁ B hml hv
  obtain ⟨rfl, hT, hK⟩ := hv
  have hx := B.exec
  have hb := B.bytes
  have hr := B.returns
  have hts : ∀ w ∈ TS, w.before ([.ref h0] : List Value).toArray s = true := fun w hw => hK.2.1 w hw _
  have hown : s.vm.findClass RX10 = some m.cls := findClass_of_methodNamed B.named
  have hlocks := B.notSynchronized
  have hS : va_S (fun q : Nat => G q ≠ 0) s.heap s.heap [] := va_S.rf
  have hAz : ∀ q, (fun q : Nat => G q ≠ 0) q → z0 ≤ q := hGz
  have hl := lv_entry ([.ref h0]) (n := 1) (Nat.le_of_ble_eq_true rfl)
  rw [lg_entry_eq]
  generalize (lg_sl ([.ref h0]) ++ List.replicate (1 - (lg_sl ([.ref h0])).length) Slot.unset).toArray = ls at hl ⊢
  have hl : lv_has ls 1 [(0, .ref h0)] := hl
  refine lv_aload_n hx hb dX10_packets_0 rfl (lv_at hl 0 rfl) ?_
  refine lv_iconst (v := 0) hx hb dX10_packets_1 (by decide) ?_
  obtain ⟨t0_1, t1_1, t2_1, r_1, ha_1, hg_1⟩ := tg_20 hT hG nx_0
  refine rr_put (D := DG E) (ci := 10) (v := .int 0) (ty := .int) (C := RX10) (T := TX10) (N := 49) hx hb hts iw_X10 tyX10 tyX10_ok nmX10 hown hK.1 ha_1 hS (by show G h0 ≠ 0; rw [hG]; decide) rfl 3 (by decide) (hts _ fl_X10_153) (fun _ h9 => h9) rfl (by decide +kernel) rfl rfl (Nat.le_of_ble_eq_true rfl) dX10_packets_2 (fun H locs hn ho hz hS => ?_)
  have hr_2 : va_at (DG E) vwCl (h0, .inr (10, mfs t0_1 t1_1 t2_1 0 r_1 0)) H := hn
  have hT : TH E (T0 E) G [] H := hT.set hG (show T0 E G 20 _ from ⟨t0_1, t1_1, t2_1, r_1, rfl, hg_1⟩) hr_2 ho
  refine lv_aload_n hx hb dX10_packets_5 rfl (lv_at hl 0 rfl) ?_
  obtain ⟨t0_3, t1_3, t2_3, r_3, ha_3, hg_3⟩ := tg_20 hT hG nx_0
  refine va_get (D := DG E) (ci := 10) (v := .int 0) (C := RX10) (T := TX10) (N := 49) hx hb hts iw_X10 hown hK.1 (va_one ha_3) 0 rfl rfl 40 (by decide) (hts _ fl_X10_164) (fun _ h9 => h9) rfl dX10_packets_6 ?_
  exact W.iret (v := 0) hx hb hr (fun t ht hW => ⟨⟨0, (), rfl, rfl, trivial⟩, hS.F ht⟩) hS.2.2 dX10_packets_9
theorem dX10_packet_0 : decode cX10_packet 0 = .ok (.aload_n 0, 1) := by decide +kernel
theorem dX10_packet_1 : decode cX10_packet 1 = .ok (.iconst 0, 1) := by decide +kernel
theorem dX10_packet_2 : decode cX10_packet 2 = .ok (.putfield 153, 3) := by decide +kernel
theorem dX10_packet_5 : decode cX10_packet 5 = .ok (.iload_n 1, 1) := by decide +kernel
theorem dX10_packet_6 : decode cX10_packet 6 = .ok (.ifCond .lt 11, 3) := by decide +kernel
theorem dX10_packet_9 : decode cX10_packet 9 = .ok (.iload_n 1, 1) := by decide +kernel
theorem dX10_packet_10 : decode cX10_packet 10 = .ok (.aload_n 0, 1) := by decide +kernel
theorem dX10_packet_11 : decode cX10_packet 11 = .ok (.getfield 164, 3) := by decide +kernel
theorem dX10_packet_14 : decode cX10_packet 14 = .ok (.if_icmp .lt 5, 3) := by decide +kernel
theorem dX10_packet_17 : decode cX10_packet 17 = .ok (.iconst (-1), 1) := by decide +kernel
theorem dX10_packet_18 : decode cX10_packet 18 = .ok (.ireturn, 1) := by decide +kernel
theorem dX10_packet_19 : decode cX10_packet 19 = .ok (.iload_n 2, 1) := by decide +kernel
theorem dX10_packet_20 : decode cX10_packet 20 = .ok (.tableswitch 82 0 5 #[40, 47, 54, 61, 68, 75], 40) := by decide +kernel
theorem dX10_packet_60 : decode cX10_packet 60 = .ok (.aload_n 0, 1) := by decide +kernel
theorem dX10_packet_61 : decode cX10_packet 61 = .ok (.getfield 119, 3) := by decide +kernel
theorem dX10_packet_64 : decode cX10_packet 64 = .ok (.iload_n 1, 1) := by decide +kernel
theorem dX10_packet_65 : decode cX10_packet 65 = .ok (.iaload, 1) := by decide +kernel
theorem dX10_packet_66 : decode cX10_packet 66 = .ok (.ireturn, 1) := by decide +kernel
theorem dX10_packet_67 : decode cX10_packet 67 = .ok (.aload_n 0, 1) := by decide +kernel
theorem dX10_packet_68 : decode cX10_packet 68 = .ok (.getfield 122, 3) := by decide +kernel
theorem dX10_packet_71 : decode cX10_packet 71 = .ok (.iload_n 1, 1) := by decide +kernel
theorem dX10_packet_72 : decode cX10_packet 72 = .ok (.iaload, 1) := by decide +kernel
theorem dX10_packet_73 : decode cX10_packet 73 = .ok (.ireturn, 1) := by decide +kernel
theorem dX10_packet_74 : decode cX10_packet 74 = .ok (.aload_n 0, 1) := by decide +kernel
theorem dX10_packet_75 : decode cX10_packet 75 = .ok (.getfield 125, 3) := by decide +kernel
theorem dX10_packet_78 : decode cX10_packet 78 = .ok (.iload_n 1, 1) := by decide +kernel
theorem dX10_packet_79 : decode cX10_packet 79 = .ok (.iaload, 1) := by decide +kernel
theorem dX10_packet_80 : decode cX10_packet 80 = .ok (.ireturn, 1) := by decide +kernel
theorem dX10_packet_81 : decode cX10_packet 81 = .ok (.aload_n 0, 1) := by decide +kernel
theorem dX10_packet_82 : decode cX10_packet 82 = .ok (.getfield 128, 3) := by decide +kernel
theorem dX10_packet_85 : decode cX10_packet 85 = .ok (.iload_n 1, 1) := by decide +kernel
theorem dX10_packet_86 : decode cX10_packet 86 = .ok (.iaload, 1) := by decide +kernel
theorem dX10_packet_87 : decode cX10_packet 87 = .ok (.ireturn, 1) := by decide +kernel
theorem dX10_packet_88 : decode cX10_packet 88 = .ok (.aload_n 0, 1) := by decide +kernel
theorem dX10_packet_89 : decode cX10_packet 89 = .ok (.getfield 131, 3) := by decide +kernel
theorem dX10_packet_92 : decode cX10_packet 92 = .ok (.iload_n 1, 1) := by decide +kernel
theorem dX10_packet_93 : decode cX10_packet 93 = .ok (.iaload, 1) := by decide +kernel
theorem dX10_packet_94 : decode cX10_packet 94 = .ok (.ireturn, 1) := by decide +kernel
theorem dX10_packet_95 : decode cX10_packet 95 = .ok (.aload_n 0, 1) := by decide +kernel
theorem dX10_packet_96 : decode cX10_packet 96 = .ok (.getfield 134, 3) := by decide +kernel
theorem dX10_packet_99 : decode cX10_packet 99 = .ok (.iload_n 1, 1) := by decide +kernel
theorem dX10_packet_100 : decode cX10_packet 100 = .ok (.iaload, 1) := by decide +kernel
theorem dX10_packet_101 : decode cX10_packet 101 = .ok (.ireturn, 1) := by decide +kernel
theorem dX10_packet_102 : decode cX10_packet 102 = .ok (.iconst (-1), 1) := by decide +kernel
theorem dX10_packet_103 : decode cX10_packet 103 = .ok (.ireturn, 1) := by decide +kernel
set_option maxHeartbeats 4000000 in
set_option maxRecDepth 100000 in
theorem c_X10_packet (l : Launch) (E : EE) (z0 : Nat) (G : Nat → Nat) (hGz : ∀ q, G q ≠ 0 → z0 ≤ q) (h0 : Nat) (p0 p1 : Int32) (hG : G h0 = 20) : Met l yX10_packet [Cond.code yX10_packet cX10_packet 3 (some .int)] ({ frames := 0, cells := 0, slots := 0, locals := 0 } : Room) (va_Pc [.ref h0, .int p0, .int p1] (fun U => TH E (T0 E) G [] U.heap ∧ KS E z0 U)) (va_Qi (fun (r : Int32) (_ : Unit) => r = -1) (fun _ _ => True) (fun q : Nat => G q ≠ 0)) 0 0 (fun q : Nat => G q ≠ 0) := by
  refine Met.ofW (cc := cX10_packet) (maxL := 3) (ret := (some .int)) (by decide) rfl ?_
  intro p e s m args below meth c s₁ B hml hv
  obtain ⟨rfl, hT, hK⟩ := hv
  have hx := B.exec
  have hb := B.bytes
  have hr := B.returns
  have hts : ∀ w ∈ TS, w.before ([.ref h0, .int p0, .int p1] : List Value).toArray s = true := fun w hw => hK.2.1 w hw _
  have hown : s.vm.findClass RX10 = some m.cls := findClass_of_methodNamed B.named
  have hlocks := B.notSynchronized
  have hS : va_S (fun q : Nat => G q ≠ 0) s.heap s.heap [] := va_S.rf
  have hAz : ∀ q, (fun q : Nat => G q ≠ 0) q → z0 ≤ q := hGz
  have hl := lv_entry ([.ref h0, .int p0, .int p1]) (n := 3) (Nat.le_of_ble_eq_true rfl)
  rw [lg_entry_eq]
  generalize (lg_sl ([.ref h0, .int p0, .int p1]) ++ List.replicate (3 - (lg_sl ([.ref h0, .int p0, .int p1])).length) Slot.unset).toArray = ls at hl ⊢
  have hl : lv_has ls 3 [(0, .ref h0), (1, .int p0), (2, .int p1)] := hl
  refine lv_aload_n hx hb dX10_packet_0 rfl (lv_at hl 0 rfl) ?_
  refine lv_iconst (v := 0) hx hb dX10_packet_1 (by decide) ?_
  obtain ⟨t0_1, t1_1, t2_1, r_1, ha_1, hg_1⟩ := tg_20 hT hG nx_0
  refine rr_put (D := DG E) (ci := 10) (v := .int 0) (ty := .int) (C := RX10) (T := TX10) (N := 49) hx hb hts iw_X10 tyX10 tyX10_ok nmX10 hown hK.1 ha_1 hS (by show G h0 ≠ 0; rw [hG]; decide) rfl 3 (by decide) (hts _ fl_X10_153) (fun _ h9 => h9) rfl (by decide +kernel) rfl rfl (Nat.le_of_ble_eq_true rfl) dX10_packet_2 (fun H locs hn ho hz hS => ?_)
  have hr_2 : va_at (DG E) vwCl (h0, .inr (10, mfs t0_1 t1_1 t2_1 0 r_1 0)) H := hn
  have hT : TH E (T0 E) G [] H := hT.set hG (show T0 E G 20 _ from ⟨t0_1, t1_1, t2_1, r_1, rfl, hg_1⟩) hr_2 ho
  refine lv_iload_n hx hb dX10_packet_5 rfl (lv_at hl 1 rfl) ?_
  refine lv_if_lt (tgt := 17) hx hb dX10_packet_6 (by decide) (fun c_3 => ?_) (fun c_3 => ?_)
  · simp only [lt_I, le_I, eq_I, i_0, i_1, i_2, i_3, i_4, i_5, i_6, i_7, i_8, i_10, i_12, i_16, i_20, i_23, i_24, i_31, i_32, i_63, i_64, i_m1] at c_3
    refine lv_iconst (v := (-1)) hx hb dX10_packet_17 (by decide) ?_
    exact W.iret (v := (-1)) hx hb hr (fun t ht hW => ⟨⟨(-1), (), rfl, rfl, trivial⟩, hS.F ht⟩) hS.2.2 dX10_packet_18
  · simp only [lt_I, le_I, eq_I, i_0, i_1, i_2, i_3, i_4, i_5, i_6, i_7, i_8, i_10, i_12, i_16, i_20, i_23, i_24, i_31, i_32, i_63, i_64, i_m1] at c_3
    refine lv_iload_n hx hb dX10_packet_9 rfl (lv_at hl 1 rfl) ?_
    refine lv_aload_n hx hb dX10_packet_10 rfl (lv_at hl 0 rfl) ?_
    obtain ⟨t0_4, t1_4, t2_4, r_4, ha_4, hg_4⟩ := tg_20 hT hG nx_0
    refine va_get (D := DG E) (ci := 10) (v := .int 0) (C := RX10) (T := TX10) (N := 49) hx hb hts iw_X10 hown hK.1 (va_one ha_4) 0 rfl rfl 40 (by decide) (hts _ fl_X10_164) (fun _ h9 => h9) rfl dX10_packet_11 ?_
    refine lv_icmp_lt (tgt := 19) hx hb dX10_packet_14 (by decide) (fun c_5 => ?_) (fun c_5 => ?_)
    · simp only [lt_I, le_I, eq_I, i_0, i_1, i_2, i_3, i_4, i_5, i_6, i_7, i_8, i_10, i_12, i_16, i_20, i_23, i_24, i_31, i_32, i_63, i_64, i_m1] at c_5
      exfalso
      omega
    · simp only [lt_I, le_I, eq_I, i_0, i_1, i_2, i_3, i_4, i_5, i_6, i_7, i_8, i_10, i_12, i_16, i_20, i_23, i_24, i_31, i_32, i_63, i_64, i_m1] at c_5
      refine lv_iconst (v := (-1)) hx hb dX10_packet_17 (by decide) ?_
      exact W.iret (v := (-1)) hx hb hr (fun t ht hW => ⟨⟨(-1), (), rfl, rfl, trivial⟩, hS.F ht⟩) hS.2.2 dX10_packet_18
theorem dX10_completions_0 : decode cX10_completions 0 = .ok (.aload_n 0, 1) := by decide +kernel
theorem dX10_completions_1 : decode cX10_completions 1 = .ok (.iconst 0, 1) := by decide +kernel
theorem dX10_completions_2 : decode cX10_completions 2 = .ok (.putfield 153, 3) := by decide +kernel
theorem dX10_completions_5 : decode cX10_completions 5 = .ok (.iload_n 1, 1) := by decide +kernel
theorem dX10_completions_6 : decode cX10_completions 6 = .ok (.iconst 1, 1) := by decide +kernel
theorem dX10_completions_7 : decode cX10_completions 7 = .ok (.invokestatic 156, 3) := by decide +kernel
theorem dX10_completions_10 : decode cX10_completions 10 = .ok (.ifCond .eq 12, 3) := by decide +kernel
theorem dX10_completions_13 : decode cX10_completions 13 = .ok (.aload_n 0, 1) := by decide +kernel
theorem dX10_completions_14 : decode cX10_completions 14 = .ok (.getfield 22, 3) := by decide +kernel
theorem dX10_completions_17 : decode cX10_completions 17 = .ok (.iload_n 1, 1) := by decide +kernel
theorem dX10_completions_18 : decode cX10_completions 18 = .ok (.iaload, 1) := by decide +kernel
theorem dX10_completions_19 : decode cX10_completions 19 = .ok (.goto 4, 3) := by decide +kernel
theorem dX10_completions_22 : decode cX10_completions 22 = .ok (.iconst (-1), 1) := by decide +kernel
theorem dX10_completions_23 : decode cX10_completions 23 = .ok (.ireturn, 1) := by decide +kernel
set_option maxHeartbeats 4000000 in
set_option maxRecDepth 100000 in
theorem c_X10_completions (l : Launch) (E : EE) (z0 : Nat) (G : Nat → Nat) (hGz : ∀ q, G q ≠ 0 → z0 ≤ q) (h0 : Nat) (p0 : Int32) (hG : G h0 = 20) : Met l yX10_completions [Cond.code yX10_completions cX10_completions 2 (some .int)] ({ frames := 1, cells := 0, slots := 0, locals := 21 } : Room) (va_Pc [.ref h0, .int p0] (fun U => TH E (T0 E) G [] U.heap ∧ KS E z0 U)) (va_Qi (fun (r : Int32) (_ : Unit) => r = if 0 ≤ p0.toInt ∧ p0.toInt < 2 then 0 else -1) (fun _ _ => True) (fun q : Nat => G q ≠ 0)) 0 0 (fun q : Nat => G q ≠ 0) := by
  refine Met.ofW (cc := cX10_completions) (maxL := 2) (ret := (some .int)) (by decide) rfl ?_
  intro p e s m args below meth c s₁ B hml hv
  obtain ⟨rfl, hT, hK⟩ := hv
  have hx := B.exec
  have hb := B.bytes
  have hr := B.returns
  have hts : ∀ w ∈ TS, w.before ([.ref h0, .int p0] : List Value).toArray s = true := fun w hw => hK.2.1 w hw _
  have hown : s.vm.findClass RX10 = some m.cls := findClass_of_methodNamed B.named
  have hlocks := B.notSynchronized
  have hS : va_S (fun q : Nat => G q ≠ 0) s.heap s.heap [] := va_S.rf
  have hAz : ∀ q, (fun q : Nat => G q ≠ 0) q → z0 ≤ q := hGz
  have hl := lv_entry ([.ref h0, .int p0]) (n := 2) (Nat.le_of_ble_eq_true rfl)
  rw [lg_entry_eq]
  generalize (lg_sl ([.ref h0, .int p0]) ++ List.replicate (2 - (lg_sl ([.ref h0, .int p0])).length) Slot.unset).toArray = ls at hl ⊢
  have hl : lv_has ls 2 [(0, .ref h0), (1, .int p0)] := hl
  refine lv_aload_n hx hb dX10_completions_0 rfl (lv_at hl 0 rfl) ?_
  refine lv_iconst (v := 0) hx hb dX10_completions_1 (by decide) ?_
  obtain ⟨t0_1, t1_1, t2_1, r_1, ha_1, hg_1⟩ := tg_20 hT hG nx_0
  refine rr_put (D := DG E) (ci := 10) (v := .int 0) (ty := .int) (C := RX10) (T := TX10) (N := 49) hx hb hts iw_X10 tyX10 tyX10_ok nmX10 hown hK.1 ha_1 hS (by show G h0 ≠ 0; rw [hG]; decide) rfl 3 (by decide) (hts _ fl_X10_153) (fun _ h9 => h9) rfl (by decide +kernel) rfl rfl (Nat.le_of_ble_eq_true rfl) dX10_completions_2 (fun H locs hn ho hz hS => ?_)
  have hr_2 : va_at (DG E) vwCl (h0, .inr (10, mfs t0_1 t1_1 t2_1 0 r_1 0)) H := hn
  have hT : TH E (T0 E) G [] H := hT.set hG (show T0 E G 20 _ from ⟨t0_1, t1_1, t2_1, r_1, rfl, hg_1⟩) hr_2 ho
  refine lv_iload_n hx hb dX10_completions_5 rfl (lv_at hl 1 rfl) ?_
  refine lv_iconst (v := 1) hx hb dX10_completions_6 (by decide) ?_
  refine W.callR (W.runS (As := [.int p0, .int 1]) (rest := []) ⟨hx, hb, hml, hown, hts⟩ (c_X10_within l p0 1) (cwS 2 hts (gdS ml_X10_156 st_X10_within in_X10 co_X10_within rfl) rfl rfl rfl (by decide +kernel) ⟨Nat.le_of_ble_eq_true rfl, Nat.le_of_ble_eq_true rfl⟩) preEq rfl rfl hl.1 rfl (lv_room (Nat.le_of_ble_eq_true rfl)) dX10_completions_7 ⟨Nat.le_of_ble_eq_true rfl, Nat.le_of_ble_eq_true rfl⟩) ?_
  refine W.eq (g2 := F0 m 10 ls [.int (bI (0 ≤ p0.toInt ∧ p0.toInt ≤ (1 : Int32).toInt))]) (by rfl) ?_
  refine lv_if_eq (tgt := 22) hx hb dX10_completions_10 (by decide) (fun c_3 => ?_) (fun c_3 => ?_)
  · have c_3 := bI_0 c_3
    try simp only [lt_I, le_I, eq_I, i_0, i_1, i_2, i_3, i_4, i_5, i_6, i_7, i_8, i_10, i_12, i_16, i_20, i_23, i_24, i_31, i_32, i_63, i_64, i_m1] at c_3
    refine lv_iconst (v := (-1)) hx hb dX10_completions_22 (by decide) ?_
    exact W.iret (v := (-1)) hx hb hr (fun t ht hW => ⟨⟨(-1), (), rfl, (by first | rw [if_pos (by omega)] | rw [if_neg (by omega)]), trivial⟩, hS.F ht⟩) hS.2.2 dX10_completions_23
  · have c_3 := bI_n c_3
    try simp only [lt_I, le_I, eq_I, i_0, i_1, i_2, i_3, i_4, i_5, i_6, i_7, i_8, i_10, i_12, i_16, i_20, i_23, i_24, i_31, i_32, i_63, i_64, i_m1] at c_3
    refine lv_aload_n hx hb dX10_completions_13 rfl (lv_at hl 0 rfl) ?_
    obtain ⟨t0_4, t1_4, t2_4, r_4, ha_4, hg_4⟩ := tg_20 hT hG nx_0
    refine va_get (D := DG E) (ci := 10) (v := .ref (r_4 8)) (C := RX10) (T := TX10) (N := 49) hx hb hts iw_X10 hown hK.1 (va_one ha_4) 0 rfl rfl 8 (by decide) (hts _ fl_X10_22) (fun _ h9 => h9) rfl dX10_completions_14 ?_
    refine lv_iload_n hx hb dX10_completions_17 rfl (lv_at hl 1 rfl) ?_
    have ha_5 : va_at (DG E) vwCl ((r_4 8), .inl (E.2.2 0, 2, .inl (fun _ => 0))) _ := tg_arr (j := 8) hT (hg_4 8 (by decide) (by decide) (by decide)) nx_0
    refine va_iald (D := DG E) hx hb hK.1 (va_one ha_5) 0 0 rfl rfl (show vp_in p0 2 from vp_in_iff.mpr (by omega)) dX10_completions_18 ?_
    refine W.eq (g2 := F0 m 19 ls [.int 0]) (by rfl) ?_
    refine lv_goto (tgt := 23) hx hb dX10_completions_19 (by decide) ?_
    exact W.iret (v := 0) hx hb hr (fun t ht hW => ⟨⟨0, (), rfl, (by first | rw [if_pos (by omega)] | rw [if_neg (by omega)]), trivial⟩, hS.F ht⟩) hS.2.2 dX10_completions_23
