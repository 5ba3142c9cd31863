theorem dX10_move1_0 : decode cX10_move1 0 = .ok (.aload_n 0, 1) := by decide +kernel
theorem dX10_move1_1 : decode cX10_move1 1 = .ok (.getfield 119, 3) := by decide +kernel
theorem dX10_move1_4 : decode cX10_move1 4 = .ok (.iload_n 2, 1) := by decide +kernel
theorem dX10_move1_5 : decode cX10_move1 5 = .ok (.aload_n 0, 1) := by decide +kernel
theorem dX10_move1_6 : decode cX10_move1 6 = .ok (.getfield 119, 3) := by decide +kernel
theorem dX10_move1_9 : decode cX10_move1 9 = .ok (.iload_n 1, 1) := by decide +kernel
theorem dX10_move1_10 : decode cX10_move1 10 = .ok (.iaload, 1) := by decide +kernel
theorem dX10_move1_11 : decode cX10_move1 11 = .ok (.iastore, 1) := by decide +kernel
theorem dX10_move1_12 : decode cX10_move1 12 = .ok (.aload_n 0, 1) := by decide +kernel
theorem dX10_move1_13 : decode cX10_move1 13 = .ok (.getfield 122, 3) := by decide +kernel
theorem dX10_move1_16 : decode cX10_move1 16 = .ok (.iload_n 2, 1) := by decide +kernel
theorem dX10_move1_17 : decode cX10_move1 17 = .ok (.aload_n 0, 1) := by decide +kernel
theorem dX10_move1_18 : decode cX10_move1 18 = .ok (.getfield 122, 3) := by decide +kernel
theorem dX10_move1_21 : decode cX10_move1 21 = .ok (.iload_n 1, 1) := by decide +kernel
theorem dX10_move1_22 : decode cX10_move1 22 = .ok (.iaload, 1) := by decide +kernel
theorem dX10_move1_23 : decode cX10_move1 23 = .ok (.iastore, 1) := by decide +kernel
theorem dX10_move1_24 : decode cX10_move1 24 = .ok (.aload_n 0, 1) := by decide +kernel
theorem dX10_move1_25 : decode cX10_move1 25 = .ok (.getfield 125, 3) := by decide +kernel
theorem dX10_move1_28 : decode cX10_move1 28 = .ok (.iload_n 2, 1) := by decide +kernel
theorem dX10_move1_29 : decode cX10_move1 29 = .ok (.aload_n 0, 1) := by decide +kernel
theorem dX10_move1_30 : decode cX10_move1 30 = .ok (.getfield 125, 3) := by decide +kernel
theorem dX10_move1_33 : decode cX10_move1 33 = .ok (.iload_n 1, 1) := by decide +kernel
theorem dX10_move1_34 : decode cX10_move1 34 = .ok (.iaload, 1) := by decide +kernel
theorem dX10_move1_35 : decode cX10_move1 35 = .ok (.iastore, 1) := by decide +kernel
theorem dX10_move1_36 : decode cX10_move1 36 = .ok (.aload_n 0, 1) := by decide +kernel
theorem dX10_move1_37 : decode cX10_move1 37 = .ok (.getfield 128, 3) := by decide +kernel
theorem dX10_move1_40 : decode cX10_move1 40 = .ok (.iload_n 2, 1) := by decide +kernel
theorem dX10_move1_41 : decode cX10_move1 41 = .ok (.aload_n 0, 1) := by decide +kernel
theorem dX10_move1_42 : decode cX10_move1 42 = .ok (.getfield 128, 3) := by decide +kernel
theorem dX10_move1_45 : decode cX10_move1 45 = .ok (.iload_n 1, 1) := by decide +kernel
theorem dX10_move1_46 : decode cX10_move1 46 = .ok (.iaload, 1) := by decide +kernel
theorem dX10_move1_47 : decode cX10_move1 47 = .ok (.iastore, 1) := by decide +kernel
theorem dX10_move1_48 : decode cX10_move1 48 = .ok (.aload_n 0, 1) := by decide +kernel
theorem dX10_move1_49 : decode cX10_move1 49 = .ok (.getfield 131, 3) := by decide +kernel
theorem dX10_move1_52 : decode cX10_move1 52 = .ok (.iload_n 2, 1) := by decide +kernel
theorem dX10_move1_53 : decode cX10_move1 53 = .ok (.aload_n 0, 1) := by decide +kernel
theorem dX10_move1_54 : decode cX10_move1 54 = .ok (.getfield 131, 3) := by decide +kernel
theorem dX10_move1_57 : decode cX10_move1 57 = .ok (.iload_n 1, 1) := by decide +kernel
theorem dX10_move1_58 : decode cX10_move1 58 = .ok (.iaload, 1) := by decide +kernel
theorem dX10_move1_59 : decode cX10_move1 59 = .ok (.iastore, 1) := by decide +kernel
theorem dX10_move1_60 : decode cX10_move1 60 = .ok (.aload_n 0, 1) := by decide +kernel
theorem dX10_move1_61 : decode cX10_move1 61 = .ok (.getfield 134, 3) := by decide +kernel
theorem dX10_move1_64 : decode cX10_move1 64 = .ok (.iload_n 2, 1) := by decide +kernel
theorem dX10_move1_65 : decode cX10_move1 65 = .ok (.aload_n 0, 1) := by decide +kernel
theorem dX10_move1_66 : decode cX10_move1 66 = .ok (.getfield 134, 3) := by decide +kernel
theorem dX10_move1_69 : decode cX10_move1 69 = .ok (.iload_n 1, 1) := by decide +kernel
theorem dX10_move1_70 : decode cX10_move1 70 = .ok (.iaload, 1) := by decide +kernel
theorem dX10_move1_71 : decode cX10_move1 71 = .ok (.iastore, 1) := by decide +kernel
theorem dX10_move1_72 : decode cX10_move1 72 = .ok (.aload_n 0, 1) := by decide +kernel
theorem dX10_move1_73 : decode cX10_move1 73 = .ok (.getfield 137, 3) := by decide +kernel
theorem dX10_move1_76 : decode cX10_move1 76 = .ok (.iload_n 2, 1) := by decide +kernel
theorem dX10_move1_77 : decode cX10_move1 77 = .ok (.aload_n 0, 1) := by decide +kernel
theorem dX10_move1_78 : decode cX10_move1 78 = .ok (.getfield 137, 3) := by decide +kernel
theorem dX10_move1_81 : decode cX10_move1 81 = .ok (.iload_n 1, 1) := by decide +kernel
theorem dX10_move1_82 : decode cX10_move1 82 = .ok (.iaload, 1) := by decide +kernel
theorem dX10_move1_83 : decode cX10_move1 83 = .ok (.iastore, 1) := by decide +kernel
theorem dX10_move1_84 : decode cX10_move1 84 = .ok (.iconst 0, 1) := by decide +kernel
theorem dX10_move1_85 : decode cX10_move1 85 = .ok (.istore_n 3, 1) := by decide +kernel
theorem dX10_move1_86 : decode cX10_move1 86 = .ok (.iload_n 3, 1) := by decide +kernel
theorem dX10_move1_87 : decode cX10_move1 87 = .ok (.iconst 4, 1) := by decide +kernel
theorem dX10_move1_88 : decode cX10_move1 88 = .ok (.if_icmp .ge 29, 3) := by decide +kernel
theorem dX10_move1_91 : decode cX10_move1 91 = .ok (.aload_n 0, 1) := by decide +kernel
theorem dX10_move1_92 : decode cX10_move1 92 = .ok (.getfield 140, 3) := by decide +kernel
theorem dX10_move1_95 : decode cX10_move1 95 = .ok (.iconst 4, 1) := by decide +kernel
theorem dX10_move1_96 : decode cX10_move1 96 = .ok (.iload_n 2, 1) := by decide +kernel
theorem dX10_move1_97 : decode cX10_move1 97 = .ok (.imul, 1) := by decide +kernel
theorem dX10_move1_98 : decode cX10_move1 98 = .ok (.iload_n 3, 1) := by decide +kernel
theorem dX10_move1_99 : decode cX10_move1 99 = .ok (.iadd, 1) := by decide +kernel
theorem dX10_move1_100 : decode cX10_move1 100 = .ok (.aload_n 0, 1) := by decide +kernel
theorem dX10_move1_101 : decode cX10_move1 101 = .ok (.getfield 140, 3) := by decide +kernel
theorem dX10_move1_104 : decode cX10_move1 104 = .ok (.iconst 4, 1) := by decide +kernel
theorem dX10_move1_105 : decode cX10_move1 105 = .ok (.iload_n 1, 1) := by decide +kernel
theorem dX10_move1_106 : decode cX10_move1 106 = .ok (.imul, 1) := by decide +kernel
theorem dX10_move1_107 : decode cX10_move1 107 = .ok (.iload_n 3, 1) := by decide +kernel
theorem dX10_move1_108 : decode cX10_move1 108 = .ok (.iadd, 1) := by decide +kernel
theorem dX10_move1_109 : decode cX10_move1 109 = .ok (.iaload, 1) := by decide +kernel
theorem dX10_move1_110 : decode cX10_move1 110 = .ok (.iastore, 1) := by decide +kernel
theorem dX10_move1_111 : decode cX10_move1 111 = .ok (.iinc 3 1, 3) := by decide +kernel
theorem dX10_move1_114 : decode cX10_move1 114 = .ok (.goto (-28), 3) := by decide +kernel
theorem dX10_move1_117 : decode cX10_move1 117 = .ok (.return_, 1) := by decide +kernel
set_option maxHeartbeats 8000000 in
set_option maxRecDepth 100000 in
theorem u_X10_move1 (l : Launch) (E : EE) (z0 : Nat) (G : Nat → Nat) (hGz : ∀ q, G q ≠ 0 → z0 ≤ q) (h0 : Nat) (rf : Nat → Nat) (hR : MG G h0 rf) (t0 t1 t2 : Int32) (A : AA) (cd pk : Int32) (p0 : Int32) (p1 : Int32) (hI7 : I7 (A 41) (A 42) (A 44) (A 45) (A 46)) (hy0 : 0 ≤ p0.toInt ∧ p0.toInt ≤ 24) (hy1 : 0 ≤ p1.toInt ∧ p1.toInt ≤ 24) : Met l yX10_move1 [Cond.code yX10_move1 cX10_move1 4 none] ({ frames := 0, cells := 0, slots := 0, locals := 0 } : Room) (va_Pc [.ref h0, .int p0, .int p1] (fun U => MH E h0 rf t0 t1 t2 A cd pk U.heap ∧ KS E z0 U)) (va_Qv (fun (u : (Nat → Int32) × (Nat → Int32) × (Nat → Int32) × (Nat → Int32) × (Nat → Int32) × (Nat → Int32) × (Nat → Int32) × (Nat → Int32)) => I7 (u.1) (u.2.1) (u.2.2.2.1) (u.2.2.2.2.1) (u.2.2.2.2.2.1)) (fun u t => MH E h0 rf t0 t1 t2 (uA (uA (uA (uA (uA (uA (uA (uA A 41 (u.1)) 42 (u.2.1)) 43 (u.2.2.1)) 44 (u.2.2.2.1)) 45 (u.2.2.2.2.1)) 46 (u.2.2.2.2.2.1)) 47 (u.2.2.2.2.2.2.1)) 48 (u.2.2.2.2.2.2.2)) cd pk t.heap) (fun q : Nat => G q ≠ 0)) 0 0 (fun q : Nat => G q ≠ 0) := by
  refine Met.ofW (cc := cX10_move1) (maxL := 4) (ret := none) (by decide) rfl ?_
  intro p e s m args below meth c s₁ B hml hv
  obtain ⟨rfl, hM, hK⟩ := hv
  have hx := B.exec
  have hb := B.bytes
  have hr := B.returns
  have hts : ∀ w ∈ TS, w.before ([.ref h0, .int p0, .int p1] : List Value).toArray s = true := fun w hw => hK.2.1 w hw _
  have hown : s.vm.findClass RX10 = some m.cls := findClass_of_methodNamed B.named
  have hlocks := B.notSynchronized
  have hS : va_S (fun q : Nat => G q ≠ 0) s.heap s.heap [] := va_S.rf
  have hAz : ∀ q, (fun q : Nat => G q ≠ 0) q → z0 ≤ q := hGz
  have hl := lv_entry ([.ref h0, .int p0, .int p1]) (n := 4) (Nat.le_of_ble_eq_true rfl)
  rw [lg_entry_eq]
  generalize (lg_sl ([.ref h0, .int p0, .int p1]) ++ List.replicate (4 - (lg_sl ([.ref h0, .int p0, .int p1])).length) Slot.unset).toArray = ls at hl ⊢
  have hl : lv_has ls 4 [(0, .ref h0), (1, .int p0), (2, .int p1)] := hl
  refine lv_aload_n hx hb dX10_move1_0 rfl (lv_at hl 0 rfl) ?_
  refine va_get (D := DG E) (ci := 10) (v := .ref (rf 41)) (C := RX10) (T := TX10) (N := 49) hx hb hts iw_X10 hown hK.1 (va_one hM.1) 0 rfl rfl 41 (by decide) (hts _ fl_X10_119) (fun _ h9 => h9) rfl dX10_move1_1 ?_
  refine lv_iload_n hx hb dX10_move1_4 rfl (lv_at hl 2 rfl) ?_
  refine lv_aload_n hx hb dX10_move1_5 rfl (lv_at hl 0 rfl) ?_
  refine va_get (D := DG E) (ci := 10) (v := .ref (rf 41)) (C := RX10) (T := TX10) (N := 49) hx hb hts iw_X10 hown hK.1 (va_one hM.1) 0 rfl rfl 41 (by decide) (hts _ fl_X10_119) (fun _ h9 => h9) rfl dX10_move1_6 ?_
  refine lv_iload_n hx hb dX10_move1_9 rfl (lv_at hl 1 rfl) ?_
  have ha_1 : va_at (DG E) vwCl (rf 41, .inl (E.2.2 0, 25, .inl (A 41))) _ := hM.2 41 (by decide) (by decide) (by decide)
  obtain ⟨n_2, hn_2, en_2⟩ := s_nat (x := p0) (by omega)
  refine va_iald (D := DG E) hx hb hK.1 (va_one ha_1) 0 0 rfl rfl (show vp_in p0 25 from vp_in_iff.mpr (by omega)) dX10_move1_10 ?_
  refine W.eq (g2 := F0 m 11 ls [.int ((A 41) n_2), .int p1, .ref (rf 41)]) (by rw [en_2]) ?_
  have q_3 : 0 ≤ ((A 41) n_2).toInt ∧ ((A 41) n_2).toInt ≤ 3 ∧ 0 ≤ ((A 44) n_2).toInt ∧ ((A 44) n_2).toInt ≤ 12 ∧ (((A 42) n_2).toInt ≠ 0 ∧ ((A 42) n_2).toInt ≠ 1 ∧ ((A 42) n_2).toInt ≠ 4 ∨ ((A 44) n_2).toInt ≤ 4) ∧ (((A 42) n_2).toInt < 1 ∨ 3 < ((A 42) n_2).toInt ∨ (0 ≤ ((A 45) n_2).toInt ∧ ((A 45) n_2).toInt ≤ 5)) ∧ -1 ≤ ((A 46) n_2).toInt ∧ ((A 46) n_2).toInt ≤ 60 := hI7 n_2 (by omega)
  have ha_4 : va_at (DG E) vwCl (rf 41, .inl (E.2.2 0, 25, .inl (A 41))) _ := hM.2 41 (by decide) (by decide) (by decide)
  obtain ⟨n_5, hn_5, en_5⟩ := s_nat (x := p1) (by omega)
  refine rr_iast (D := DG E) hx hb hK.1 0 ha_4 hS (by show G (rf 41) ≠ 0; rw [hR.2 41 (by decide) (by decide) (by decide)]; decide) rfl (show vp_in p1 25 from vp_in_iff.mpr (by omega)) dX10_move1_11 (fun H locs hn ho hz hS => ?_)
  rw [en_5] at hn
  obtain ⟨g_4, eg_4⟩ : ∃ z : Nat → Int32, z = upd (A 41) n_5 ((A 41) n_2) := ⟨_, rfl⟩
  have sg_4 : g_4 n_5 = ((A 41) n_2) := by rw [eg_4]; exact upd_s
  have ng_4 : ∀ k, k ≠ n_5 → g_4 k = (A 41) k := fun k hk => by rw [eg_4]; exact upd_n hk
  have hn : va_at (DG E) vwCl (rf 41, .inl (E.2.2 0, 25, .inl g_4)) H := by rw [eg_4]; exact hn
  have hM : MH E h0 rf t0 t1 t2 (uA A 41 g_4) cd pk H := hM.w hR 41 (by decide) (by decide) (by decide) hn ho
  refine lv_aload_n hx hb dX10_move1_12 rfl (lv_at hl 0 rfl) ?_
  refine va_get (D := DG E) (ci := 10) (v := .ref (rf 42)) (C := RX10) (T := TX10) (N := 49) hx hb hts iw_X10 hown hK.1 (va_one hM.1) 0 rfl rfl 42 (by decide) (hts _ fl_X10_122) (fun _ h9 => h9) rfl dX10_move1_13 ?_
  refine lv_iload_n hx hb dX10_move1_16 rfl (lv_at hl 2 rfl) ?_
  refine lv_aload_n hx hb dX10_move1_17 rfl (lv_at hl 0 rfl) ?_
  refine va_get (D := DG E) (ci := 10) (v := .ref (rf 42)) (C := RX10) (T := TX10) (N := 49) hx hb hts iw_X10 hown hK.1 (va_one hM.1) 0 rfl rfl 42 (by decide) (hts _ fl_X10_122) (fun _ h9 => h9) rfl dX10_move1_18 ?_
  refine lv_iload_n hx hb dX10_move1_21 rfl (lv_at hl 1 rfl) ?_
  have ha_6 : va_at (DG E) vwCl (rf 42, .inl (E.2.2 0, 25, .inl (A 42))) _ := hM.2 42 (by decide) (by decide) (by decide)
  refine va_iald (D := DG E) hx hb hK.1 (va_one ha_6) 0 0 rfl rfl (show vp_in p0 25 from vp_in_iff.mpr (by omega)) dX10_move1_22 ?_
  refine W.eq (g2 := F0 m 23 ls [.int ((A 42) n_2), .int p1, .ref (rf 42)]) (by rw [en_2]) ?_
  have ha_7 : va_at (DG E) vwCl (rf 42, .inl (E.2.2 0, 25, .inl (A 42))) _ := hM.2 42 (by decide) (by decide) (by decide)
  refine rr_iast (D := DG E) hx hb hK.1 0 ha_7 hS (by show G (rf 42) ≠ 0; rw [hR.2 42 (by decide) (by decide) (by decide)]; decide) rfl (show vp_in p1 25 from vp_in_iff.mpr (by omega)) dX10_move1_23 (fun H locs hn ho hz hS => ?_)
  rw [en_5] at hn
  obtain ⟨g_7, eg_7⟩ : ∃ z : Nat → Int32, z = upd (A 42) n_5 ((A 42) n_2) := ⟨_, rfl⟩
  have sg_7 : g_7 n_5 = ((A 42) n_2) := by rw [eg_7]; exact upd_s
  have ng_7 : ∀ k, k ≠ n_5 → g_7 k = (A 42) k := fun k hk => by rw [eg_7]; exact upd_n hk
  have hn : va_at (DG E) vwCl (rf 42, .inl (E.2.2 0, 25, .inl g_7)) H := by rw [eg_7]; exact hn
  have hM : MH E h0 rf t0 t1 t2 (uA (uA A 41 g_4) 42 g_7) cd pk H := hM.w hR 42 (by decide) (by decide) (by decide) hn ho
  refine lv_aload_n hx hb dX10_move1_24 rfl (lv_at hl 0 rfl) ?_
  refine va_get (D := DG E) (ci := 10) (v := .ref (rf 43)) (C := RX10) (T := TX10) (N := 49) hx hb hts iw_X10 hown hK.1 (va_one hM.1) 0 rfl rfl 43 (by decide) (hts _ fl_X10_125) (fun _ h9 => h9) rfl dX10_move1_25 ?_
  refine lv_iload_n hx hb dX10_move1_28 rfl (lv_at hl 2 rfl) ?_
  refine lv_aload_n hx hb dX10_move1_29 rfl (lv_at hl 0 rfl) ?_
  refine va_get (D := DG E) (ci := 10) (v := .ref (rf 43)) (C := RX10) (T := TX10) (N := 49) hx hb hts iw_X10 hown hK.1 (va_one hM.1) 0 rfl rfl 43 (by decide) (hts _ fl_X10_125) (fun _ h9 => h9) rfl dX10_move1_30 ?_
  refine lv_iload_n hx hb dX10_move1_33 rfl (lv_at hl 1 rfl) ?_
  have ha_8 : va_at (DG E) vwCl (rf 43, .inl (E.2.2 0, 25, .inl (A 43))) _ := hM.2 43 (by decide) (by decide) (by decide)
  refine va_iald (D := DG E) hx hb hK.1 (va_one ha_8) 0 0 rfl rfl (show vp_in p0 25 from vp_in_iff.mpr (by omega)) dX10_move1_34 ?_
  refine W.eq (g2 := F0 m 35 ls [.int ((A 43) n_2), .int p1, .ref (rf 43)]) (by rw [en_2]) ?_
  have ha_9 : va_at (DG E) vwCl (rf 43, .inl (E.2.2 0, 25, .inl (A 43))) _ := hM.2 43 (by decide) (by decide) (by decide)
  refine rr_iast (D := DG E) hx hb hK.1 0 ha_9 hS (by show G (rf 43) ≠ 0; rw [hR.2 43 (by decide) (by decide) (by decide)]; decide) rfl (show vp_in p1 25 from vp_in_iff.mpr (by omega)) dX10_move1_35 (fun H locs hn ho hz hS => ?_)
  rw [en_5] at hn
  obtain ⟨g_9, eg_9⟩ : ∃ z : Nat → Int32, z = upd (A 43) n_5 ((A 43) n_2) := ⟨_, rfl⟩
  have sg_9 : g_9 n_5 = ((A 43) n_2) := by rw [eg_9]; exact upd_s
  have ng_9 : ∀ k, k ≠ n_5 → g_9 k = (A 43) k := fun k hk => by rw [eg_9]; exact upd_n hk
  have hn : va_at (DG E) vwCl (rf 43, .inl (E.2.2 0, 25, .inl g_9)) H := by rw [eg_9]; exact hn
  have hM : MH E h0 rf t0 t1 t2 (uA (uA (uA A 41 g_4) 42 g_7) 43 g_9) cd pk H := hM.w hR 43 (by decide) (by decide) (by decide) hn ho
  refine lv_aload_n hx hb dX10_move1_36 rfl (lv_at hl 0 rfl) ?_
  refine va_get (D := DG E) (ci := 10) (v := .ref (rf 44)) (C := RX10) (T := TX10) (N := 49) hx hb hts iw_X10 hown hK.1 (va_one hM.1) 0 rfl rfl 44 (by decide) (hts _ fl_X10_128) (fun _ h9 => h9) rfl dX10_move1_37 ?_
  refine lv_iload_n hx hb dX10_move1_40 rfl (lv_at hl 2 rfl) ?_
  refine lv_aload_n hx hb dX10_move1_41 rfl (lv_at hl 0 rfl) ?_
  refine va_get (D := DG E) (ci := 10) (v := .ref (rf 44)) (C := RX10) (T := TX10) (N := 49) hx hb hts iw_X10 hown hK.1 (va_one hM.1) 0 rfl rfl 44 (by decide) (hts _ fl_X10_128) (fun _ h9 => h9) rfl dX10_move1_42 ?_
  refine lv_iload_n hx hb dX10_move1_45 rfl (lv_at hl 1 rfl) ?_
  have ha_10 : va_at (DG E) vwCl (rf 44, .inl (E.2.2 0, 25, .inl (A 44))) _ := hM.2 44 (by decide) (by decide) (by decide)
  refine va_iald (D := DG E) hx hb hK.1 (va_one ha_10) 0 0 rfl rfl (show vp_in p0 25 from vp_in_iff.mpr (by omega)) dX10_move1_46 ?_
  refine W.eq (g2 := F0 m 47 ls [.int ((A 44) n_2), .int p1, .ref (rf 44)]) (by rw [en_2]) ?_
  have ha_11 : va_at (DG E) vwCl (rf 44, .inl (E.2.2 0, 25, .inl (A 44))) _ := hM.2 44 (by decide) (by decide) (by decide)
  refine rr_iast (D := DG E) hx hb hK.1 0 ha_11 hS (by show G (rf 44) ≠ 0; rw [hR.2 44 (by decide) (by decide) (by decide)]; decide) rfl (show vp_in p1 25 from vp_in_iff.mpr (by omega)) dX10_move1_47 (fun H locs hn ho hz hS => ?_)
  rw [en_5] at hn
  obtain ⟨g_11, eg_11⟩ : ∃ z : Nat → Int32, z = upd (A 44) n_5 ((A 44) n_2) := ⟨_, rfl⟩
  have sg_11 : g_11 n_5 = ((A 44) n_2) := by rw [eg_11]; exact upd_s
  have ng_11 : ∀ k, k ≠ n_5 → g_11 k = (A 44) k := fun k hk => by rw [eg_11]; exact upd_n hk
  have hn : va_at (DG E) vwCl (rf 44, .inl (E.2.2 0, 25, .inl g_11)) H := by rw [eg_11]; exact hn
  have hM : MH E h0 rf t0 t1 t2 (uA (uA (uA (uA A 41 g_4) 42 g_7) 43 g_9) 44 g_11) cd pk H := hM.w hR 44 (by decide) (by decide) (by decide) hn ho
  refine lv_aload_n hx hb dX10_move1_48 rfl (lv_at hl 0 rfl) ?_
  refine va_get (D := DG E) (ci := 10) (v := .ref (rf 45)) (C := RX10) (T := TX10) (N := 49) hx hb hts iw_X10 hown hK.1 (va_one hM.1) 0 rfl rfl 45 (by decide) (hts _ fl_X10_131) (fun _ h9 => h9) rfl dX10_move1_49 ?_
  refine lv_iload_n hx hb dX10_move1_52 rfl (lv_at hl 2 rfl) ?_
  refine lv_aload_n hx hb dX10_move1_53 rfl (lv_at hl 0 rfl) ?_
  refine va_get (D := DG E) (ci := 10) (v := .ref (rf 45)) (C := RX10) (T := TX10) (N := 49) hx hb hts iw_X10 hown hK.1 (va_one hM.1) 0 rfl rfl 45 (by decide) (hts _ fl_X10_131) (fun _ h9 => h9) rfl dX10_move1_54 ?_
  refine lv_iload_n hx hb dX10_move1_57 rfl (lv_at hl 1 rfl) ?_
  have ha_12 : va_at (DG E) vwCl (rf 45, .inl (E.2.2 0, 25, .inl (A 45))) _ := hM.2 45 (by decide) (by decide) (by decide)
  refine va_iald (D := DG E) hx hb hK.1 (va_one ha_12) 0 0 rfl rfl (show vp_in p0 25 from vp_in_iff.mpr (by omega)) dX10_move1_58 ?_
  refine W.eq (g2 := F0 m 59 ls [.int ((A 45) n_2), .int p1, .ref (rf 45)]) (by rw [en_2]) ?_
  have ha_13 : va_at (DG E) vwCl (rf 45, .inl (E.2.2 0, 25, .inl (A 45))) _ := hM.2 45 (by decide) (by decide) (by decide)
  refine rr_iast (D := DG E) hx hb hK.1 0 ha_13 hS (by show G (rf 45) ≠ 0; rw [hR.2 45 (by decide) (by decide) (by decide)]; decide) rfl (show vp_in p1 25 from vp_in_iff.mpr (by omega)) dX10_move1_59 (fun H locs hn ho hz hS => ?_)
  rw [en_5] at hn
  obtain ⟨g_13, eg_13⟩ : ∃ z : Nat → Int32, z = upd (A 45) n_5 ((A 45) n_2) := ⟨_, rfl⟩
  have sg_13 : g_13 n_5 = ((A 45) n_2) := by rw [eg_13]; exact upd_s
  have ng_13 : ∀ k, k ≠ n_5 → g_13 k = (A 45) k := fun k hk => by rw [eg_13]; exact upd_n hk
  have hn : va_at (DG E) vwCl (rf 45, .inl (E.2.2 0, 25, .inl g_13)) H := by rw [eg_13]; exact hn
  have hM : MH E h0 rf t0 t1 t2 (uA (uA (uA (uA (uA A 41 g_4) 42 g_7) 43 g_9) 44 g_11) 45 g_13) cd pk H := hM.w hR 45 (by decide) (by decide) (by decide) hn ho
  refine lv_aload_n hx hb dX10_move1_60 rfl (lv_at hl 0 rfl) ?_
  refine va_get (D := DG E) (ci := 10) (v := .ref (rf 46)) (C := RX10) (T := TX10) (N := 49) hx hb hts iw_X10 hown hK.1 (va_one hM.1) 0 rfl rfl 46 (by decide) (hts _ fl_X10_134) (fun _ h9 => h9) rfl dX10_move1_61 ?_
  refine lv_iload_n hx hb dX10_move1_64 rfl (lv_at hl 2 rfl) ?_
  refine lv_aload_n hx hb dX10_move1_65 rfl (lv_at hl 0 rfl) ?_
  refine va_get (D := DG E) (ci := 10) (v := .ref (rf 46)) (C := RX10) (T := TX10) (N := 49) hx hb hts iw_X10 hown hK.1 (va_one hM.1) 0 rfl rfl 46 (by decide) (hts _ fl_X10_134) (fun _ h9 => h9) rfl dX10_move1_66 ?_
  refine lv_iload_n hx hb dX10_move1_69 rfl (lv_at hl 1 rfl) ?_
  have ha_14 : va_at (DG E) vwCl (rf 46, .inl (E.2.2 0, 25, .inl (A 46))) _ := hM.2 46 (by decide) (by decide) (by decide)
  refine va_iald (D := DG E) hx hb hK.1 (va_one ha_14) 0 0 rfl rfl (show vp_in p0 25 from vp_in_iff.mpr (by omega)) dX10_move1_70 ?_
  refine W.eq (g2 := F0 m 71 ls [.int ((A 46) n_2), .int p1, .ref (rf 46)]) (by rw [en_2]) ?_
  have ha_15 : va_at (DG E) vwCl (rf 46, .inl (E.2.2 0, 25, .inl (A 46))) _ := hM.2 46 (by decide) (by decide) (by decide)
  refine rr_iast (D := DG E) hx hb hK.1 0 ha_15 hS (by show G (rf 46) ≠ 0; rw [hR.2 46 (by decide) (by decide) (by decide)]; decide) rfl (show vp_in p1 25 from vp_in_iff.mpr (by omega)) dX10_move1_71 (fun H locs hn ho hz hS => ?_)
  rw [en_5] at hn
  obtain ⟨g_15, eg_15⟩ : ∃ z : Nat → Int32, z = upd (A 46) n_5 ((A 46) n_2) := ⟨_, rfl⟩
  have sg_15 : g_15 n_5 = ((A 46) n_2) := by rw [eg_15]; exact upd_s
  have ng_15 : ∀ k, k ≠ n_5 → g_15 k = (A 46) k := fun k hk => by rw [eg_15]; exact upd_n hk
  have hn : va_at (DG E) vwCl (rf 46, .inl (E.2.2 0, 25, .inl g_15)) H := by rw [eg_15]; exact hn
  have hM : MH E h0 rf t0 t1 t2 (uA (uA (uA (uA (uA (uA A 41 g_4) 42 g_7) 43 g_9) 44 g_11) 45 g_13) 46 g_15) cd pk H := hM.w hR 46 (by decide) (by decide) (by decide) hn ho
  refine lv_aload_n hx hb dX10_move1_72 rfl (lv_at hl 0 rfl) ?_
  refine va_get (D := DG E) (ci := 10) (v := .ref (rf 47)) (C := RX10) (T := TX10) (N := 49) hx hb hts iw_X10 hown hK.1 (va_one hM.1) 0 rfl rfl 47 (by decide) (hts _ fl_X10_137) (fun _ h9 => h9) rfl dX10_move1_73 ?_
  refine lv_iload_n hx hb dX10_move1_76 rfl (lv_at hl 2 rfl) ?_
  refine lv_aload_n hx hb dX10_move1_77 rfl (lv_at hl 0 rfl) ?_
  refine va_get (D := DG E) (ci := 10) (v := .ref (rf 47)) (C := RX10) (T := TX10) (N := 49) hx hb hts iw_X10 hown hK.1 (va_one hM.1) 0 rfl rfl 47 (by decide) (hts _ fl_X10_137) (fun _ h9 => h9) rfl dX10_move1_78 ?_
  refine lv_iload_n hx hb dX10_move1_81 rfl (lv_at hl 1 rfl) ?_
  have ha_16 : va_at (DG E) vwCl (rf 47, .inl (E.2.2 0, 25, .inl (A 47))) _ := hM.2 47 (by decide) (by decide) (by decide)
  refine va_iald (D := DG E) hx hb hK.1 (va_one ha_16) 0 0 rfl rfl (show vp_in p0 25 from vp_in_iff.mpr (by omega)) dX10_move1_82 ?_
  refine W.eq (g2 := F0 m 83 ls [.int ((A 47) n_2), .int p1, .ref (rf 47)]) (by rw [en_2]) ?_
  have ha_17 : va_at (DG E) vwCl (rf 47, .inl (E.2.2 0, 25, .inl (A 47))) _ := hM.2 47 (by decide) (by decide) (by decide)
  refine rr_iast (D := DG E) hx hb hK.1 0 ha_17 hS (by show G (rf 47) ≠ 0; rw [hR.2 47 (by decide) (by decide) (by decide)]; decide) rfl (show vp_in p1 25 from vp_in_iff.mpr (by omega)) dX10_move1_83 (fun H locs hn ho hz hS => ?_)
  rw [en_5] at hn
  obtain ⟨g_17, eg_17⟩ : ∃ z : Nat → Int32, z = upd (A 47) n_5 ((A 47) n_2) := ⟨_, rfl⟩
  have sg_17 : g_17 n_5 = ((A 47) n_2) := by rw [eg_17]; exact upd_s
  have ng_17 : ∀ k, k ≠ n_5 → g_17 k = (A 47) k := fun k hk => by rw [eg_17]; exact upd_n hk
  have hn : va_at (DG E) vwCl (rf 47, .inl (E.2.2 0, 25, .inl g_17)) H := by rw [eg_17]; exact hn
  have hM : MH E h0 rf t0 t1 t2 (uA (uA (uA (uA (uA (uA (uA A 41 g_4) 42 g_7) 43 g_9) 44 g_11) 45 g_13) 46 g_15) 47 g_17) cd pk H := hM.w hR 47 (by decide) (by decide) (by decide) hn ho
  refine lv_iconst (v := 0) hx hb dX10_move1_84 (by decide) ?_
  refine lv_istore_n (lv' := [(3, .int 0), (0, .ref h0), (1, .int p0), (2, .int p1)]) hx hb dX10_move1_85 rfl hl (by decide) rfl (fun ls hl => ?_)
  refine lv_iload_n hx hb dX10_move1_86 rfl (lv_at hl 0 rfl) ?_
  refine lv_iconst (v := 4) hx hb dX10_move1_87 (by decide) ?_
  refine lv_icmp_ge (tgt := 117) hx hb dX10_move1_88 (by decide) (fun c_18 => absurd c_18 (by decide)) (fun c_18 => ?_)
  refine lv_aload_n hx hb dX10_move1_91 rfl (lv_at hl 1 rfl) ?_
  refine va_get (D := DG E) (ci := 10) (v := .ref (rf 48)) (C := RX10) (T := TX10) (N := 49) hx hb hts iw_X10 hown hK.1 (va_one hM.1) 0 rfl rfl 48 (by decide) (hts _ fl_X10_140) (fun _ h9 => h9) rfl dX10_move1_92 ?_
  refine lv_iconst (v := 4) hx hb dX10_move1_95 (by decide) ?_
  refine lv_iload_n hx hb dX10_move1_96 rfl (lv_at hl 3 rfl) ?_
  refine lv_imul hx hb dX10_move1_97 ?_
  refine lv_topi (fun x_19 ex_19 => ?_)
  have fx_19 : x_19.toInt = 4 * p1.toInt := by rw [ex_19]; exact s_mulK i_4 (by omega) (by omega)
  refine lv_iload_n hx hb dX10_move1_98 rfl (lv_at hl 0 rfl) ?_
  refine lv_iadd hx hb dX10_move1_99 ?_
  refine lv_topi (fun x_20 ex_20 => ?_)
  have fx_20 : x_20.toInt = x_19.toInt + 0 := by have h9 := s_add (x := x_19) (y := 0) (by rw [i_0]; omega) (by rw [i_0]; omega); rw [i_0] at h9; rw [ex_20]; exact h9
  refine lv_aload_n hx hb dX10_move1_100 rfl (lv_at hl 1 rfl) ?_
  refine va_get (D := DG E) (ci := 10) (v := .ref (rf 48)) (C := RX10) (T := TX10) (N := 49) hx hb hts iw_X10 hown hK.1 (va_one hM.1) 0 rfl rfl 48 (by decide) (hts _ fl_X10_140) (fun _ h9 => h9) rfl dX10_move1_101 ?_
  refine lv_iconst (v := 4) hx hb dX10_move1_104 (by decide) ?_
  refine lv_iload_n hx hb dX10_move1_105 rfl (lv_at hl 2 rfl) ?_
  refine lv_imul hx hb dX10_move1_106 ?_
  refine lv_topi (fun x_21 ex_21 => ?_)
  have fx_21 : x_21.toInt = 4 * p0.toInt := by rw [ex_21]; exact s_mulK i_4 (by omega) (by omega)
  refine lv_iload_n hx hb dX10_move1_107 rfl (lv_at hl 0 rfl) ?_
  refine lv_iadd hx hb dX10_move1_108 ?_
  refine lv_topi (fun x_22 ex_22 => ?_)
  have fx_22 : x_22.toInt = x_21.toInt + 0 := by have h9 := s_add (x := x_21) (y := 0) (by rw [i_0]; omega) (by rw [i_0]; omega); rw [i_0] at h9; rw [ex_22]; exact h9
  have ha_23 : va_at (DG E) vwCl (rf 48, .inl (E.2.2 0, 100, .inl (A 48))) _ := hM.2 48 (by decide) (by decide) (by decide)
  obtain ⟨n_24, hn_24, en_24⟩ := s_nat (x := x_22) (by omega)
  refine va_iald (D := DG E) hx hb hK.1 (va_one ha_23) 0 0 rfl rfl (show vp_in x_22 100 from vp_in_iff.mpr (by omega)) dX10_move1_109 ?_
  refine W.eq (g2 := F0 m 110 ls [.int ((A 48) n_24), .int x_20, .ref (rf 48)]) (by rw [en_24]) ?_
  have ha_25 : va_at (DG E) vwCl (rf 48, .inl (E.2.2 0, 100, .inl (A 48))) _ := hM.2 48 (by decide) (by decide) (by decide)
  obtain ⟨n_26, hn_26, en_26⟩ := s_nat (x := x_20) (by omega)
  refine rr_iast (D := DG E) hx hb hK.1 0 ha_25 hS (by show G (rf 48) ≠ 0; rw [hR.2 48 (by decide) (by decide) (by decide)]; decide) rfl (show vp_in x_20 100 from vp_in_iff.mpr (by omega)) dX10_move1_110 (fun H locs hn ho hz hS => ?_)
  rw [en_26] at hn
  obtain ⟨g_25, eg_25⟩ : ∃ z : Nat → Int32, z = upd (A 48) n_26 ((A 48) n_24) := ⟨_, rfl⟩
  have sg_25 : g_25 n_26 = ((A 48) n_24) := by rw [eg_25]; exact upd_s
  have ng_25 : ∀ k, k ≠ n_26 → g_25 k = (A 48) k := fun k hk => by rw [eg_25]; exact upd_n hk
  have hn : va_at (DG E) vwCl (rf 48, .inl (E.2.2 0, 100, .inl g_25)) H := by rw [eg_25]; exact hn
  have hM : MH E h0 rf t0 t1 t2 (uA (uA (uA (uA (uA (uA (uA (uA A 41 g_4) 42 g_7) 43 g_9) 44 g_11) 45 g_13) 46 g_15) 47 g_17) 48 g_25) cd pk H := hM.w hR 48 (by decide) (by decide) (by decide) hn ho
  refine lv_iinc (v := 1) (lv' := [(3, .int 1), (0, .ref h0), (1, .int p0), (2, .int p1)]) hx hb dX10_move1_111 hl (k := 0) rfl (by decide) (by decide) rfl (fun ls hl => ?_)
  refine lv_goto (tgt := 86) hx hb dX10_move1_114 (by decide) ?_
  refine lv_iload_n hx hb dX10_move1_86 rfl (lv_at hl 0 rfl) ?_
  refine lv_iconst (v := 4) hx hb dX10_move1_87 (by decide) ?_
  refine lv_icmp_ge (tgt := 117) hx hb dX10_move1_88 (by decide) (fun c_27 => absurd c_27 (by decide)) (fun c_27 => ?_)
  refine lv_aload_n hx hb dX10_move1_91 rfl (lv_at hl 1 rfl) ?_
  refine va_get (D := DG E) (ci := 10) (v := .ref (rf 48)) (C := RX10) (T := TX10) (N := 49) hx hb hts iw_X10 hown hK.1 (va_one hM.1) 0 rfl rfl 48 (by decide) (hts _ fl_X10_140) (fun _ h9 => h9) rfl dX10_move1_92 ?_
  refine lv_iconst (v := 4) hx hb dX10_move1_95 (by decide) ?_
  refine lv_iload_n hx hb dX10_move1_96 rfl (lv_at hl 3 rfl) ?_
  refine lv_imul hx hb dX10_move1_97 ?_
  refine lv_topi (fun x_28 ex_28 => ?_)
  have fx_28 : x_28.toInt = 4 * p1.toInt := by rw [ex_28]; exact s_mulK i_4 (by omega) (by omega)
  refine lv_iload_n hx hb dX10_move1_98 rfl (lv_at hl 0 rfl) ?_
  refine lv_iadd hx hb dX10_move1_99 ?_
  refine lv_topi (fun x_29 ex_29 => ?_)
  have fx_29 : x_29.toInt = x_28.toInt + 1 := by have h9 := s_add (x := x_28) (y := 1) (by rw [i_1]; omega) (by rw [i_1]; omega); rw [i_1] at h9; rw [ex_29]; exact h9
  refine lv_aload_n hx hb dX10_move1_100 rfl (lv_at hl 1 rfl) ?_
  refine va_get (D := DG E) (ci := 10) (v := .ref (rf 48)) (C := RX10) (T := TX10) (N := 49) hx hb hts iw_X10 hown hK.1 (va_one hM.1) 0 rfl rfl 48 (by decide) (hts _ fl_X10_140) (fun _ h9 => h9) rfl dX10_move1_101 ?_
  refine lv_iconst (v := 4) hx hb dX10_move1_104 (by decide) ?_
  refine lv_iload_n hx hb dX10_move1_105 rfl (lv_at hl 2 rfl) ?_
  refine lv_imul hx hb dX10_move1_106 ?_
  refine lv_topi (fun x_30 ex_30 => ?_)
  have fx_30 : x_30.toInt = 4 * p0.toInt := by rw [ex_30]; exact s_mulK i_4 (by omega) (by omega)
  refine lv_iload_n hx hb dX10_move1_107 rfl (lv_at hl 0 rfl) ?_
  refine lv_iadd hx hb dX10_move1_108 ?_
  refine lv_topi (fun x_31 ex_31 => ?_)
  have fx_31 : x_31.toInt = x_30.toInt + 1 := by have h9 := s_add (x := x_30) (y := 1) (by rw [i_1]; omega) (by rw [i_1]; omega); rw [i_1] at h9; rw [ex_31]; exact h9
  have ha_32 : va_at (DG E) vwCl (rf 48, .inl (E.2.2 0, 100, .inl g_25)) _ := hM.2 48 (by decide) (by decide) (by decide)
  obtain ⟨n_33, hn_33, en_33⟩ := s_nat (x := x_31) (by omega)
  refine va_iald (D := DG E) hx hb hK.1 (va_one ha_32) 0 0 rfl rfl (show vp_in x_31 100 from vp_in_iff.mpr (by omega)) dX10_move1_109 ?_
  refine W.eq (g2 := F0 m 110 ls [.int (g_25 n_33), .int x_29, .ref (rf 48)]) (by rw [en_33]) ?_
  have ha_34 : va_at (DG E) vwCl (rf 48, .inl (E.2.2 0, 100, .inl g_25)) _ := hM.2 48 (by decide) (by decide) (by decide)
  obtain ⟨n_35, hn_35, en_35⟩ := s_nat (x := x_29) (by omega)
  refine rr_iast (D := DG E) hx hb hK.1 0 ha_34 hS (by show G (rf 48) ≠ 0; rw [hR.2 48 (by decide) (by decide) (by decide)]; decide) rfl (show vp_in x_29 100 from vp_in_iff.mpr (by omega)) dX10_move1_110 (fun H locs hn ho hz hS => ?_)
  rw [en_35] at hn
  obtain ⟨g_34, eg_34⟩ : ∃ z : Nat → Int32, z = upd g_25 n_35 (g_25 n_33) := ⟨_, rfl⟩
  have sg_34 : g_34 n_35 = (g_25 n_33) := by rw [eg_34]; exact upd_s
  have ng_34 : ∀ k, k ≠ n_35 → g_34 k = g_25 k := fun k hk => by rw [eg_34]; exact upd_n hk
  have hn : va_at (DG E) vwCl (rf 48, .inl (E.2.2 0, 100, .inl g_34)) H := by rw [eg_34]; exact hn
  have hM : MH E h0 rf t0 t1 t2 (uA (uA (uA (uA (uA (uA (uA (uA (uA A 41 g_4) 42 g_7) 43 g_9) 44 g_11) 45 g_13) 46 g_15) 47 g_17) 48 g_25) 48 g_34) cd pk H := hM.w hR 48 (by decide) (by decide) (by decide) hn ho
  refine lv_iinc (v := 2) (lv' := [(3, .int 2), (0, .ref h0), (1, .int p0), (2, .int p1)]) hx hb dX10_move1_111 hl (k := 0) rfl (by decide) (by decide) rfl (fun ls hl => ?_)
  refine lv_goto (tgt := 86) hx hb dX10_move1_114 (by decide) ?_
  refine lv_iload_n hx hb dX10_move1_86 rfl (lv_at hl 0 rfl) ?_
  refine lv_iconst (v := 4) hx hb dX10_move1_87 (by decide) ?_
  refine lv_icmp_ge (tgt := 117) hx hb dX10_move1_88 (by decide) (fun c_36 => absurd c_36 (by decide)) (fun c_36 => ?_)
  refine lv_aload_n hx hb dX10_move1_91 rfl (lv_at hl 1 rfl) ?_
  refine va_get (D := DG E) (ci := 10) (v := .ref (rf 48)) (C := RX10) (T := TX10) (N := 49) hx hb hts iw_X10 hown hK.1 (va_one hM.1) 0 rfl rfl 48 (by decide) (hts _ fl_X10_140) (fun _ h9 => h9) rfl dX10_move1_92 ?_
  refine lv_iconst (v := 4) hx hb dX10_move1_95 (by decide) ?_
  refine lv_iload_n hx hb dX10_move1_96 rfl (lv_at hl 3 rfl) ?_
  refine lv_imul hx hb dX10_move1_97 ?_
  refine lv_topi (fun x_37 ex_37 => ?_)
  have fx_37 : x_37.toInt = 4 * p1.toInt := by rw [ex_37]; exact s_mulK i_4 (by omega) (by omega)
  refine lv_iload_n hx hb dX10_move1_98 rfl (lv_at hl 0 rfl) ?_
  refine lv_iadd hx hb dX10_move1_99 ?_
  refine lv_topi (fun x_38 ex_38 => ?_)
  have fx_38 : x_38.toInt = x_37.toInt + 2 := by have h9 := s_add (x := x_37) (y := 2) (by rw [i_2]; omega) (by rw [i_2]; omega); rw [i_2] at h9; rw [ex_38]; exact h9
  refine lv_aload_n hx hb dX10_move1_100 rfl (lv_at hl 1 rfl) ?_
  refine va_get (D := DG E) (ci := 10) (v := .ref (rf 48)) (C := RX10) (T := TX10) (N := 49) hx hb hts iw_X10 hown hK.1 (va_one hM.1) 0 rfl rfl 48 (by decide) (hts _ fl_X10_140) (fun _ h9 => h9) rfl dX10_move1_101 ?_
  refine lv_iconst (v := 4) hx hb dX10_move1_104 (by decide) ?_
  refine lv_iload_n hx hb dX10_move1_105 rfl (lv_at hl 2 rfl) ?_
  refine lv_imul hx hb dX10_move1_106 ?_
  refine lv_topi (fun x_39 ex_39 => ?_)
  have fx_39 : x_39.toInt = 4 * p0.toInt := by rw [ex_39]; exact s_mulK i_4 (by omega) (by omega)
  refine lv_iload_n hx hb dX10_move1_107 rfl (lv_at hl 0 rfl) ?_
  refine lv_iadd hx hb dX10_move1_108 ?_
  refine lv_topi (fun x_40 ex_40 => ?_)
  have fx_40 : x_40.toInt = x_39.toInt + 2 := by have h9 := s_add (x := x_39) (y := 2) (by rw [i_2]; omega) (by rw [i_2]; omega); rw [i_2] at h9; rw [ex_40]; exact h9
  have ha_41 : va_at (DG E) vwCl (rf 48, .inl (E.2.2 0, 100, .inl g_34)) _ := hM.2 48 (by decide) (by decide) (by decide)
  obtain ⟨n_42, hn_42, en_42⟩ := s_nat (x := x_40) (by omega)
  refine va_iald (D := DG E) hx hb hK.1 (va_one ha_41) 0 0 rfl rfl (show vp_in x_40 100 from vp_in_iff.mpr (by omega)) dX10_move1_109 ?_
  refine W.eq (g2 := F0 m 110 ls [.int (g_34 n_42), .int x_38, .ref (rf 48)]) (by rw [en_42]) ?_
  have ha_43 : va_at (DG E) vwCl (rf 48, .inl (E.2.2 0, 100, .inl g_34)) _ := hM.2 48 (by decide) (by decide) (by decide)
  obtain ⟨n_44, hn_44, en_44⟩ := s_nat (x := x_38) (by omega)
  refine rr_iast (D := DG E) hx hb hK.1 0 ha_43 hS (by show G (rf 48) ≠ 0; rw [hR.2 48 (by decide) (by decide) (by decide)]; decide) rfl (show vp_in x_38 100 from vp_in_iff.mpr (by omega)) dX10_move1_110 (fun H locs hn ho hz hS => ?_)
  rw [en_44] at hn
  obtain ⟨g_43, eg_43⟩ : ∃ z : Nat → Int32, z = upd g_34 n_44 (g_34 n_42) := ⟨_, rfl⟩
  have sg_43 : g_43 n_44 = (g_34 n_42) := by rw [eg_43]; exact upd_s
  have ng_43 : ∀ k, k ≠ n_44 → g_43 k = g_34 k := fun k hk => by rw [eg_43]; exact upd_n hk
  have hn : va_at (DG E) vwCl (rf 48, .inl (E.2.2 0, 100, .inl g_43)) H := by rw [eg_43]; exact hn
  have hM : MH E h0 rf t0 t1 t2 (uA (uA (uA (uA (uA (uA (uA (uA (uA (uA A 41 g_4) 42 g_7) 43 g_9) 44 g_11) 45 g_13) 46 g_15) 47 g_17) 48 g_25) 48 g_34) 48 g_43) cd pk H := hM.w hR 48 (by decide) (by decide) (by decide) hn ho
  refine lv_iinc (v := 3) (lv' := [(3, .int 3), (0, .ref h0), (1, .int p0), (2, .int p1)]) hx hb dX10_move1_111 hl (k := 0) rfl (by decide) (by decide) rfl (fun ls hl => ?_)
  refine lv_goto (tgt := 86) hx hb dX10_move1_114 (by decide) ?_
  refine lv_iload_n hx hb dX10_move1_86 rfl (lv_at hl 0 rfl) ?_
  refine lv_iconst (v := 4) hx hb dX10_move1_87 (by decide) ?_
  refine lv_icmp_ge (tgt := 117) hx hb dX10_move1_88 (by decide) (fun c_45 => absurd c_45 (by decide)) (fun c_45 => ?_)
  refine lv_aload_n hx hb dX10_move1_91 rfl (lv_at hl 1 rfl) ?_
  refine va_get (D := DG E) (ci := 10) (v := .ref (rf 48)) (C := RX10) (T := TX10) (N := 49) hx hb hts iw_X10 hown hK.1 (va_one hM.1) 0 rfl rfl 48 (by decide) (hts _ fl_X10_140) (fun _ h9 => h9) rfl dX10_move1_92 ?_
  refine lv_iconst (v := 4) hx hb dX10_move1_95 (by decide) ?_
  refine lv_iload_n hx hb dX10_move1_96 rfl (lv_at hl 3 rfl) ?_
  refine lv_imul hx hb dX10_move1_97 ?_
  refine lv_topi (fun x_46 ex_46 => ?_)
  have fx_46 : x_46.toInt = 4 * p1.toInt := by rw [ex_46]; exact s_mulK i_4 (by omega) (by omega)
  refine lv_iload_n hx hb dX10_move1_98 rfl (lv_at hl 0 rfl) ?_
  refine lv_iadd hx hb dX10_move1_99 ?_
  refine lv_topi (fun x_47 ex_47 => ?_)
  have fx_47 : x_47.toInt = x_46.toInt + 3 := by have h9 := s_add (x := x_46) (y := 3) (by rw [i_3]; omega) (by rw [i_3]; omega); rw [i_3] at h9; rw [ex_47]; exact h9
  refine lv_aload_n hx hb dX10_move1_100 rfl (lv_at hl 1 rfl) ?_
  refine va_get (D := DG E) (ci := 10) (v := .ref (rf 48)) (C := RX10) (T := TX10) (N := 49) hx hb hts iw_X10 hown hK.1 (va_one hM.1) 0 rfl rfl 48 (by decide) (hts _ fl_X10_140) (fun _ h9 => h9) rfl dX10_move1_101 ?_
  refine lv_iconst (v := 4) hx hb dX10_move1_104 (by decide) ?_
  refine lv_iload_n hx hb dX10_move1_105 rfl (lv_at hl 2 rfl) ?_
  refine lv_imul hx hb dX10_move1_106 ?_
  refine lv_topi (fun x_48 ex_48 => ?_)
  have fx_48 : x_48.toInt = 4 * p0.toInt := by rw [ex_48]; exact s_mulK i_4 (by omega) (by omega)
  refine lv_iload_n hx hb dX10_move1_107 rfl (lv_at hl 0 rfl) ?_
  refine lv_iadd hx hb dX10_move1_108 ?_
  refine lv_topi (fun x_49 ex_49 => ?_)
  have fx_49 : x_49.toInt = x_48.toInt + 3 := by have h9 := s_add (x := x_48) (y := 3) (by rw [i_3]; omega) (by rw [i_3]; omega); rw [i_3] at h9; rw [ex_49]; exact h9
  have ha_50 : va_at (DG E) vwCl (rf 48, .inl (E.2.2 0, 100, .inl g_43)) _ := hM.2 48 (by decide) (by decide) (by decide)
  obtain ⟨n_51, hn_51, en_51⟩ := s_nat (x := x_49) (by omega)
  refine va_iald (D := DG E) hx hb hK.1 (va_one ha_50) 0 0 rfl rfl (show vp_in x_49 100 from vp_in_iff.mpr (by omega)) dX10_move1_109 ?_
  refine W.eq (g2 := F0 m 110 ls [.int (g_43 n_51), .int x_47, .ref (rf 48)]) (by rw [en_51]) ?_
  have ha_52 : va_at (DG E) vwCl (rf 48, .inl (E.2.2 0, 100, .inl g_43)) _ := hM.2 48 (by decide) (by decide) (by decide)
  obtain ⟨n_53, hn_53, en_53⟩ := s_nat (x := x_47) (by omega)
  refine rr_iast (D := DG E) hx hb hK.1 0 ha_52 hS (by show G (rf 48) ≠ 0; rw [hR.2 48 (by decide) (by decide) (by decide)]; decide) rfl (show vp_in x_47 100 from vp_in_iff.mpr (by omega)) dX10_move1_110 (fun H locs hn ho hz hS => ?_)
  rw [en_53] at hn
  obtain ⟨g_52, eg_52⟩ : ∃ z : Nat → Int32, z = upd g_43 n_53 (g_43 n_51) := ⟨_, rfl⟩
  have sg_52 : g_52 n_53 = (g_43 n_51) := by rw [eg_52]; exact upd_s
  have ng_52 : ∀ k, k ≠ n_53 → g_52 k = g_43 k := fun k hk => by rw [eg_52]; exact upd_n hk
  have hn : va_at (DG E) vwCl (rf 48, .inl (E.2.2 0, 100, .inl g_52)) H := by rw [eg_52]; exact hn
  have hM : MH E h0 rf t0 t1 t2 (uA (uA (uA (uA (uA (uA (uA (uA (uA (uA (uA A 41 g_4) 42 g_7) 43 g_9) 44 g_11) 45 g_13) 46 g_15) 47 g_17) 48 g_25) 48 g_34) 48 g_43) 48 g_52) cd pk H := hM.w hR 48 (by decide) (by decide) (by decide) hn ho
  refine lv_iinc (v := 4) (lv' := [(3, .int 4), (0, .ref h0), (1, .int p0), (2, .int p1)]) hx hb dX10_move1_111 hl (k := 0) rfl (by decide) (by decide) rfl (fun ls hl => ?_)
  refine lv_goto (tgt := 86) hx hb dX10_move1_114 (by decide) ?_
  refine lv_iload_n hx hb dX10_move1_86 rfl (lv_at hl 0 rfl) ?_
  refine lv_iconst (v := 4) hx hb dX10_move1_87 (by decide) ?_
  refine lv_icmp_ge (tgt := 117) hx hb dX10_move1_88 (by decide) (fun c_54 => ?_) (fun c_54 => absurd c_54 (by decide))
  have hI7_55 : I7 g_4 g_7 g_11 g_13 g_15 := by
    intro n9 hn9
    have h9 : 0 ≤ ((A 41) n9).toInt ∧ ((A 41) n9).toInt ≤ 3 ∧ 0 ≤ ((A 44) n9).toInt ∧ ((A 44) n9).toInt ≤ 12 ∧ (((A 42) n9).toInt ≠ 0 ∧ ((A 42) n9).toInt ≠ 1 ∧ ((A 42) n9).toInt ≠ 4 ∨ ((A 44) n9).toInt ≤ 4) ∧ (((A 42) n9).toInt < 1 ∨ 3 < ((A 42) n9).toInt ∨ (0 ≤ ((A 45) n9).toInt ∧ ((A 45) n9).toInt ≤ 5)) ∧ -1 ≤ ((A 46) n9).toInt ∧ ((A 46) n9).toInt ≤ 60 := hI7 n9 hn9
    show 0 ≤ (g_4 n9).toInt ∧ (g_4 n9).toInt ≤ 3 ∧ 0 ≤ (g_11 n9).toInt ∧ (g_11 n9).toInt ≤ 12 ∧ ((g_7 n9).toInt ≠ 0 ∧ (g_7 n9).toInt ≠ 1 ∧ (g_7 n9).toInt ≠ 4 ∨ (g_11 n9).toInt ≤ 4) ∧ ((g_7 n9).toInt < 1 ∨ 3 < (g_7 n9).toInt ∨ (0 ≤ (g_13 n9).toInt ∧ (g_13 n9).toInt ≤ 5)) ∧ -1 ≤ (g_15 n9).toInt ∧ (g_15 n9).toInt ≤ 60
    by_cases ez_5 : n9 = n_5
    · rw [ez_5] at h9 ⊢
      rw [sg_4]
      rw [sg_7]
      rw [sg_11]
      rw [sg_13]
      rw [sg_15]
      omega
    · rw [ng_4 n9 ez_5]
      rw [ng_7 n9 ez_5]
      rw [ng_11 n9 ez_5]
      rw [ng_13 n9 ez_5]
      rw [ng_15 n9 ez_5]
      omega
  exact W.vret hx hb hr (fun t ht hW => ⟨⟨(g_4, g_7, g_9, g_11, g_13, g_15, g_17, g_52), rfl, hI7_55, (by show MH E h0 rf t0 t1 t2 (uA (uA (uA (uA (uA (uA (uA (uA A 41 g_4) 42 g_7) 43 g_9) 44 g_11) 45 g_13) 46 g_15) 47 g_17) 48 g_52) cd pk t.heap; rw [ht]; exact hM.cg (fun k => by simp only [uA]; (repeat' split) <;> first | rfl | (exfalso; omega) | (simp_all; done)))⟩, hS.F ht⟩) hS.2.2 dX10_move1_117
theorem dX10_emit_0 : decode cX10_emit 0 = .ok (.aload_n 0, 1) := by decide +kernel
theorem dX10_emit_1 : decode cX10_emit 1 = .ok (.getfield 164, 3) := by decide +kernel
theorem dX10_emit_4 : decode cX10_emit 4 = .ok (.bipush 24, 2) := by decide +kernel
theorem dX10_emit_6 : decode cX10_emit 6 = .ok (.if_icmp .ne 5, 3) := by decide +kernel
theorem dX10_emit_9 : decode cX10_emit 9 = .ok (.iconst (-1), 1) := by decide +kernel
theorem dX10_emit_10 : decode cX10_emit 10 = .ok (.ireturn, 1) := by decide +kernel
theorem dX10_emit_11 : decode cX10_emit 11 = .ok (.aload_n 0, 1) := by decide +kernel
theorem dX10_emit_12 : decode cX10_emit 12 = .ok (.getfield 164, 3) := by decide +kernel
theorem dX10_emit_15 : decode cX10_emit 15 = .ok (.istore 7, 2) := by decide +kernel
theorem dX10_emit_17 : decode cX10_emit 17 = .ok (.aload_n 0, 1) := by decide +kernel
theorem dX10_emit_18 : decode cX10_emit 18 = .ok (.dup, 1) := by decide +kernel
theorem dX10_emit_19 : decode cX10_emit 19 = .ok (.getfield 164, 3) := by decide +kernel
theorem dX10_emit_22 : decode cX10_emit 22 = .ok (.iconst 1, 1) := by decide +kernel
theorem dX10_emit_23 : decode cX10_emit 23 = .ok (.iadd, 1) := by decide +kernel
theorem dX10_emit_24 : decode cX10_emit 24 = .ok (.putfield 164, 3) := by decide +kernel
theorem dX10_emit_27 : decode cX10_emit 27 = .ok (.aload_n 0, 1) := by decide +kernel
theorem dX10_emit_28 : decode cX10_emit 28 = .ok (.getfield 119, 3) := by decide +kernel
theorem dX10_emit_31 : decode cX10_emit 31 = .ok (.iload 7, 2) := by decide +kernel
theorem dX10_emit_33 : decode cX10_emit 33 = .ok (.iload_n 1, 1) := by decide +kernel
theorem dX10_emit_34 : decode cX10_emit 34 = .ok (.invokestatic 167, 3) := by decide +kernel
theorem dX10_emit_37 : decode cX10_emit 37 = .ok (.iastore, 1) := by decide +kernel
theorem dX10_emit_38 : decode cX10_emit 38 = .ok (.aload_n 0, 1) := by decide +kernel
theorem dX10_emit_39 : decode cX10_emit 39 = .ok (.getfield 122, 3) := by decide +kernel
theorem dX10_emit_42 : decode cX10_emit 42 = .ok (.iload 7, 2) := by decide +kernel
theorem dX10_emit_44 : decode cX10_emit 44 = .ok (.iload_n 2, 1) := by decide +kernel
theorem dX10_emit_45 : decode cX10_emit 45 = .ok (.iastore, 1) := by decide +kernel
theorem dX10_emit_46 : decode cX10_emit 46 = .ok (.aload_n 0, 1) := by decide +kernel
theorem dX10_emit_47 : decode cX10_emit 47 = .ok (.getfield 125, 3) := by decide +kernel
theorem dX10_emit_50 : decode cX10_emit 50 = .ok (.iload 7, 2) := by decide +kernel
theorem dX10_emit_52 : decode cX10_emit 52 = .ok (.iload_n 3, 1) := by decide +kernel
theorem dX10_emit_53 : decode cX10_emit 53 = .ok (.iastore, 1) := by decide +kernel
theorem dX10_emit_54 : decode cX10_emit 54 = .ok (.aload_n 0, 1) := by decide +kernel
theorem dX10_emit_55 : decode cX10_emit 55 = .ok (.getfield 128, 3) := by decide +kernel
theorem dX10_emit_58 : decode cX10_emit 58 = .ok (.iload 7, 2) := by decide +kernel
theorem dX10_emit_60 : decode cX10_emit 60 = .ok (.iconst 0, 1) := by decide +kernel
theorem dX10_emit_61 : decode cX10_emit 61 = .ok (.iastore, 1) := by decide +kernel
theorem dX10_emit_62 : decode cX10_emit 62 = .ok (.aload_n 0, 1) := by decide +kernel
theorem dX10_emit_63 : decode cX10_emit 63 = .ok (.getfield 131, 3) := by decide +kernel
theorem dX10_emit_66 : decode cX10_emit 66 = .ok (.iload 7, 2) := by decide +kernel
theorem dX10_emit_68 : decode cX10_emit 68 = .ok (.iload 4, 2) := by decide +kernel
theorem dX10_emit_70 : decode cX10_emit 70 = .ok (.iastore, 1) := by decide +kernel
theorem dX10_emit_71 : decode cX10_emit 71 = .ok (.aload_n 0, 1) := by decide +kernel
theorem dX10_emit_72 : decode cX10_emit 72 = .ok (.getfield 134, 3) := by decide +kernel
theorem dX10_emit_75 : decode cX10_emit 75 = .ok (.iload 7, 2) := by decide +kernel
theorem dX10_emit_77 : decode cX10_emit 77 = .ok (.iload 5, 2) := by decide +kernel
theorem dX10_emit_79 : decode cX10_emit 79 = .ok (.iastore, 1) := by decide +kernel
theorem dX10_emit_80 : decode cX10_emit 80 = .ok (.aload_n 0, 1) := by decide +kernel
theorem dX10_emit_81 : decode cX10_emit 81 = .ok (.getfield 137, 3) := by decide +kernel
theorem dX10_emit_84 : decode cX10_emit 84 = .ok (.iload 7, 2) := by decide +kernel
theorem dX10_emit_86 : decode cX10_emit 86 = .ok (.iload 6, 2) := by decide +kernel
theorem dX10_emit_88 : decode cX10_emit 88 = .ok (.iastore, 1) := by decide +kernel
theorem dX10_emit_89 : decode cX10_emit 89 = .ok (.iload 7, 2) := by decide +kernel
theorem dX10_emit_91 : decode cX10_emit 91 = .ok (.ireturn, 1) := by decide +kernel
set_option maxHeartbeats 8000000 in
set_option maxRecDepth 100000 in
theorem u_X10_emit (l : Launch) (E : EE) (z0 : Nat) (G : Nat → Nat) (hGz : ∀ q, G q ≠ 0 → z0 ≤ q) (h0 : Nat) (rf : Nat → Nat) (hR : MG G h0 rf) (t0 t1 t2 : Int32) (A : AA) (cd pk : Int32) (p0 : Int32) (p1 : Int32) (p2 : Int32) (p3 : Int32) (p4 : Int32) (p5 : Int32) (hI7 : I7 (A 41) (A 42) (A 44) (A 45) (A 46)) (hy0 : 0 ≤ p0.toInt ∧ p0.toInt ≤ 3) (hy1 : 0 ≤ pk.toInt ∧ pk.toInt ≤ 24) (hy2 : -1 ≤ p4.toInt ∧ p4.toInt ≤ 60) (hy3 : p1.toInt < 1 ∨ 3 < p1.toInt ∨ (0 ≤ p3.toInt ∧ p3.toInt ≤ 5)) : Met l yX10_emit [Cond.code yX10_emit cX10_emit 8 (some .int)] ({ frames := 1, cells := 0, slots := 0, locals := 20 } : Room) (va_Pc [.ref h0, .int p0, .int p1, .int p2, .int p3, .int p4, .int p5] (fun U => MH E h0 rf t0 t1 t2 A cd pk U.heap ∧ KS E z0 U)) (va_Qi (fun (r : Int32) (u : (Nat → Int32) × (Nat → Int32) × (Nat → Int32) × (Nat → Int32) × (Nat → Int32) × (Nat → Int32) × (Nat → Int32) × Int32) => (I7 (u.1) (u.2.1) (u.2.2.2.1) (u.2.2.2.2.1) (u.2.2.2.2.2.1)) ∧ (0 ≤ (u.2.2.2.2.2.2.2).toInt ∧ (u.2.2.2.2.2.2.2).toInt ≤ 24) ∧ (-1 ≤ r.toInt ∧ r.toInt ≤ 23) ∧ (∀ n : Nat, (n : Int) = r.toInt → (u.2.1) n = p1) ∧ (((u.2.2.2.1) 24).toInt = ((A 44) 24).toInt ∧ ((u.2.2.2.2.2.1) 24).toInt = ((A 46) 24).toInt)) (fun u t => MH E h0 rf t0 t1 t2 (uA (uA (uA (uA (uA (uA (uA A 41 (u.1)) 42 (u.2.1)) 43 (u.2.2.1)) 44 (u.2.2.2.1)) 45 (u.2.2.2.2.1)) 46 (u.2.2.2.2.2.1)) 47 (u.2.2.2.2.2.2.1)) cd (u.2.2.2.2.2.2.2) t.heap) (fun q : Nat => G q ≠ 0)) 0 0 (fun q : Nat => G q ≠ 0) := by
  refine Met.ofW (cc := cX10_emit) (maxL := 8) (ret := (some .int)) (by decide) rfl ?_
  intro p e s m args below meth c s₁ B hml hv
  obtain ⟨rfl, hM, hK⟩ := hv
  have hx := B.exec
  have hb := B.bytes
  have hr := B.returns
  have hts : ∀ w ∈ TS, w.before ([.ref h0, .int p0, .int p1, .int p2, .int p3, .int p4, .int p5] : List Value).toArray s = true := fun w hw => hK.2.1 w hw _
  have hown : s.vm.findClass RX10 = some m.cls := findClass_of_methodNamed B.named
  have hlocks := B.notSynchronized
  have hS : va_S (fun q : Nat => G q ≠ 0) s.heap s.heap [] := va_S.rf
  have hAz : ∀ q, (fun q : Nat => G q ≠ 0) q → z0 ≤ q := hGz
  have hl := lv_entry ([.ref h0, .int p0, .int p1, .int p2, .int p3, .int p4, .int p5]) (n := 8) (Nat.le_of_ble_eq_true rfl)
  rw [lg_entry_eq]
  generalize (lg_sl ([.ref h0, .int p0, .int p1, .int p2, .int p3, .int p4, .int p5]) ++ List.replicate (8 - (lg_sl ([.ref h0, .int p0, .int p1, .int p2, .int p3, .int p4, .int p5])).length) Slot.unset).toArray = ls at hl ⊢
  have hl : lv_has ls 8 [(0, .ref h0), (1, .int p0), (2, .int p1), (3, .int p2), (4, .int p3), (5, .int p4), (6, .int p5)] := hl
  refine lv_aload_n hx hb dX10_emit_0 rfl (lv_at hl 0 rfl) ?_
  refine va_get (D := DG E) (ci := 10) (v := .int pk) (C := RX10) (T := TX10) (N := 49) hx hb hts iw_X10 hown hK.1 (va_one hM.1) 0 rfl rfl 40 (by decide) (hts _ fl_X10_164) (fun _ h9 => h9) rfl dX10_emit_1 ?_
  refine lv_bipush (v := 24) hx hb dX10_emit_4 (by decide) ?_
  refine lv_icmp_ne (tgt := 11) hx hb dX10_emit_6 (by decide) (fun c_1 => ?_) (fun c_1 => ?_)
  · simp only [lt_I, le_I, eq_I, i_0, i_1, i_2, i_3, i_4, i_5, i_6, i_7, i_8, i_10, i_12, i_16, i_20, i_23, i_24, i_31, i_32, i_63, i_64, i_m1, i_9, i_11, i_13, i_25, i_60, i_75, i_79, i_80, i_96, i_100] at c_1
    refine lv_aload_n hx hb dX10_emit_11 rfl (lv_at hl 0 rfl) ?_
    refine va_get (D := DG E) (ci := 10) (v := .int pk) (C := RX10) (T := TX10) (N := 49) hx hb hts iw_X10 hown hK.1 (va_one hM.1) 0 rfl rfl 40 (by decide) (hts _ fl_X10_164) (fun _ h9 => h9) rfl dX10_emit_12 ?_
    refine lv_istore (lv' := [(7, .int pk), (0, .ref h0), (1, .int p0), (2, .int p1), (3, .int p2), (4, .int p3), (5, .int p4), (6, .int p5)]) hx hb dX10_emit_15 hl (by decide) rfl (fun ls hl => ?_)
    refine lv_aload_n hx hb dX10_emit_17 rfl (lv_at hl 1 rfl) ?_
    refine lv_dup hx hb dX10_emit_18 rfl ?_
    refine va_get (D := DG E) (ci := 10) (v := .int pk) (C := RX10) (T := TX10) (N := 49) hx hb hts iw_X10 hown hK.1 (va_one hM.1) 0 rfl rfl 40 (by decide) (hts _ fl_X10_164) (fun _ h9 => h9) rfl dX10_emit_19 ?_
    refine lv_iconst (v := 1) hx hb dX10_emit_22 (by decide) ?_
    refine lv_iadd hx hb dX10_emit_23 ?_
    refine lv_topi (fun x_2 ex_2 => ?_)
    have fx_2 : x_2.toInt = pk.toInt + 1 := by have h9 := s_add (x := pk) (y := 1) (by rw [i_1]; omega) (by rw [i_1]; omega); rw [i_1] at h9; rw [ex_2]; exact h9
    refine rr_put (D := DG E) (ci := 10) (v := .int x_2) (ty := .int) (C := RX10) (T := TX10) (N := 49) hx hb hts iw_X10 tyX10 tyX10_ok nmX10 hown hK.1 hM.1 hS (by show G h0 ≠ 0; rw [hR.1]; decide) rfl 40 (by decide) (hts _ fl_X10_164) (fun _ h9 => h9) rfl (by decide +kernel) rfl rfl (Nat.le_of_ble_eq_true rfl) dX10_emit_24 (fun H locs hn ho hz hS => ?_)
    have hM : MH E h0 rf t0 t1 t2 A cd x_2 H := hM.sc hR hn ho
    refine lv_aload_n hx hb dX10_emit_27 rfl (lv_at hl 1 rfl) ?_
    refine va_get (D := DG E) (ci := 10) (v := .ref (rf 41)) (C := RX10) (T := TX10) (N := 49) hx hb hts iw_X10 hown hK.1 (va_one hM.1) 0 rfl rfl 41 (by decide) (hts _ fl_X10_119) (fun _ h9 => h9) rfl dX10_emit_28 ?_
    refine lv_iload hx hb dX10_emit_31 (lv_at hl 0 rfl) ?_
    refine lv_iload_n hx hb dX10_emit_33 rfl (lv_at hl 2 rfl) ?_
    refine W.callR (W.runS (As := [.int p0]) (rest := [.int pk, .ref (rf 41)]) ⟨hx, hb, hml, hown, hts⟩ (c_X10_peer l p0) (cwS 1 hts (gdS ml_X10_167 st_X10_peer in_X10 co_X10_peer rfl) rfl rfl rfl (by decide +kernel) ⟨Nat.le_of_ble_eq_true rfl, Nat.le_of_ble_eq_true rfl⟩) preEq rfl rfl hl.1 rfl (lv_room (Nat.le_of_ble_eq_true rfl)) dX10_emit_34 ⟨Nat.le_of_ble_eq_true rfl, Nat.le_of_ble_eq_true rfl⟩) ?_
    refine W.eq (g2 := F0 m 37 ls [.int (peerT p0), .int pk, .ref (rf 41)]) (by rfl) ?_
    refine lv_topi (fun x_3 ex_3 => ?_)
    have fx_3 := peerT_b (q := p0) (by omega); rw [← ex_3] at fx_3
    have ha_4 : va_at (DG E) vwCl (rf 41, .inl (E.2.2 0, 25, .inl (A 41))) _ := hM.2 41 (by decide) (by decide) (by decide)
    obtain ⟨n_5, hn_5, en_5⟩ := s_nat (x := pk) (by omega)
    refine rr_iast (D := DG E) hx hb hK.1 0 ha_4 hS (by show G (rf 41) ≠ 0; rw [hR.2 41 (by decide) (by decide) (by decide)]; decide) rfl (show vp_in pk 25 from vp_in_iff.mpr (by omega)) dX10_emit_37 (fun H locs hn ho hz hS => ?_)
    rw [en_5] at hn
    obtain ⟨g_4, eg_4⟩ : ∃ z : Nat → Int32, z = upd (A 41) n_5 x_3 := ⟨_, rfl⟩
    have sg_4 : g_4 n_5 = x_3 := by rw [eg_4]; exact upd_s
    have ng_4 : ∀ k, k ≠ n_5 → g_4 k = (A 41) k := fun k hk => by rw [eg_4]; exact upd_n hk
    have hn : va_at (DG E) vwCl (rf 41, .inl (E.2.2 0, 25, .inl g_4)) H := by rw [eg_4]; exact hn
    have hM : MH E h0 rf t0 t1 t2 (uA A 41 g_4) cd x_2 H := hM.w hR 41 (by decide) (by decide) (by decide) hn ho
    refine lv_aload_n hx hb dX10_emit_38 rfl (lv_at hl 1 rfl) ?_
    refine va_get (D := DG E) (ci := 10) (v := .ref (rf 42)) (C := RX10) (T := TX10) (N := 49) hx hb hts iw_X10 hown hK.1 (va_one hM.1) 0 rfl rfl 42 (by decide) (hts _ fl_X10_122) (fun _ h9 => h9) rfl dX10_emit_39 ?_
    refine lv_iload hx hb dX10_emit_42 (lv_at hl 0 rfl) ?_
    refine lv_iload_n hx hb dX10_emit_44 rfl (lv_at hl 3 rfl) ?_
    have ha_6 : va_at (DG E) vwCl (rf 42, .inl (E.2.2 0, 25, .inl (A 42))) _ := hM.2 42 (by decide) (by decide) (by decide)
    refine rr_iast (D := DG E) hx hb hK.1 0 ha_6 hS (by show G (rf 42) ≠ 0; rw [hR.2 42 (by decide) (by decide) (by decide)]; decide) rfl (show vp_in pk 25 from vp_in_iff.mpr (by omega)) dX10_emit_45 (fun H locs hn ho hz hS => ?_)
    rw [en_5] at hn
    obtain ⟨g_6, eg_6⟩ : ∃ z : Nat → Int32, z = upd (A 42) n_5 p1 := ⟨_, rfl⟩
    have sg_6 : g_6 n_5 = p1 := by rw [eg_6]; exact upd_s
    have ng_6 : ∀ k, k ≠ n_5 → g_6 k = (A 42) k := fun k hk => by rw [eg_6]; exact upd_n hk
    have hn : va_at (DG E) vwCl (rf 42, .inl (E.2.2 0, 25, .inl g_6)) H := by rw [eg_6]; exact hn
    have hM : MH E h0 rf t0 t1 t2 (uA (uA A 41 g_4) 42 g_6) cd x_2 H := hM.w hR 42 (by decide) (by decide) (by decide) hn ho
    refine lv_aload_n hx hb dX10_emit_46 rfl (lv_at hl 1 rfl) ?_
    refine va_get (D := DG E) (ci := 10) (v := .ref (rf 43)) (C := RX10) (T := TX10) (N := 49) hx hb hts iw_X10 hown hK.1 (va_one hM.1) 0 rfl rfl 43 (by decide) (hts _ fl_X10_125) (fun _ h9 => h9) rfl dX10_emit_47 ?_
    refine lv_iload hx hb dX10_emit_50 (lv_at hl 0 rfl) ?_
    refine lv_iload_n hx hb dX10_emit_52 rfl (lv_at hl 4 rfl) ?_
    have ha_7 : va_at (DG E) vwCl (rf 43, .inl (E.2.2 0, 25, .inl (A 43))) _ := hM.2 43 (by decide) (by decide) (by decide)
    refine rr_iast (D := DG E) hx hb hK.1 0 ha_7 hS (by show G (rf 43) ≠ 0; rw [hR.2 43 (by decide) (by decide) (by decide)]; decide) rfl (show vp_in pk 25 from vp_in_iff.mpr (by omega)) dX10_emit_53 (fun H locs hn ho hz hS => ?_)
    rw [en_5] at hn
    obtain ⟨g_7, eg_7⟩ : ∃ z : Nat → Int32, z = upd (A 43) n_5 p2 := ⟨_, rfl⟩
    have sg_7 : g_7 n_5 = p2 := by rw [eg_7]; exact upd_s
    have ng_7 : ∀ k, k ≠ n_5 → g_7 k = (A 43) k := fun k hk => by rw [eg_7]; exact upd_n hk
    have hn : va_at (DG E) vwCl (rf 43, .inl (E.2.2 0, 25, .inl g_7)) H := by rw [eg_7]; exact hn
    have hM : MH E h0 rf t0 t1 t2 (uA (uA (uA A 41 g_4) 42 g_6) 43 g_7) cd x_2 H := hM.w hR 43 (by decide) (by decide) (by decide) hn ho
    refine lv_aload_n hx hb dX10_emit_54 rfl (lv_at hl 1 rfl) ?_
    refine va_get (D := DG E) (ci := 10) (v := .ref (rf 44)) (C := RX10) (T := TX10) (N := 49) hx hb hts iw_X10 hown hK.1 (va_one hM.1) 0 rfl rfl 44 (by decide) (hts _ fl_X10_128) (fun _ h9 => h9) rfl dX10_emit_55 ?_
    refine lv_iload hx hb dX10_emit_58 (lv_at hl 0 rfl) ?_
    refine lv_iconst (v := 0) hx hb dX10_emit_60 (by decide) ?_
    have ha_8 : va_at (DG E) vwCl (rf 44, .inl (E.2.2 0, 25, .inl (A 44))) _ := hM.2 44 (by decide) (by decide) (by decide)
    refine rr_iast (D := DG E) hx hb hK.1 0 ha_8 hS (by show G (rf 44) ≠ 0; rw [hR.2 44 (by decide) (by decide) (by decide)]; decide) rfl (show vp_in pk 25 from vp_in_iff.mpr (by omega)) dX10_emit_61 (fun H locs hn ho hz hS => ?_)
    rw [en_5] at hn
    obtain ⟨g_8, eg_8⟩ : ∃ z : Nat → Int32, z = upd (A 44) n_5 0 := ⟨_, rfl⟩
    have sg_8 : g_8 n_5 = 0 := by rw [eg_8]; exact upd_s
    have ng_8 : ∀ k, k ≠ n_5 → g_8 k = (A 44) k := fun k hk => by rw [eg_8]; exact upd_n hk
    have hn : va_at (DG E) vwCl (rf 44, .inl (E.2.2 0, 25, .inl g_8)) H := by rw [eg_8]; exact hn
    have hM : MH E h0 rf t0 t1 t2 (uA (uA (uA (uA A 41 g_4) 42 g_6) 43 g_7) 44 g_8) cd x_2 H := hM.w hR 44 (by decide) (by decide) (by decide) hn ho
    refine lv_aload_n hx hb dX10_emit_62 rfl (lv_at hl 1 rfl) ?_
    refine va_get (D := DG E) (ci := 10) (v := .ref (rf 45)) (C := RX10) (T := TX10) (N := 49) hx hb hts iw_X10 hown hK.1 (va_one hM.1) 0 rfl rfl 45 (by decide) (hts _ fl_X10_131) (fun _ h9 => h9) rfl dX10_emit_63 ?_
    refine lv_iload hx hb dX10_emit_66 (lv_at hl 0 rfl) ?_
    refine lv_iload hx hb dX10_emit_68 (lv_at hl 5 rfl) ?_
    have ha_9 : va_at (DG E) vwCl (rf 45, .inl (E.2.2 0, 25, .inl (A 45))) _ := hM.2 45 (by decide) (by decide) (by decide)
    refine rr_iast (D := DG E) hx hb hK.1 0 ha_9 hS (by show G (rf 45) ≠ 0; rw [hR.2 45 (by decide) (by decide) (by decide)]; decide) rfl (show vp_in pk 25 from vp_in_iff.mpr (by omega)) dX10_emit_70 (fun H locs hn ho hz hS => ?_)
    rw [en_5] at hn
    obtain ⟨g_9, eg_9⟩ : ∃ z : Nat → Int32, z = upd (A 45) n_5 p3 := ⟨_, rfl⟩
    have sg_9 : g_9 n_5 = p3 := by rw [eg_9]; exact upd_s
    have ng_9 : ∀ k, k ≠ n_5 → g_9 k = (A 45) k := fun k hk => by rw [eg_9]; exact upd_n hk
    have hn : va_at (DG E) vwCl (rf 45, .inl (E.2.2 0, 25, .inl g_9)) H := by rw [eg_9]; exact hn
    have hM : MH E h0 rf t0 t1 t2 (uA (uA (uA (uA (uA A 41 g_4) 42 g_6) 43 g_7) 44 g_8) 45 g_9) cd x_2 H := hM.w hR 45 (by decide) (by decide) (by decide) hn ho
    refine lv_aload_n hx hb dX10_emit_71 rfl (lv_at hl 1 rfl) ?_
    refine va_get (D := DG E) (ci := 10) (v := .ref (rf 46)) (C := RX10) (T := TX10) (N := 49) hx hb hts iw_X10 hown hK.1 (va_one hM.1) 0 rfl rfl 46 (by decide) (hts _ fl_X10_134) (fun _ h9 => h9) rfl dX10_emit_72 ?_
    refine lv_iload hx hb dX10_emit_75 (lv_at hl 0 rfl) ?_
    refine lv_iload hx hb dX10_emit_77 (lv_at hl 6 rfl) ?_
    have ha_10 : va_at (DG E) vwCl (rf 46, .inl (E.2.2 0, 25, .inl (A 46))) _ := hM.2 46 (by decide) (by decide) (by decide)
    refine rr_iast (D := DG E) hx hb hK.1 0 ha_10 hS (by show G (rf 46) ≠ 0; rw [hR.2 46 (by decide) (by decide) (by decide)]; decide) rfl (show vp_in pk 25 from vp_in_iff.mpr (by omega)) dX10_emit_79 (fun H locs hn ho hz hS => ?_)
    rw [en_5] at hn
    obtain ⟨g_10, eg_10⟩ : ∃ z : Nat → Int32, z = upd (A 46) n_5 p4 := ⟨_, rfl⟩
    have sg_10 : g_10 n_5 = p4 := by rw [eg_10]; exact upd_s
    have ng_10 : ∀ k, k ≠ n_5 → g_10 k = (A 46) k := fun k hk => by rw [eg_10]; exact upd_n hk
    have hn : va_at (DG E) vwCl (rf 46, .inl (E.2.2 0, 25, .inl g_10)) H := by rw [eg_10]; exact hn
    have hM : MH E h0 rf t0 t1 t2 (uA (uA (uA (uA (uA (uA A 41 g_4) 42 g_6) 43 g_7) 44 g_8) 45 g_9) 46 g_10) cd x_2 H := hM.w hR 46 (by decide) (by decide) (by decide) hn ho
    refine lv_aload_n hx hb dX10_emit_80 rfl (lv_at hl 1 rfl) ?_
    refine va_get (D := DG E) (ci := 10) (v := .ref (rf 47)) (C := RX10) (T := TX10) (N := 49) hx hb hts iw_X10 hown hK.1 (va_one hM.1) 0 rfl rfl 47 (by decide) (hts _ fl_X10_137) (fun _ h9 => h9) rfl dX10_emit_81 ?_
    refine lv_iload hx hb dX10_emit_84 (lv_at hl 0 rfl) ?_
    refine lv_iload hx hb dX10_emit_86 (lv_at hl 7 rfl) ?_
    have ha_11 : va_at (DG E) vwCl (rf 47, .inl (E.2.2 0, 25, .inl (A 47))) _ := hM.2 47 (by decide) (by decide) (by decide)
    refine rr_iast (D := DG E) hx hb hK.1 0 ha_11 hS (by show G (rf 47) ≠ 0; rw [hR.2 47 (by decide) (by decide) (by decide)]; decide) rfl (show vp_in pk 25 from vp_in_iff.mpr (by omega)) dX10_emit_88 (fun H locs hn ho hz hS => ?_)
    rw [en_5] at hn
    obtain ⟨g_11, eg_11⟩ : ∃ z : Nat → Int32, z = upd (A 47) n_5 p5 := ⟨_, rfl⟩
    have sg_11 : g_11 n_5 = p5 := by rw [eg_11]; exact upd_s
    have ng_11 : ∀ k, k ≠ n_5 → g_11 k = (A 47) k := fun k hk => by rw [eg_11]; exact upd_n hk
    have hn : va_at (DG E) vwCl (rf 47, .inl (E.2.2 0, 25, .inl g_11)) H := by rw [eg_11]; exact hn
    have hM : MH E h0 rf t0 t1 t2 (uA (uA (uA (uA (uA (uA (uA A 41 g_4) 42 g_6) 43 g_7) 44 g_8) 45 g_9) 46 g_10) 47 g_11) cd x_2 H := hM.w hR 47 (by decide) (by decide) (by decide) hn ho
    refine lv_iload hx hb dX10_emit_89 (lv_at hl 0 rfl) ?_
    have hI7_12 : I7 g_4 g_6 g_8 g_9 g_10 := by
      intro n9 hn9
      have h9 : 0 ≤ ((A 41) n9).toInt ∧ ((A 41) n9).toInt ≤ 3 ∧ 0 ≤ ((A 44) n9).toInt ∧ ((A 44) n9).toInt ≤ 12 ∧ (((A 42) n9).toInt ≠ 0 ∧ ((A 42) n9).toInt ≠ 1 ∧ ((A 42) n9).toInt ≠ 4 ∨ ((A 44) n9).toInt ≤ 4) ∧ (((A 42) n9).toInt < 1 ∨ 3 < ((A 42) n9).toInt ∨ (0 ≤ ((A 45) n9).toInt ∧ ((A 45) n9).toInt ≤ 5)) ∧ -1 ≤ ((A 46) n9).toInt ∧ ((A 46) n9).toInt ≤ 60 := hI7 n9 hn9
      show 0 ≤ (g_4 n9).toInt ∧ (g_4 n9).toInt ≤ 3 ∧ 0 ≤ (g_8 n9).toInt ∧ (g_8 n9).toInt ≤ 12 ∧ ((g_6 n9).toInt ≠ 0 ∧ (g_6 n9).toInt ≠ 1 ∧ (g_6 n9).toInt ≠ 4 ∨ (g_8 n9).toInt ≤ 4) ∧ ((g_6 n9).toInt < 1 ∨ 3 < (g_6 n9).toInt ∨ (0 ≤ (g_9 n9).toInt ∧ (g_9 n9).toInt ≤ 5)) ∧ -1 ≤ (g_10 n9).toInt ∧ (g_10 n9).toInt ≤ 60
      by_cases ez_5 : n9 = n_5
      · rw [ez_5] at h9 ⊢
        rw [sg_4]
        rw [sg_6]
        rw [sg_8]
        rw [sg_9]
        rw [sg_10]
        have := i_0
        omega
      · rw [ng_4 n9 ez_5]
        rw [ng_6 n9 ez_5]
        rw [ng_8 n9 ez_5]
        rw [ng_9 n9 ez_5]
        rw [ng_10 n9 ez_5]
        omega
    exact W.iret (v := pk) hx hb hr (fun t ht hW => ⟨⟨pk, (g_4, g_6, g_7, g_8, g_9, g_10, g_11, x_2), rfl, ⟨hI7_12, (by show 0 ≤ x_2.toInt ∧ x_2.toInt ≤ 24; omega), (by show -1 ≤ pk.toInt ∧ pk.toInt ≤ 23; omega), (fun n hn => by obtain rfl : n = n_5 := by omega
        exact sg_6), ⟨by rw [ng_8 24 (by omega)], by rw [ng_10 24 (by omega)]⟩⟩, (by show MH E h0 rf t0 t1 t2 (uA (uA (uA (uA (uA (uA (uA A 41 g_4) 42 g_6) 43 g_7) 44 g_8) 45 g_9) 46 g_10) 47 g_11) cd x_2 t.heap; rw [ht]; exact hM)⟩, hS.F ht⟩) hS.2.2 dX10_emit_91
  · simp only [lt_I, le_I, eq_I, i_0, i_1, i_2, i_3, i_4, i_5, i_6, i_7, i_8, i_10, i_12, i_16, i_20, i_23, i_24, i_31, i_32, i_63, i_64, i_m1, i_9, i_11, i_13, i_25, i_60, i_75, i_79, i_80, i_96, i_100] at c_1
    refine lv_iconst (v := (-1)) hx hb dX10_emit_9 (by decide) ?_
    exact W.iret (v := (-1)) hx hb hr (fun t ht hW => ⟨⟨(-1), ((A 41), (A 42), (A 43), (A 44), (A 45), (A 46), (A 47), pk), rfl, ⟨hI7, (by show 0 ≤ pk.toInt ∧ pk.toInt ≤ 24; have := i_m1; omega), (by show -1 ≤ (-1 : Int32).toInt ∧ (-1 : Int32).toInt ≤ 23; have := i_m1; omega), (fun n hn => by have := i_m1; omega), ⟨rfl, rfl⟩⟩, (by show MH E h0 rf t0 t1 t2 (uA (uA (uA (uA (uA (uA (uA A 41 (A 41)) 42 (A 42)) 43 (A 43)) 44 (A 44)) 45 (A 45)) 46 (A 46)) 47 (A 47)) cd pk t.heap; rw [ht]; exact hM.cg (fun k => by simp only [uA]; (repeat' split) <;> first | rfl | (exfalso; omega) | (simp_all; done)))⟩, hS.F ht⟩) hS.2.2 dX10_emit_10
theorem dX10_load_0 : decode cX10_load 0 = .ok (.iload_n 1, 1) := by decide +kernel
theorem dX10_load_1 : decode cX10_load 1 = .ok (.ifCond .ge 4, 3) := by decide +kernel
theorem dX10_load_4 : decode cX10_load 4 = .ok (.return_, 1) := by decide +kernel
theorem dX10_load_5 : decode cX10_load 5 = .ok (.aload_n 0, 1) := by decide +kernel
theorem dX10_load_6 : decode cX10_load 6 = .ok (.getfield 128, 3) := by decide +kernel
theorem dX10_load_9 : decode cX10_load 9 = .ok (.iload_n 1, 1) := by decide +kernel
theorem dX10_load_10 : decode cX10_load 10 = .ok (.iload 4, 2) := by decide +kernel
theorem dX10_load_12 : decode cX10_load 12 = .ok (.iastore, 1) := by decide +kernel
theorem dX10_load_13 : decode cX10_load 13 = .ok (.iconst 0, 1) := by decide +kernel
theorem dX10_load_14 : decode cX10_load 14 = .ok (.istore 5, 2) := by decide +kernel
theorem dX10_load_16 : decode cX10_load 16 = .ok (.iload 5, 2) := by decide +kernel
theorem dX10_load_18 : decode cX10_load 18 = .ok (.iload 4, 2) := by decide +kernel
theorem dX10_load_20 : decode cX10_load 20 = .ok (.if_icmp .ge 37, 3) := by decide +kernel
theorem dX10_load_23 : decode cX10_load 23 = .ok (.aload_n 0, 1) := by decide +kernel
theorem dX10_load_24 : decode cX10_load 24 = .ok (.getfield 140, 3) := by decide +kernel
theorem dX10_load_27 : decode cX10_load 27 = .ok (.iconst 4, 1) := by decide +kernel
theorem dX10_load_28 : decode cX10_load 28 = .ok (.iload_n 1, 1) := by decide +kernel
theorem dX10_load_29 : decode cX10_load 29 = .ok (.imul, 1) := by decide +kernel
theorem dX10_load_30 : decode cX10_load 30 = .ok (.iload 5, 2) := by decide +kernel
theorem dX10_load_32 : decode cX10_load 32 = .ok (.iadd, 1) := by decide +kernel
theorem dX10_load_33 : decode cX10_load 33 = .ok (.aload_n 0, 1) := by decide +kernel
theorem dX10_load_34 : decode cX10_load 34 = .ok (.getfield 7, 3) := by decide +kernel
theorem dX10_load_37 : decode cX10_load 37 = .ok (.bipush 32, 2) := by decide +kernel
theorem dX10_load_39 : decode cX10_load 39 = .ok (.iload_n 2, 1) := by decide +kernel
theorem dX10_load_40 : decode cX10_load 40 = .ok (.invokestatic 160, 3) := by decide +kernel
theorem dX10_load_43 : decode cX10_load 43 = .ok (.imul, 1) := by decide +kernel
theorem dX10_load_44 : decode cX10_load 44 = .ok (.iload_n 3, 1) := by decide +kernel
theorem dX10_load_45 : decode cX10_load 45 = .ok (.iadd, 1) := by decide +kernel
theorem dX10_load_46 : decode cX10_load 46 = .ok (.iload 5, 2) := by decide +kernel
theorem dX10_load_48 : decode cX10_load 48 = .ok (.iadd, 1) := by decide +kernel
theorem dX10_load_49 : decode cX10_load 49 = .ok (.iaload, 1) := by decide +kernel
theorem dX10_load_50 : decode cX10_load 50 = .ok (.iastore, 1) := by decide +kernel
theorem dX10_load_51 : decode cX10_load 51 = .ok (.iinc 5 1, 3) := by decide +kernel
theorem dX10_load_54 : decode cX10_load 54 = .ok (.goto (-38), 3) := by decide +kernel
theorem dX10_load_57 : decode cX10_load 57 = .ok (.return_, 1) := by decide +kernel
set_option maxHeartbeats 8000000 in
set_option maxRecDepth 100000 in
theorem u_X10_load (l : Launch) (E : EE) (z0 : Nat) (G : Nat → Nat) (hGz : ∀ q, G q ≠ 0 → z0 ≤ q) (h0 : Nat) (rf : Nat → Nat) (hR : MG G h0 rf) (t0 t1 t2 : Int32) (A : AA) (cd pk : Int32) (p0 : Int32) (p1 : Int32) (p2 : Int32) (p3 : Int32) (hI7 : I7 (A 41) (A 42) (A 44) (A 45) (A 46)) (hy0 : -1 ≤ p0.toInt ∧ p0.toInt ≤ 23) (hy1 : 0 ≤ p1.toInt ∧ p1.toInt ≤ 3) (hy2 : 0 ≤ p2.toInt ∧ p2.toInt ≤ 32) (hy3 : 0 ≤ p3.toInt ∧ p3.toInt ≤ 4) (hy4 : p2.toInt + p3.toInt ≤ 32) : Met l yX10_load [Cond.code yX10_load cX10_load 6 none] ({ frames := 1, cells := 0, slots := 0, locals := 20 } : Room) (va_Pc [.ref h0, .int p0, .int p1, .int p2, .int p3] (fun U => MH E h0 rf t0 t1 t2 A cd pk U.heap ∧ KS E z0 U)) (va_Qv (fun (u : (Nat → Int32) × (Nat → Int32)) => (I7 (A 41) (A 42) (u.1) (A 45) (A 46)) ∧ (((u.1) 24).toInt = ((A 44) 24).toInt ∧ ((A 46) 24).toInt = ((A 46) 24).toInt)) (fun u t => MH E h0 rf t0 t1 t2 (uA (uA A 44 (u.1)) 48 (u.2)) cd pk t.heap) (fun q : Nat => G q ≠ 0)) 0 0 (fun q : Nat => G q ≠ 0) := by
  refine Met.ofW (cc := cX10_load) (maxL := 6) (ret := none) (by decide) rfl ?_
  intro p e s m args below meth c s₁ B hml hv
  obtain ⟨rfl, hM, hK⟩ := hv
  have hx := B.exec
  have hb := B.bytes
  have hr := B.returns
  have hts : ∀ w ∈ TS, w.before ([.ref h0, .int p0, .int p1, .int p2, .int p3] : List Value).toArray s = true := fun w hw => hK.2.1 w hw _
  have hown : s.vm.findClass RX10 = some m.cls := findClass_of_methodNamed B.named
  have hlocks := B.notSynchronized
  have hS : va_S (fun q : Nat => G q ≠ 0) s.heap s.heap [] := va_S.rf
  have hAz : ∀ q, (fun q : Nat => G q ≠ 0) q → z0 ≤ q := hGz
  have hl := lv_entry ([.ref h0, .int p0, .int p1, .int p2, .int p3]) (n := 6) (Nat.le_of_ble_eq_true rfl)
  rw [lg_entry_eq]
  generalize (lg_sl ([.ref h0, .int p0, .int p1, .int p2, .int p3]) ++ List.replicate (6 - (lg_sl ([.ref h0, .int p0, .int p1, .int p2, .int p3])).length) Slot.unset).toArray = ls at hl ⊢
  have hl : lv_has ls 6 [(0, .ref h0), (1, .int p0), (2, .int p1), (3, .int p2), (4, .int p3)] := hl
  refine lv_iload_n hx hb dX10_load_0 rfl (lv_at hl 1 rfl) ?_
  refine lv_if_ge (tgt := 5) hx hb dX10_load_1 (by decide) (fun c_1 => ?_) (fun c_1 => ?_)
  · simp only [lt_I, le_I, eq_I, i_0, i_1, i_2, i_3, i_4, i_5, i_6, i_7, i_8, i_10, i_12, i_16, i_20, i_23, i_24, i_31, i_32, i_63, i_64, i_m1, i_9, i_11, i_13, i_25, i_60, i_75, i_79, i_80, i_96, i_100] at c_1
    refine lv_aload_n hx hb dX10_load_5 rfl (lv_at hl 0 rfl) ?_
    refine va_get (D := DG E) (ci := 10) (v := .ref (rf 44)) (C := RX10) (T := TX10) (N := 49) hx hb hts iw_X10 hown hK.1 (va_one hM.1) 0 rfl rfl 44 (by decide) (hts _ fl_X10_128) (fun _ h9 => h9) rfl dX10_load_6 ?_
    refine lv_iload_n hx hb dX10_load_9 rfl (lv_at hl 1 rfl) ?_
    refine lv_iload hx hb dX10_load_10 (lv_at hl 4 rfl) ?_
    have ha_2 : va_at (DG E) vwCl (rf 44, .inl (E.2.2 0, 25, .inl (A 44))) _ := hM.2 44 (by decide) (by decide) (by decide)
    obtain ⟨n_3, hn_3, en_3⟩ := s_nat (x := p0) (by omega)
    refine rr_iast (D := DG E) hx hb hK.1 0 ha_2 hS (by show G (rf 44) ≠ 0; rw [hR.2 44 (by decide) (by decide) (by decide)]; decide) rfl (show vp_in p0 25 from vp_in_iff.mpr (by omega)) dX10_load_12 (fun H locs hn ho hz hS => ?_)
    rw [en_3] at hn
    obtain ⟨g_2, eg_2⟩ : ∃ z : Nat → Int32, z = upd (A 44) n_3 p3 := ⟨_, rfl⟩
    have sg_2 : g_2 n_3 = p3 := by rw [eg_2]; exact upd_s
    have ng_2 : ∀ k, k ≠ n_3 → g_2 k = (A 44) k := fun k hk => by rw [eg_2]; exact upd_n hk
    have hn : va_at (DG E) vwCl (rf 44, .inl (E.2.2 0, 25, .inl g_2)) H := by rw [eg_2]; exact hn
    have hM : MH E h0 rf t0 t1 t2 (uA A 44 g_2) cd pk H := hM.w hR 44 (by decide) (by decide) (by decide) hn ho
    refine lv_iconst (v := 0) hx hb dX10_load_13 (by decide) ?_
    refine lv_istore (lv' := [(5, .int 0), (0, .ref h0), (1, .int p0), (2, .int p1), (3, .int p2), (4, .int p3)]) hx hb dX10_load_14 hl (by decide) rfl (fun ls hl => ?_)
    refine lv_iload hx hb dX10_load_16 (lv_at hl 0 rfl) ?_
    refine lv_iload hx hb dX10_load_18 (lv_at hl 5 rfl) ?_
    refine lv_icmp_ge (tgt := 57) hx hb dX10_load_20 (by decide) (fun c_4 => ?_) (fun c_4 => ?_)
    · simp only [lt_I, le_I, eq_I, i_0, i_1, i_2, i_3, i_4, i_5, i_6, i_7, i_8, i_10, i_12, i_16, i_20, i_23, i_24, i_31, i_32, i_63, i_64, i_m1, i_9, i_11, i_13, i_25, i_60, i_75, i_79, i_80, i_96, i_100] at c_4
      have hI7_5 : I7 (A 41) (A 42) g_2 (A 45) (A 46) := by
        intro n9 hn9
        have h9 : 0 ≤ ((A 41) n9).toInt ∧ ((A 41) n9).toInt ≤ 3 ∧ 0 ≤ ((A 44) n9).toInt ∧ ((A 44) n9).toInt ≤ 12 ∧ (((A 42) n9).toInt ≠ 0 ∧ ((A 42) n9).toInt ≠ 1 ∧ ((A 42) n9).toInt ≠ 4 ∨ ((A 44) n9).toInt ≤ 4) ∧ (((A 42) n9).toInt < 1 ∨ 3 < ((A 42) n9).toInt ∨ (0 ≤ ((A 45) n9).toInt ∧ ((A 45) n9).toInt ≤ 5)) ∧ -1 ≤ ((A 46) n9).toInt ∧ ((A 46) n9).toInt ≤ 60 := hI7 n9 hn9
        show 0 ≤ ((A 41) n9).toInt ∧ ((A 41) n9).toInt ≤ 3 ∧ 0 ≤ (g_2 n9).toInt ∧ (g_2 n9).toInt ≤ 12 ∧ (((A 42) n9).toInt ≠ 0 ∧ ((A 42) n9).toInt ≠ 1 ∧ ((A 42) n9).toInt ≠ 4 ∨ (g_2 n9).toInt ≤ 4) ∧ (((A 42) n9).toInt < 1 ∨ 3 < ((A 42) n9).toInt ∨ (0 ≤ ((A 45) n9).toInt ∧ ((A 45) n9).toInt ≤ 5)) ∧ -1 ≤ ((A 46) n9).toInt ∧ ((A 46) n9).toInt ≤ 60
        by_cases ez_3 : n9 = n_3
        · rw [ez_3] at h9 ⊢
          rw [sg_2]
          omega
        · rw [ng_2 n9 ez_3]
          omega
      exact W.vret hx hb hr (fun t ht hW => ⟨⟨(g_2, (A 48)), rfl, ⟨hI7_5, ⟨by rw [ng_2 24 (by omega)], rfl⟩⟩, (by show MH E h0 rf t0 t1 t2 (uA (uA A 44 g_2) 48 (A 48)) cd pk t.heap; rw [ht]; exact hM.cg (fun k => by simp only [uA]; (repeat' split) <;> first | rfl | (exfalso; omega) | (simp_all; done)))⟩, hS.F ht⟩) hS.2.2 dX10_load_57
    · simp only [lt_I, le_I, eq_I, i_0, i_1, i_2, i_3, i_4, i_5, i_6, i_7, i_8, i_10, i_12, i_16, i_20, i_23, i_24, i_31, i_32, i_63, i_64, i_m1, i_9, i_11, i_13, i_25, i_60, i_75, i_79, i_80, i_96, i_100] at c_4
      refine lv_aload_n hx hb dX10_load_23 rfl (lv_at hl 1 rfl) ?_
      refine va_get (D := DG E) (ci := 10) (v := .ref (rf 48)) (C := RX10) (T := TX10) (N := 49) hx hb hts iw_X10 hown hK.1 (va_one hM.1) 0 rfl rfl 48 (by decide) (hts _ fl_X10_140) (fun _ h9 => h9) rfl dX10_load_24 ?_
      refine lv_iconst (v := 4) hx hb dX10_load_27 (by decide) ?_
      refine lv_iload_n hx hb dX10_load_28 rfl (lv_at hl 2 rfl) ?_
      refine lv_imul hx hb dX10_load_29 ?_
      refine lv_topi (fun x_6 ex_6 => ?_)
      have fx_6 : x_6.toInt = 4 * p0.toInt := by rw [ex_6]; exact s_mulK i_4 (by omega) (by omega)
      refine lv_iload hx hb dX10_load_30 (lv_at hl 0 rfl) ?_
      refine lv_iadd hx hb dX10_load_32 ?_
      refine lv_topi (fun x_7 ex_7 => ?_)
      have fx_7 : x_7.toInt = x_6.toInt + 0 := by have h9 := s_add (x := x_6) (y := 0) (by rw [i_0]; omega) (by rw [i_0]; omega); rw [i_0] at h9; rw [ex_7]; exact h9
      refine lv_aload_n hx hb dX10_load_33 rfl (lv_at hl 1 rfl) ?_
      refine va_get (D := DG E) (ci := 10) (v := .ref (rf 4)) (C := RX10) (T := TX10) (N := 49) hx hb hts iw_X10 hown hK.1 (va_one hM.1) 0 rfl rfl 4 (by decide) (hts _ fl_X10_7) (fun _ h9 => h9) rfl dX10_load_34 ?_
      refine lv_bipush (v := 32) hx hb dX10_load_37 (by decide) ?_
      refine lv_iload_n hx hb dX10_load_39 rfl (lv_at hl 3 rfl) ?_
      refine W.callR (W.runS (As := [.int p1]) (rest := [.int 32, .ref (rf 4), .int x_7, .ref (rf 48)]) ⟨hx, hb, hml, hown, hts⟩ (c_X10_nodeOf l p1) (cwS 1 hts (gdS ml_X10_160 st_X10_nodeOf in_X10 co_X10_nodeOf rfl) rfl rfl rfl (by decide +kernel) ⟨Nat.le_of_ble_eq_true rfl, Nat.le_of_ble_eq_true rfl⟩) preEq rfl rfl hl.1 rfl (lv_room (Nat.le_of_ble_eq_true rfl)) dX10_load_40 ⟨Nat.le_of_ble_eq_true rfl, Nat.le_of_ble_eq_true rfl⟩) ?_
      refine W.eq (g2 := F0 m 43 ls [.int (p1 - p1 / 2 * 2), .int 32, .ref (rf 4), .int x_7, .ref (rf 48)]) (by rfl) ?_
      refine lv_topi (fun x_8 ex_8 => ?_)
      have fx_8 : x_8.toInt = p1.toInt % 2 := by rw [ex_8]; exact s_rem (x := p1) 2 (by decide) (by decide) (by omega)
      refine lv_imul hx hb dX10_load_43 ?_
      refine lv_topi (fun x_9 ex_9 => ?_)
      have fx_9 : x_9.toInt = 32 * x_8.toInt := by rw [ex_9]; exact s_mulK i_32 (by omega) (by omega)
      refine lv_iload_n hx hb dX10_load_44 rfl (lv_at hl 4 rfl) ?_
      refine lv_iadd hx hb dX10_load_45 ?_
      refine lv_topi (fun x_10 ex_10 => ?_)
      have fx_10 : x_10.toInt = x_9.toInt + p2.toInt := by have h9 := s_add (x := x_9) (y := p2) (by omega) (by omega); rw [ex_10]; exact h9
      refine lv_iload hx hb dX10_load_46 (lv_at hl 0 rfl) ?_
      refine lv_iadd hx hb dX10_load_48 ?_
      refine lv_topi (fun x_11 ex_11 => ?_)
      have fx_11 : x_11.toInt = x_10.toInt + 0 := by have h9 := s_add (x := x_10) (y := 0) (by rw [i_0]; omega) (by rw [i_0]; omega); rw [i_0] at h9; rw [ex_11]; exact h9
      have ha_12 : va_at (DG E) vwCl (rf 4, .inl (E.2.2 0, 64, .inl (A 4))) _ := hM.2 4 (by decide) (by decide) (by decide)
      obtain ⟨n_13, hn_13, en_13⟩ := s_nat (x := x_11) (by omega)
      refine va_iald (D := DG E) hx hb hK.1 (va_one ha_12) 0 0 rfl rfl (show vp_in x_11 64 from vp_in_iff.mpr (by omega)) dX10_load_49 ?_
      refine W.eq (g2 := F0 m 50 ls [.int ((A 4) n_13), .int x_7, .ref (rf 48)]) (by rw [en_13]) ?_
      have ha_14 : va_at (DG E) vwCl (rf 48, .inl (E.2.2 0, 100, .inl (A 48))) _ := hM.2 48 (by decide) (by decide) (by decide)
      obtain ⟨n_15, hn_15, en_15⟩ := s_nat (x := x_7) (by omega)
      refine rr_iast (D := DG E) hx hb hK.1 0 ha_14 hS (by show G (rf 48) ≠ 0; rw [hR.2 48 (by decide) (by decide) (by decide)]; decide) rfl (show vp_in x_7 100 from vp_in_iff.mpr (by omega)) dX10_load_50 (fun H locs hn ho hz hS => ?_)
      rw [en_15] at hn
      obtain ⟨g_14, eg_14⟩ : ∃ z : Nat → Int32, z = upd (A 48) n_15 ((A 4) n_13) := ⟨_, rfl⟩
      have sg_14 : g_14 n_15 = ((A 4) n_13) := by rw [eg_14]; exact upd_s
      have ng_14 : ∀ k, k ≠ n_15 → g_14 k = (A 48) k := fun k hk => by rw [eg_14]; exact upd_n hk
      have hn : va_at (DG E) vwCl (rf 48, .inl (E.2.2 0, 100, .inl g_14)) H := by rw [eg_14]; exact hn
      have hM : MH E h0 rf t0 t1 t2 (uA (uA A 44 g_2) 48 g_14) cd pk H := hM.w hR 48 (by decide) (by decide) (by decide) hn ho
      refine lv_iinc (v := 1) (lv' := [(5, .int 1), (0, .ref h0), (1, .int p0), (2, .int p1), (3, .int p2), (4, .int p3)]) hx hb dX10_load_51 hl (k := 0) rfl (by decide) (by decide) rfl (fun ls hl => ?_)
      refine lv_goto (tgt := 16) hx hb dX10_load_54 (by decide) ?_
      refine lv_iload hx hb dX10_load_16 (lv_at hl 0 rfl) ?_
      refine lv_iload hx hb dX10_load_18 (lv_at hl 5 rfl) ?_
      refine lv_icmp_ge (tgt := 57) hx hb dX10_load_20 (by decide) (fun c_16 => ?_) (fun c_16 => ?_)
      · simp only [lt_I, le_I, eq_I, i_0, i_1, i_2, i_3, i_4, i_5, i_6, i_7, i_8, i_10, i_12, i_16, i_20, i_23, i_24, i_31, i_32, i_63, i_64, i_m1, i_9, i_11, i_13, i_25, i_60, i_75, i_79, i_80, i_96, i_100] at c_16
        have hI7_17 : I7 (A 41) (A 42) g_2 (A 45) (A 46) := by
          intro n9 hn9
          have h9 : 0 ≤ ((A 41) n9).toInt ∧ ((A 41) n9).toInt ≤ 3 ∧ 0 ≤ ((A 44) n9).toInt ∧ ((A 44) n9).toInt ≤ 12 ∧ (((A 42) n9).toInt ≠ 0 ∧ ((A 42) n9).toInt ≠ 1 ∧ ((A 42) n9).toInt ≠ 4 ∨ ((A 44) n9).toInt ≤ 4) ∧ (((A 42) n9).toInt < 1 ∨ 3 < ((A 42) n9).toInt ∨ (0 ≤ ((A 45) n9).toInt ∧ ((A 45) n9).toInt ≤ 5)) ∧ -1 ≤ ((A 46) n9).toInt ∧ ((A 46) n9).toInt ≤ 60 := hI7 n9 hn9
          show 0 ≤ ((A 41) n9).toInt ∧ ((A 41) n9).toInt ≤ 3 ∧ 0 ≤ (g_2 n9).toInt ∧ (g_2 n9).toInt ≤ 12 ∧ (((A 42) n9).toInt ≠ 0 ∧ ((A 42) n9).toInt ≠ 1 ∧ ((A 42) n9).toInt ≠ 4 ∨ (g_2 n9).toInt ≤ 4) ∧ (((A 42) n9).toInt < 1 ∨ 3 < ((A 42) n9).toInt ∨ (0 ≤ ((A 45) n9).toInt ∧ ((A 45) n9).toInt ≤ 5)) ∧ -1 ≤ ((A 46) n9).toInt ∧ ((A 46) n9).toInt ≤ 60
          by_cases ez_3 : n9 = n_3
          · rw [ez_3] at h9 ⊢
            rw [sg_2]
            omega
          · rw [ng_2 n9 ez_3]
            omega
        exact W.vret hx hb hr (fun t ht hW => ⟨⟨(g_2, g_14), rfl, ⟨hI7_17, ⟨by rw [ng_2 24 (by omega)], rfl⟩⟩, (by show MH E h0 rf t0 t1 t2 (uA (uA A 44 g_2) 48 g_14) cd pk t.heap; rw [ht]; exact hM)⟩, hS.F ht⟩) hS.2.2 dX10_load_57
      · simp only [lt_I, le_I, eq_I, i_0, i_1, i_2, i_3, i_4, i_5, i_6, i_7, i_8, i_10, i_12, i_16, i_20, i_23, i_24, i_31, i_32, i_63, i_64, i_m1, i_9, i_11, i_13, i_25, i_60, i_75, i_79, i_80, i_96, i_100] at c_16
        refine lv_aload_n hx hb dX10_load_23 rfl (lv_at hl 1 rfl) ?_
        refine va_get (D := DG E) (ci := 10) (v := .ref (rf 48)) (C := RX10) (T := TX10) (N := 49) hx hb hts iw_X10 hown hK.1 (va_one hM.1) 0 rfl rfl 48 (by decide) (hts _ fl_X10_140) (fun _ h9 => h9) rfl dX10_load_24 ?_
        refine lv_iconst (v := 4) hx hb dX10_load_27 (by decide) ?_
        refine lv_iload_n hx hb dX10_load_28 rfl (lv_at hl 2 rfl) ?_
        refine lv_imul hx hb dX10_load_29 ?_
        refine lv_topi (fun x_18 ex_18 => ?_)
        have fx_18 : x_18.toInt = 4 * p0.toInt := by rw [ex_18]; exact s_mulK i_4 (by omega) (by omega)
        refine lv_iload hx hb dX10_load_30 (lv_at hl 0 rfl) ?_
        refine lv_iadd hx hb dX10_load_32 ?_
        refine lv_topi (fun x_19 ex_19 => ?_)
        have fx_19 : x_19.toInt = x_18.toInt + 1 := by have h9 := s_add (x := x_18) (y := 1) (by rw [i_1]; omega) (by rw [i_1]; omega); rw [i_1] at h9; rw [ex_19]; exact h9
        refine lv_aload_n hx hb dX10_load_33 rfl (lv_at hl 1 rfl) ?_
        refine va_get (D := DG E) (ci := 10) (v := .ref (rf 4)) (C := RX10) (T := TX10) (N := 49) hx hb hts iw_X10 hown hK.1 (va_one hM.1) 0 rfl rfl 4 (by decide) (hts _ fl_X10_7) (fun _ h9 => h9) rfl dX10_load_34 ?_
        refine lv_bipush (v := 32) hx hb dX10_load_37 (by decide) ?_
        refine lv_iload_n hx hb dX10_load_39 rfl (lv_at hl 3 rfl) ?_
        refine W.callR (W.runS (As := [.int p1]) (rest := [.int 32, .ref (rf 4), .int x_19, .ref (rf 48)]) ⟨hx, hb, hml, hown, hts⟩ (c_X10_nodeOf l p1) (cwS 1 hts (gdS ml_X10_160 st_X10_nodeOf in_X10 co_X10_nodeOf rfl) rfl rfl rfl (by decide +kernel) ⟨Nat.le_of_ble_eq_true rfl, Nat.le_of_ble_eq_true rfl⟩) preEq rfl rfl hl.1 rfl (lv_room (Nat.le_of_ble_eq_true rfl)) dX10_load_40 ⟨Nat.le_of_ble_eq_true rfl, Nat.le_of_ble_eq_true rfl⟩) ?_
        refine W.eq (g2 := F0 m 43 ls [.int (p1 - p1 / 2 * 2), .int 32, .ref (rf 4), .int x_19, .ref (rf 48)]) (by rfl) ?_
        refine lv_topi (fun x_20 ex_20 => ?_)
        have fx_20 : x_20.toInt = p1.toInt % 2 := by rw [ex_20]; exact s_rem (x := p1) 2 (by decide) (by decide) (by omega)
        refine lv_imul hx hb dX10_load_43 ?_
        refine lv_topi (fun x_21 ex_21 => ?_)
        have fx_21 : x_21.toInt = 32 * x_20.toInt := by rw [ex_21]; exact s_mulK i_32 (by omega) (by omega)
        refine lv_iload_n hx hb dX10_load_44 rfl (lv_at hl 4 rfl) ?_
        refine lv_iadd hx hb dX10_load_45 ?_
        refine lv_topi (fun x_22 ex_22 => ?_)
        have fx_22 : x_22.toInt = x_21.toInt + p2.toInt := by have h9 := s_add (x := x_21) (y := p2) (by omega) (by omega); rw [ex_22]; exact h9
        refine lv_iload hx hb dX10_load_46 (lv_at hl 0 rfl) ?_
        refine lv_iadd hx hb dX10_load_48 ?_
        refine lv_topi (fun x_23 ex_23 => ?_)
        have fx_23 : x_23.toInt = x_22.toInt + 1 := by have h9 := s_add (x := x_22) (y := 1) (by rw [i_1]; omega) (by rw [i_1]; omega); rw [i_1] at h9; rw [ex_23]; exact h9
        have ha_24 : va_at (DG E) vwCl (rf 4, .inl (E.2.2 0, 64, .inl (A 4))) _ := hM.2 4 (by decide) (by decide) (by decide)
        obtain ⟨n_25, hn_25, en_25⟩ := s_nat (x := x_23) (by omega)
        refine va_iald (D := DG E) hx hb hK.1 (va_one ha_24) 0 0 rfl rfl (show vp_in x_23 64 from vp_in_iff.mpr (by omega)) dX10_load_49 ?_
        refine W.eq (g2 := F0 m 50 ls [.int ((A 4) n_25), .int x_19, .ref (rf 48)]) (by rw [en_25]) ?_
        have ha_26 : va_at (DG E) vwCl (rf 48, .inl (E.2.2 0, 100, .inl g_14)) _ := hM.2 48 (by decide) (by decide) (by decide)
        obtain ⟨n_27, hn_27, en_27⟩ := s_nat (x := x_19) (by omega)
        refine rr_iast (D := DG E) hx hb hK.1 0 ha_26 hS (by show G (rf 48) ≠ 0; rw [hR.2 48 (by decide) (by decide) (by decide)]; decide) rfl (show vp_in x_19 100 from vp_in_iff.mpr (by omega)) dX10_load_50 (fun H locs hn ho hz hS => ?_)
        rw [en_27] at hn
        obtain ⟨g_26, eg_26⟩ : ∃ z : Nat → Int32, z = upd g_14 n_27 ((A 4) n_25) := ⟨_, rfl⟩
        have sg_26 : g_26 n_27 = ((A 4) n_25) := by rw [eg_26]; exact upd_s
        have ng_26 : ∀ k, k ≠ n_27 → g_26 k = g_14 k := fun k hk => by rw [eg_26]; exact upd_n hk
        have hn : va_at (DG E) vwCl (rf 48, .inl (E.2.2 0, 100, .inl g_26)) H := by rw [eg_26]; exact hn
        have hM : MH E h0 rf t0 t1 t2 (uA (uA (uA A 44 g_2) 48 g_14) 48 g_26) cd pk H := hM.w hR 48 (by decide) (by decide) (by decide) hn ho
        refine lv_iinc (v := 2) (lv' := [(5, .int 2), (0, .ref h0), (1, .int p0), (2, .int p1), (3, .int p2), (4, .int p3)]) hx hb dX10_load_51 hl (k := 0) rfl (by decide) (by decide) rfl (fun ls hl => ?_)
        refine lv_goto (tgt := 16) hx hb dX10_load_54 (by decide) ?_
        refine lv_iload hx hb dX10_load_16 (lv_at hl 0 rfl) ?_
        refine lv_iload hx hb dX10_load_18 (lv_at hl 5 rfl) ?_
        refine lv_icmp_ge (tgt := 57) hx hb dX10_load_20 (by decide) (fun c_28 => ?_) (fun c_28 => ?_)
        · simp only [lt_I, le_I, eq_I, i_0, i_1, i_2, i_3, i_4, i_5, i_6, i_7, i_8, i_10, i_12, i_16, i_20, i_23, i_24, i_31, i_32, i_63, i_64, i_m1, i_9, i_11, i_13, i_25, i_60, i_75, i_79, i_80, i_96, i_100] at c_28
          have hI7_29 : I7 (A 41) (A 42) g_2 (A 45) (A 46) := by
            intro n9 hn9
            have h9 : 0 ≤ ((A 41) n9).toInt ∧ ((A 41) n9).toInt ≤ 3 ∧ 0 ≤ ((A 44) n9).toInt ∧ ((A 44) n9).toInt ≤ 12 ∧ (((A 42) n9).toInt ≠ 0 ∧ ((A 42) n9).toInt ≠ 1 ∧ ((A 42) n9).toInt ≠ 4 ∨ ((A 44) n9).toInt ≤ 4) ∧ (((A 42) n9).toInt < 1 ∨ 3 < ((A 42) n9).toInt ∨ (0 ≤ ((A 45) n9).toInt ∧ ((A 45) n9).toInt ≤ 5)) ∧ -1 ≤ ((A 46) n9).toInt ∧ ((A 46) n9).toInt ≤ 60 := hI7 n9 hn9
            show 0 ≤ ((A 41) n9).toInt ∧ ((A 41) n9).toInt ≤ 3 ∧ 0 ≤ (g_2 n9).toInt ∧ (g_2 n9).toInt ≤ 12 ∧ (((A 42) n9).toInt ≠ 0 ∧ ((A 42) n9).toInt ≠ 1 ∧ ((A 42) n9).toInt ≠ 4 ∨ (g_2 n9).toInt ≤ 4) ∧ (((A 42) n9).toInt < 1 ∨ 3 < ((A 42) n9).toInt ∨ (0 ≤ ((A 45) n9).toInt ∧ ((A 45) n9).toInt ≤ 5)) ∧ -1 ≤ ((A 46) n9).toInt ∧ ((A 46) n9).toInt ≤ 60
            by_cases ez_3 : n9 = n_3
            · rw [ez_3] at h9 ⊢
              rw [sg_2]
              omega
            · rw [ng_2 n9 ez_3]
              omega
          exact W.vret hx hb hr (fun t ht hW => ⟨⟨(g_2, g_26), rfl, ⟨hI7_29, ⟨by rw [ng_2 24 (by omega)], rfl⟩⟩, (by show MH E h0 rf t0 t1 t2 (uA (uA A 44 g_2) 48 g_26) cd pk t.heap; rw [ht]; exact hM.cg (fun k => by simp only [uA]; (repeat' split) <;> first | rfl | (exfalso; omega) | (simp_all; done)))⟩, hS.F ht⟩) hS.2.2 dX10_load_57
        · simp only [lt_I, le_I, eq_I, i_0, i_1, i_2, i_3, i_4, i_5, i_6, i_7, i_8, i_10, i_12, i_16, i_20, i_23, i_24, i_31, i_32, i_63, i_64, i_m1, i_9, i_11, i_13, i_25, i_60, i_75, i_79, i_80, i_96, i_100] at c_28
          refine lv_aload_n hx hb dX10_load_23 rfl (lv_at hl 1 rfl) ?_
          refine va_get (D := DG E) (ci := 10) (v := .ref (rf 48)) (C := RX10) (T := TX10) (N := 49) hx hb hts iw_X10 hown hK.1 (va_one hM.1) 0 rfl rfl 48 (by decide) (hts _ fl_X10_140) (fun _ h9 => h9) rfl dX10_load_24 ?_
          refine lv_iconst (v := 4) hx hb dX10_load_27 (by decide) ?_
          refine lv_iload_n hx hb dX10_load_28 rfl (lv_at hl 2 rfl) ?_
          refine lv_imul hx hb dX10_load_29 ?_
          refine lv_topi (fun x_30 ex_30 => ?_)
          have fx_30 : x_30.toInt = 4 * p0.toInt := by rw [ex_30]; exact s_mulK i_4 (by omega) (by omega)
          refine lv_iload hx hb dX10_load_30 (lv_at hl 0 rfl) ?_
          refine lv_iadd hx hb dX10_load_32 ?_
          refine lv_topi (fun x_31 ex_31 => ?_)
          have fx_31 : x_31.toInt = x_30.toInt + 2 := by have h9 := s_add (x := x_30) (y := 2) (by rw [i_2]; omega) (by rw [i_2]; omega); rw [i_2] at h9; rw [ex_31]; exact h9
          refine lv_aload_n hx hb dX10_load_33 rfl (lv_at hl 1 rfl) ?_
          refine va_get (D := DG E) (ci := 10) (v := .ref (rf 4)) (C := RX10) (T := TX10) (N := 49) hx hb hts iw_X10 hown hK.1 (va_one hM.1) 0 rfl rfl 4 (by decide) (hts _ fl_X10_7) (fun _ h9 => h9) rfl dX10_load_34 ?_
          refine lv_bipush (v := 32) hx hb dX10_load_37 (by decide) ?_
          refine lv_iload_n hx hb dX10_load_39 rfl (lv_at hl 3 rfl) ?_
          refine W.callR (W.runS (As := [.int p1]) (rest := [.int 32, .ref (rf 4), .int x_31, .ref (rf 48)]) ⟨hx, hb, hml, hown, hts⟩ (c_X10_nodeOf l p1) (cwS 1 hts (gdS ml_X10_160 st_X10_nodeOf in_X10 co_X10_nodeOf rfl) rfl rfl rfl (by decide +kernel) ⟨Nat.le_of_ble_eq_true rfl, Nat.le_of_ble_eq_true rfl⟩) preEq rfl rfl hl.1 rfl (lv_room (Nat.le_of_ble_eq_true rfl)) dX10_load_40 ⟨Nat.le_of_ble_eq_true rfl, Nat.le_of_ble_eq_true rfl⟩) ?_
          refine W.eq (g2 := F0 m 43 ls [.int (p1 - p1 / 2 * 2), .int 32, .ref (rf 4), .int x_31, .ref (rf 48)]) (by rfl) ?_
          refine lv_topi (fun x_32 ex_32 => ?_)
          have fx_32 : x_32.toInt = p1.toInt % 2 := by rw [ex_32]; exact s_rem (x := p1) 2 (by decide) (by decide) (by omega)
          refine lv_imul hx hb dX10_load_43 ?_
          refine lv_topi (fun x_33 ex_33 => ?_)
          have fx_33 : x_33.toInt = 32 * x_32.toInt := by rw [ex_33]; exact s_mulK i_32 (by omega) (by omega)
          refine lv_iload_n hx hb dX10_load_44 rfl (lv_at hl 4 rfl) ?_
          refine lv_iadd hx hb dX10_load_45 ?_
          refine lv_topi (fun x_34 ex_34 => ?_)
          have fx_34 : x_34.toInt = x_33.toInt + p2.toInt := by have h9 := s_add (x := x_33) (y := p2) (by omega) (by omega); rw [ex_34]; exact h9
          refine lv_iload hx hb dX10_load_46 (lv_at hl 0 rfl) ?_
          refine lv_iadd hx hb dX10_load_48 ?_
          refine lv_topi (fun x_35 ex_35 => ?_)
          have fx_35 : x_35.toInt = x_34.toInt + 2 := by have h9 := s_add (x := x_34) (y := 2) (by rw [i_2]; omega) (by rw [i_2]; omega); rw [i_2] at h9; rw [ex_35]; exact h9
          have ha_36 : va_at (DG E) vwCl (rf 4, .inl (E.2.2 0, 64, .inl (A 4))) _ := hM.2 4 (by decide) (by decide) (by decide)
          obtain ⟨n_37, hn_37, en_37⟩ := s_nat (x := x_35) (by omega)
          refine va_iald (D := DG E) hx hb hK.1 (va_one ha_36) 0 0 rfl rfl (show vp_in x_35 64 from vp_in_iff.mpr (by omega)) dX10_load_49 ?_
          refine W.eq (g2 := F0 m 50 ls [.int ((A 4) n_37), .int x_31, .ref (rf 48)]) (by rw [en_37]) ?_
          have ha_38 : va_at (DG E) vwCl (rf 48, .inl (E.2.2 0, 100, .inl g_26)) _ := hM.2 48 (by decide) (by decide) (by decide)
          obtain ⟨n_39, hn_39, en_39⟩ := s_nat (x := x_31) (by omega)
          refine rr_iast (D := DG E) hx hb hK.1 0 ha_38 hS (by show G (rf 48) ≠ 0; rw [hR.2 48 (by decide) (by decide) (by decide)]; decide) rfl (show vp_in x_31 100 from vp_in_iff.mpr (by omega)) dX10_load_50 (fun H locs hn ho hz hS => ?_)
          rw [en_39] at hn
          obtain ⟨g_38, eg_38⟩ : ∃ z : Nat → Int32, z = upd g_26 n_39 ((A 4) n_37) := ⟨_, rfl⟩
          have sg_38 : g_38 n_39 = ((A 4) n_37) := by rw [eg_38]; exact upd_s
          have ng_38 : ∀ k, k ≠ n_39 → g_38 k = g_26 k := fun k hk => by rw [eg_38]; exact upd_n hk
          have hn : va_at (DG E) vwCl (rf 48, .inl (E.2.2 0, 100, .inl g_38)) H := by rw [eg_38]; exact hn
          have hM : MH E h0 rf t0 t1 t2 (uA (uA (uA (uA A 44 g_2) 48 g_14) 48 g_26) 48 g_38) cd pk H := hM.w hR 48 (by decide) (by decide) (by decide) hn ho
          refine lv_iinc (v := 3) (lv' := [(5, .int 3), (0, .ref h0), (1, .int p0), (2, .int p1), (3, .int p2), (4, .int p3)]) hx hb dX10_load_51 hl (k := 0) rfl (by decide) (by decide) rfl (fun ls hl => ?_)
          refine lv_goto (tgt := 16) hx hb dX10_load_54 (by decide) ?_
          refine lv_iload hx hb dX10_load_16 (lv_at hl 0 rfl) ?_
          refine lv_iload hx hb dX10_load_18 (lv_at hl 5 rfl) ?_
          refine lv_icmp_ge (tgt := 57) hx hb dX10_load_20 (by decide) (fun c_40 => ?_) (fun c_40 => ?_)
          · simp only [lt_I, le_I, eq_I, i_0, i_1, i_2, i_3, i_4, i_5, i_6, i_7, i_8, i_10, i_12, i_16, i_20, i_23, i_24, i_31, i_32, i_63, i_64, i_m1, i_9, i_11, i_13, i_25, i_60, i_75, i_79, i_80, i_96, i_100] at c_40
            have hI7_41 : I7 (A 41) (A 42) g_2 (A 45) (A 46) := by
              intro n9 hn9
              have h9 : 0 ≤ ((A 41) n9).toInt ∧ ((A 41) n9).toInt ≤ 3 ∧ 0 ≤ ((A 44) n9).toInt ∧ ((A 44) n9).toInt ≤ 12 ∧ (((A 42) n9).toInt ≠ 0 ∧ ((A 42) n9).toInt ≠ 1 ∧ ((A 42) n9).toInt ≠ 4 ∨ ((A 44) n9).toInt ≤ 4) ∧ (((A 42) n9).toInt < 1 ∨ 3 < ((A 42) n9).toInt ∨ (0 ≤ ((A 45) n9).toInt ∧ ((A 45) n9).toInt ≤ 5)) ∧ -1 ≤ ((A 46) n9).toInt ∧ ((A 46) n9).toInt ≤ 60 := hI7 n9 hn9
              show 0 ≤ ((A 41) n9).toInt ∧ ((A 41) n9).toInt ≤ 3 ∧ 0 ≤ (g_2 n9).toInt ∧ (g_2 n9).toInt ≤ 12 ∧ (((A 42) n9).toInt ≠ 0 ∧ ((A 42) n9).toInt ≠ 1 ∧ ((A 42) n9).toInt ≠ 4 ∨ (g_2 n9).toInt ≤ 4) ∧ (((A 42) n9).toInt < 1 ∨ 3 < ((A 42) n9).toInt ∨ (0 ≤ ((A 45) n9).toInt ∧ ((A 45) n9).toInt ≤ 5)) ∧ -1 ≤ ((A 46) n9).toInt ∧ ((A 46) n9).toInt ≤ 60
              by_cases ez_3 : n9 = n_3
              · rw [ez_3] at h9 ⊢
                rw [sg_2]
                omega
              · rw [ng_2 n9 ez_3]
                omega
            exact W.vret hx hb hr (fun t ht hW => ⟨⟨(g_2, g_38), rfl, ⟨hI7_41, ⟨by rw [ng_2 24 (by omega)], rfl⟩⟩, (by show MH E h0 rf t0 t1 t2 (uA (uA A 44 g_2) 48 g_38) cd pk t.heap; rw [ht]; exact hM.cg (fun k => by simp only [uA]; (repeat' split) <;> first | rfl | (exfalso; omega) | (simp_all; done)))⟩, hS.F ht⟩) hS.2.2 dX10_load_57
          · simp only [lt_I, le_I, eq_I, i_0, i_1, i_2, i_3, i_4, i_5, i_6, i_7, i_8, i_10, i_12, i_16, i_20, i_23, i_24, i_31, i_32, i_63, i_64, i_m1, i_9, i_11, i_13, i_25, i_60, i_75, i_79, i_80, i_96, i_100] at c_40
            refine lv_aload_n hx hb dX10_load_23 rfl (lv_at hl 1 rfl) ?_
            refine va_get (D := DG E) (ci := 10) (v := .ref (rf 48)) (C := RX10) (T := TX10) (N := 49) hx hb hts iw_X10 hown hK.1 (va_one hM.1) 0 rfl rfl 48 (by decide) (hts _ fl_X10_140) (fun _ h9 => h9) rfl dX10_load_24 ?_
            refine lv_iconst (v := 4) hx hb dX10_load_27 (by decide) ?_
            refine lv_iload_n hx hb dX10_load_28 rfl (lv_at hl 2 rfl) ?_
            refine lv_imul hx hb dX10_load_29 ?_
            refine lv_topi (fun x_42 ex_42 => ?_)
            have fx_42 : x_42.toInt = 4 * p0.toInt := by rw [ex_42]; exact s_mulK i_4 (by omega) (by omega)
            refine lv_iload hx hb dX10_load_30 (lv_at hl 0 rfl) ?_
            refine lv_iadd hx hb dX10_load_32 ?_
            refine lv_topi (fun x_43 ex_43 => ?_)
            have fx_43 : x_43.toInt = x_42.toInt + 3 := by have h9 := s_add (x := x_42) (y := 3) (by rw [i_3]; omega) (by rw [i_3]; omega); rw [i_3] at h9; rw [ex_43]; exact h9
            refine lv_aload_n hx hb dX10_load_33 rfl (lv_at hl 1 rfl) ?_
            refine va_get (D := DG E) (ci := 10) (v := .ref (rf 4)) (C := RX10) (T := TX10) (N := 49) hx hb hts iw_X10 hown hK.1 (va_one hM.1) 0 rfl rfl 4 (by decide) (hts _ fl_X10_7) (fun _ h9 => h9) rfl dX10_load_34 ?_
            refine lv_bipush (v := 32) hx hb dX10_load_37 (by decide) ?_
            refine lv_iload_n hx hb dX10_load_39 rfl (lv_at hl 3 rfl) ?_
            refine W.callR (W.runS (As := [.int p1]) (rest := [.int 32, .ref (rf 4), .int x_43, .ref (rf 48)]) ⟨hx, hb, hml, hown, hts⟩ (c_X10_nodeOf l p1) (cwS 1 hts (gdS ml_X10_160 st_X10_nodeOf in_X10 co_X10_nodeOf rfl) rfl rfl rfl (by decide +kernel) ⟨Nat.le_of_ble_eq_true rfl, Nat.le_of_ble_eq_true rfl⟩) preEq rfl rfl hl.1 rfl (lv_room (Nat.le_of_ble_eq_true rfl)) dX10_load_40 ⟨Nat.le_of_ble_eq_true rfl, Nat.le_of_ble_eq_true rfl⟩) ?_
            refine W.eq (g2 := F0 m 43 ls [.int (p1 - p1 / 2 * 2), .int 32, .ref (rf 4), .int x_43, .ref (rf 48)]) (by rfl) ?_
            refine lv_topi (fun x_44 ex_44 => ?_)
            have fx_44 : x_44.toInt = p1.toInt % 2 := by rw [ex_44]; exact s_rem (x := p1) 2 (by decide) (by decide) (by omega)
            refine lv_imul hx hb dX10_load_43 ?_
            refine lv_topi (fun x_45 ex_45 => ?_)
            have fx_45 : x_45.toInt = 32 * x_44.toInt := by rw [ex_45]; exact s_mulK i_32 (by omega) (by omega)
            refine lv_iload_n hx hb dX10_load_44 rfl (lv_at hl 4 rfl) ?_
            refine lv_iadd hx hb dX10_load_45 ?_
            refine lv_topi (fun x_46 ex_46 => ?_)
            have fx_46 : x_46.toInt = x_45.toInt + p2.toInt := by have h9 := s_add (x := x_45) (y := p2) (by omega) (by omega); rw [ex_46]; exact h9
            refine lv_iload hx hb dX10_load_46 (lv_at hl 0 rfl) ?_
            refine lv_iadd hx hb dX10_load_48 ?_
            refine lv_topi (fun x_47 ex_47 => ?_)
            have fx_47 : x_47.toInt = x_46.toInt + 3 := by have h9 := s_add (x := x_46) (y := 3) (by rw [i_3]; omega) (by rw [i_3]; omega); rw [i_3] at h9; rw [ex_47]; exact h9
            have ha_48 : va_at (DG E) vwCl (rf 4, .inl (E.2.2 0, 64, .inl (A 4))) _ := hM.2 4 (by decide) (by decide) (by decide)
            obtain ⟨n_49, hn_49, en_49⟩ := s_nat (x := x_47) (by omega)
            refine va_iald (D := DG E) hx hb hK.1 (va_one ha_48) 0 0 rfl rfl (show vp_in x_47 64 from vp_in_iff.mpr (by omega)) dX10_load_49 ?_
            refine W.eq (g2 := F0 m 50 ls [.int ((A 4) n_49), .int x_43, .ref (rf 48)]) (by rw [en_49]) ?_
            have ha_50 : va_at (DG E) vwCl (rf 48, .inl (E.2.2 0, 100, .inl g_38)) _ := hM.2 48 (by decide) (by decide) (by decide)
            obtain ⟨n_51, hn_51, en_51⟩ := s_nat (x := x_43) (by omega)
            refine rr_iast (D := DG E) hx hb hK.1 0 ha_50 hS (by show G (rf 48) ≠ 0; rw [hR.2 48 (by decide) (by decide) (by decide)]; decide) rfl (show vp_in x_43 100 from vp_in_iff.mpr (by omega)) dX10_load_50 (fun H locs hn ho hz hS => ?_)
            rw [en_51] at hn
            obtain ⟨g_50, eg_50⟩ : ∃ z : Nat → Int32, z = upd g_38 n_51 ((A 4) n_49) := ⟨_, rfl⟩
            have sg_50 : g_50 n_51 = ((A 4) n_49) := by rw [eg_50]; exact upd_s
            have ng_50 : ∀ k, k ≠ n_51 → g_50 k = g_38 k := fun k hk => by rw [eg_50]; exact upd_n hk
            have hn : va_at (DG E) vwCl (rf 48, .inl (E.2.2 0, 100, .inl g_50)) H := by rw [eg_50]; exact hn
            have hM : MH E h0 rf t0 t1 t2 (uA (uA (uA (uA (uA A 44 g_2) 48 g_14) 48 g_26) 48 g_38) 48 g_50) cd pk H := hM.w hR 48 (by decide) (by decide) (by decide) hn ho
            refine lv_iinc (v := 4) (lv' := [(5, .int 4), (0, .ref h0), (1, .int p0), (2, .int p1), (3, .int p2), (4, .int p3)]) hx hb dX10_load_51 hl (k := 0) rfl (by decide) (by decide) rfl (fun ls hl => ?_)
            refine lv_goto (tgt := 16) hx hb dX10_load_54 (by decide) ?_
            refine lv_iload hx hb dX10_load_16 (lv_at hl 0 rfl) ?_
            refine lv_iload hx hb dX10_load_18 (lv_at hl 5 rfl) ?_
            refine lv_icmp_ge (tgt := 57) hx hb dX10_load_20 (by decide) (fun c_52 => ?_) (fun c_52 => by exfalso; simp only [lt_I, le_I, eq_I, i_0, i_1, i_2, i_3, i_4, i_5, i_6, i_7, i_8, i_10, i_12, i_16, i_20, i_23, i_24, i_31, i_32, i_63, i_64, i_m1, i_9, i_11, i_13, i_25, i_60, i_75, i_79, i_80, i_96, i_100] at c_52; omega)
            simp only [lt_I, le_I, eq_I, i_0, i_1, i_2, i_3, i_4, i_5, i_6, i_7, i_8, i_10, i_12, i_16, i_20, i_23, i_24, i_31, i_32, i_63, i_64, i_m1, i_9, i_11, i_13, i_25, i_60, i_75, i_79, i_80, i_96, i_100] at c_52
            have hI7_53 : I7 (A 41) (A 42) g_2 (A 45) (A 46) := by
              intro n9 hn9
              have h9 : 0 ≤ ((A 41) n9).toInt ∧ ((A 41) n9).toInt ≤ 3 ∧ 0 ≤ ((A 44) n9).toInt ∧ ((A 44) n9).toInt ≤ 12 ∧ (((A 42) n9).toInt ≠ 0 ∧ ((A 42) n9).toInt ≠ 1 ∧ ((A 42) n9).toInt ≠ 4 ∨ ((A 44) n9).toInt ≤ 4) ∧ (((A 42) n9).toInt < 1 ∨ 3 < ((A 42) n9).toInt ∨ (0 ≤ ((A 45) n9).toInt ∧ ((A 45) n9).toInt ≤ 5)) ∧ -1 ≤ ((A 46) n9).toInt ∧ ((A 46) n9).toInt ≤ 60 := hI7 n9 hn9
              show 0 ≤ ((A 41) n9).toInt ∧ ((A 41) n9).toInt ≤ 3 ∧ 0 ≤ (g_2 n9).toInt ∧ (g_2 n9).toInt ≤ 12 ∧ (((A 42) n9).toInt ≠ 0 ∧ ((A 42) n9).toInt ≠ 1 ∧ ((A 42) n9).toInt ≠ 4 ∨ (g_2 n9).toInt ≤ 4) ∧ (((A 42) n9).toInt < 1 ∨ 3 < ((A 42) n9).toInt ∨ (0 ≤ ((A 45) n9).toInt ∧ ((A 45) n9).toInt ≤ 5)) ∧ -1 ≤ ((A 46) n9).toInt ∧ ((A 46) n9).toInt ≤ 60
              by_cases ez_3 : n9 = n_3
              · rw [ez_3] at h9 ⊢
                rw [sg_2]
                omega
              · rw [ng_2 n9 ez_3]
                omega
            exact W.vret hx hb hr (fun t ht hW => ⟨⟨(g_2, g_50), rfl, ⟨hI7_53, ⟨by rw [ng_2 24 (by omega)], rfl⟩⟩, (by show MH E h0 rf t0 t1 t2 (uA (uA A 44 g_2) 48 g_50) cd pk t.heap; rw [ht]; exact hM.cg (fun k => by simp only [uA]; (repeat' split) <;> first | rfl | (exfalso; omega) | (simp_all; done)))⟩, hS.F ht⟩) hS.2.2 dX10_load_57
  · simp only [lt_I, le_I, eq_I, i_0, i_1, i_2, i_3, i_4, i_5, i_6, i_7, i_8, i_10, i_12, i_16, i_20, i_23, i_24, i_31, i_32, i_63, i_64, i_m1, i_9, i_11, i_13, i_25, i_60, i_75, i_79, i_80, i_96, i_100] at c_1
    exact W.vret hx hb hr (fun t ht hW => ⟨⟨((A 44), (A 48)), rfl, ⟨hI7, ⟨rfl, rfl⟩⟩, (by show MH E h0 rf t0 t1 t2 (uA (uA A 44 (A 44)) 48 (A 48)) cd pk t.heap; rw [ht]; exact hM.cg (fun k => by simp only [uA]; (repeat' split) <;> first | rfl | (exfalso; omega) | (simp_all; done)))⟩, hS.F ht⟩) hS.2.2 dX10_load_4
theorem dX10_takeCells_0 : decode cX10_takeCells 0 = .ok (.iconst 0, 1) := by decide +kernel
theorem dX10_takeCells_1 : decode cX10_takeCells 1 = .ok (.istore_n 3, 1) := by decide +kernel
theorem dX10_takeCells_2 : decode cX10_takeCells 2 = .ok (.iload_n 3, 1) := by decide +kernel
theorem dX10_takeCells_3 : decode cX10_takeCells 3 = .ok (.iload_n 2, 1) := by decide +kernel
theorem dX10_takeCells_4 : decode cX10_takeCells 4 = .ok (.if_icmp .ge 26, 3) := by decide +kernel
theorem dX10_takeCells_7 : decode cX10_takeCells 7 = .ok (.aload_n 0, 1) := by decide +kernel
theorem dX10_takeCells_8 : decode cX10_takeCells 8 = .ok (.getfield 7, 3) := by decide +kernel
theorem dX10_takeCells_11 : decode cX10_takeCells 11 = .ok (.iload_n 1, 1) := by decide +kernel
theorem dX10_takeCells_12 : decode cX10_takeCells 12 = .ok (.iload_n 3, 1) := by decide +kernel
theorem dX10_takeCells_13 : decode cX10_takeCells 13 = .ok (.iadd, 1) := by decide +kernel
theorem dX10_takeCells_14 : decode cX10_takeCells 14 = .ok (.aload_n 0, 1) := by decide +kernel
theorem dX10_takeCells_15 : decode cX10_takeCells 15 = .ok (.getfield 140, 3) := by decide +kernel
theorem dX10_takeCells_18 : decode cX10_takeCells 18 = .ok (.bipush 96, 2) := by decide +kernel
theorem dX10_takeCells_20 : decode cX10_takeCells 20 = .ok (.iload_n 3, 1) := by decide +kernel
theorem dX10_takeCells_21 : decode cX10_takeCells 21 = .ok (.iadd, 1) := by decide +kernel
theorem dX10_takeCells_22 : decode cX10_takeCells 22 = .ok (.iaload, 1) := by decide +kernel
theorem dX10_takeCells_23 : decode cX10_takeCells 23 = .ok (.iastore, 1) := by decide +kernel
theorem dX10_takeCells_24 : decode cX10_takeCells 24 = .ok (.iinc 3 1, 3) := by decide +kernel
theorem dX10_takeCells_27 : decode cX10_takeCells 27 = .ok (.goto (-25), 3) := by decide +kernel
theorem dX10_takeCells_30 : decode cX10_takeCells 30 = .ok (.return_, 1) := by decide +kernel
set_option maxHeartbeats 8000000 in
set_option maxRecDepth 100000 in
theorem u_X10_takeCells (l : Launch) (E : EE) (z0 : Nat) (G : Nat → Nat) (hGz : ∀ q, G q ≠ 0 → z0 ≤ q) (h0 : Nat) (rf : Nat → Nat) (hR : MG G h0 rf) (t0 t1 t2 : Int32) (A : AA) (cd pk : Int32) (p0 : Int32) (p1 : Int32) (hy0 : 0 ≤ p0.toInt ∧ p0.toInt ≤ 64) (hy1 : 0 ≤ p1.toInt ∧ p1.toInt ≤ 4) (hy2 : p0.toInt + p1.toInt ≤ 64) : Met l yX10_takeCells [Cond.code yX10_takeCells cX10_takeCells 4 none] ({ frames := 0, cells := 0, slots := 0, locals := 0 } : Room) (va_Pc [.ref h0, .int p0, .int p1] (fun U => MH E h0 rf t0 t1 t2 A cd pk U.heap ∧ KS E z0 U)) (va_Qv (fun (u : (Nat → Int32)) => True) (fun u t => MH E h0 rf t0 t1 t2 (uA A 4 (u)) cd pk t.heap) (fun q : Nat => G q ≠ 0)) 0 0 (fun q : Nat => G q ≠ 0) := by
  refine Met.ofW (cc := cX10_takeCells) (maxL := 4) (ret := none) (by decide) rfl ?_
  intro p e s m args below meth c s₁ B hml hv
  obtain ⟨rfl, hM, hK⟩ := hv
  have hx := B.exec
  have hb := B.bytes
  have hr := B.returns
  have hts : ∀ w ∈ TS, w.before ([.ref h0, .int p0, .int p1] : List Value).toArray s = true := fun w hw => hK.2.1 w hw _
  have hown : s.vm.findClass RX10 = some m.cls := findClass_of_methodNamed B.named
  have hlocks := B.notSynchronized
  have hS : va_S (fun q : Nat => G q ≠ 0) s.heap s.heap [] := va_S.rf
  have hAz : ∀ q, (fun q : Nat => G q ≠ 0) q → z0 ≤ q := hGz
  have hl := lv_entry ([.ref h0, .int p0, .int p1]) (n := 4) (Nat.le_of_ble_eq_true rfl)
  rw [lg_entry_eq]
  generalize (lg_sl ([.ref h0, .int p0, .int p1]) ++ List.replicate (4 - (lg_sl ([.ref h0, .int p0, .int p1])).length) Slot.unset).toArray = ls at hl ⊢
  have hl : lv_has ls 4 [(0, .ref h0), (1, .int p0), (2, .int p1)] := hl
  refine lv_iconst (v := 0) hx hb dX10_takeCells_0 (by decide) ?_
  refine lv_istore_n (lv' := [(3, .int 0), (0, .ref h0), (1, .int p0), (2, .int p1)]) hx hb dX10_takeCells_1 rfl hl (by decide) rfl (fun ls hl => ?_)
  refine lv_iload_n hx hb dX10_takeCells_2 rfl (lv_at hl 0 rfl) ?_
  refine lv_iload_n hx hb dX10_takeCells_3 rfl (lv_at hl 3 rfl) ?_
  refine lv_icmp_ge (tgt := 30) hx hb dX10_takeCells_4 (by decide) (fun c_1 => ?_) (fun c_1 => ?_)
  · simp only [lt_I, le_I, eq_I, i_0, i_1, i_2, i_3, i_4, i_5, i_6, i_7, i_8, i_10, i_12, i_16, i_20, i_23, i_24, i_31, i_32, i_63, i_64, i_m1, i_9, i_11, i_13, i_25, i_60, i_75, i_79, i_80, i_96, i_100] at c_1
    exact W.vret hx hb hr (fun t ht hW => ⟨⟨(A 4), rfl, trivial, (by show MH E h0 rf t0 t1 t2 (uA A 4 (A 4)) cd pk t.heap; rw [ht]; exact hM.cg (fun k => by simp only [uA]; (repeat' split) <;> first | rfl | (exfalso; omega) | (simp_all; done)))⟩, hS.F ht⟩) hS.2.2 dX10_takeCells_30
  · simp only [lt_I, le_I, eq_I, i_0, i_1, i_2, i_3, i_4, i_5, i_6, i_7, i_8, i_10, i_12, i_16, i_20, i_23, i_24, i_31, i_32, i_63, i_64, i_m1, i_9, i_11, i_13, i_25, i_60, i_75, i_79, i_80, i_96, i_100] at c_1
    refine lv_aload_n hx hb dX10_takeCells_7 rfl (lv_at hl 1 rfl) ?_
    refine va_get (D := DG E) (ci := 10) (v := .ref (rf 4)) (C := RX10) (T := TX10) (N := 49) hx hb hts iw_X10 hown hK.1 (va_one hM.1) 0 rfl rfl 4 (by decide) (hts _ fl_X10_7) (fun _ h9 => h9) rfl dX10_takeCells_8 ?_
    refine lv_iload_n hx hb dX10_takeCells_11 rfl (lv_at hl 2 rfl) ?_
    refine lv_iload_n hx hb dX10_takeCells_12 rfl (lv_at hl 0 rfl) ?_
    refine lv_iadd hx hb dX10_takeCells_13 ?_
    refine lv_topi (fun x_2 ex_2 => ?_)
    have fx_2 : x_2.toInt = p0.toInt + 0 := by have h9 := s_add (x := p0) (y := 0) (by rw [i_0]; omega) (by rw [i_0]; omega); rw [i_0] at h9; rw [ex_2]; exact h9
    refine lv_aload_n hx hb dX10_takeCells_14 rfl (lv_at hl 1 rfl) ?_
    refine va_get (D := DG E) (ci := 10) (v := .ref (rf 48)) (C := RX10) (T := TX10) (N := 49) hx hb hts iw_X10 hown hK.1 (va_one hM.1) 0 rfl rfl 48 (by decide) (hts _ fl_X10_140) (fun _ h9 => h9) rfl dX10_takeCells_15 ?_
    refine lv_bipush (v := 96) hx hb dX10_takeCells_18 (by decide) ?_
    refine lv_iload_n hx hb dX10_takeCells_20 rfl (lv_at hl 0 rfl) ?_
    refine lv_iadd hx hb dX10_takeCells_21 ?_
    refine W.eq (g2 := F0 m 22 ls [.int 96, .ref (rf 48), .int x_2, .ref (rf 4)]) (by rfl) ?_
    have ha_3 : va_at (DG E) vwCl (rf 48, .inl (E.2.2 0, 100, .inl (A 48))) _ := hM.2 48 (by decide) (by decide) (by decide)
    refine va_iald (D := DG E) hx hb hK.1 (va_one ha_3) 0 0 rfl rfl (show vp_in (96) 100 from vp_in_iff.mpr ⟨by decide, by decide⟩) dX10_takeCells_22 ?_
    refine W.eq (g2 := F0 m 23 ls [.int ((A 48) 96), .int x_2, .ref (rf 4)]) (by rfl) ?_
    have ha_4 : va_at (DG E) vwCl (rf 4, .inl (E.2.2 0, 64, .inl (A 4))) _ := hM.2 4 (by decide) (by decide) (by decide)
    obtain ⟨n_5, hn_5, en_5⟩ := s_nat (x := x_2) (by omega)
    refine rr_iast (D := DG E) hx hb hK.1 0 ha_4 hS (by show G (rf 4) ≠ 0; rw [hR.2 4 (by decide) (by decide) (by decide)]; decide) rfl (show vp_in x_2 64 from vp_in_iff.mpr (by omega)) dX10_takeCells_23 (fun H locs hn ho hz hS => ?_)
    rw [en_5] at hn
    obtain ⟨g_4, eg_4⟩ : ∃ z : Nat → Int32, z = upd (A 4) n_5 ((A 48) 96) := ⟨_, rfl⟩
    have sg_4 : g_4 n_5 = ((A 48) 96) := by rw [eg_4]; exact upd_s
    have ng_4 : ∀ k, k ≠ n_5 → g_4 k = (A 4) k := fun k hk => by rw [eg_4]; exact upd_n hk
    have hn : va_at (DG E) vwCl (rf 4, .inl (E.2.2 0, 64, .inl g_4)) H := by rw [eg_4]; exact hn
    have hM : MH E h0 rf t0 t1 t2 (uA A 4 g_4) cd pk H := hM.w hR 4 (by decide) (by decide) (by decide) hn ho
    refine lv_iinc (v := 1) (lv' := [(3, .int 1), (0, .ref h0), (1, .int p0), (2, .int p1)]) hx hb dX10_takeCells_24 hl (k := 0) rfl (by decide) (by decide) rfl (fun ls hl => ?_)
    refine lv_goto (tgt := 2) hx hb dX10_takeCells_27 (by decide) ?_
    refine lv_iload_n hx hb dX10_takeCells_2 rfl (lv_at hl 0 rfl) ?_
    refine lv_iload_n hx hb dX10_takeCells_3 rfl (lv_at hl 3 rfl) ?_
    refine lv_icmp_ge (tgt := 30) hx hb dX10_takeCells_4 (by decide) (fun c_6 => ?_) (fun c_6 => ?_)
    · simp only [lt_I, le_I, eq_I, i_0, i_1, i_2, i_3, i_4, i_5, i_6, i_7, i_8, i_10, i_12, i_16, i_20, i_23, i_24, i_31, i_32, i_63, i_64, i_m1, i_9, i_11, i_13, i_25, i_60, i_75, i_79, i_80, i_96, i_100] at c_6
      exact W.vret hx hb hr (fun t ht hW => ⟨⟨g_4, rfl, trivial, (by show MH E h0 rf t0 t1 t2 (uA A 4 g_4) cd pk t.heap; rw [ht]; exact hM)⟩, hS.F ht⟩) hS.2.2 dX10_takeCells_30
    · simp only [lt_I, le_I, eq_I, i_0, i_1, i_2, i_3, i_4, i_5, i_6, i_7, i_8, i_10, i_12, i_16, i_20, i_23, i_24, i_31, i_32, i_63, i_64, i_m1, i_9, i_11, i_13, i_25, i_60, i_75, i_79, i_80, i_96, i_100] at c_6
      refine lv_aload_n hx hb dX10_takeCells_7 rfl (lv_at hl 1 rfl) ?_
      refine va_get (D := DG E) (ci := 10) (v := .ref (rf 4)) (C := RX10) (T := TX10) (N := 49) hx hb hts iw_X10 hown hK.1 (va_one hM.1) 0 rfl rfl 4 (by decide) (hts _ fl_X10_7) (fun _ h9 => h9) rfl dX10_takeCells_8 ?_
      refine lv_iload_n hx hb dX10_takeCells_11 rfl (lv_at hl 2 rfl) ?_
      refine lv_iload_n hx hb dX10_takeCells_12 rfl (lv_at hl 0 rfl) ?_
      refine lv_iadd hx hb dX10_takeCells_13 ?_
      refine lv_topi (fun x_7 ex_7 => ?_)
      have fx_7 : x_7.toInt = p0.toInt + 1 := by have h9 := s_add (x := p0) (y := 1) (by rw [i_1]; omega) (by rw [i_1]; omega); rw [i_1] at h9; rw [ex_7]; exact h9
      refine lv_aload_n hx hb dX10_takeCells_14 rfl (lv_at hl 1 rfl) ?_
      refine va_get (D := DG E) (ci := 10) (v := .ref (rf 48)) (C := RX10) (T := TX10) (N := 49) hx hb hts iw_X10 hown hK.1 (va_one hM.1) 0 rfl rfl 48 (by decide) (hts _ fl_X10_140) (fun _ h9 => h9) rfl dX10_takeCells_15 ?_
      refine lv_bipush (v := 96) hx hb dX10_takeCells_18 (by decide) ?_
      refine lv_iload_n hx hb dX10_takeCells_20 rfl (lv_at hl 0 rfl) ?_
      refine lv_iadd hx hb dX10_takeCells_21 ?_
      refine W.eq (g2 := F0 m 22 ls [.int 97, .ref (rf 48), .int x_7, .ref (rf 4)]) (by rfl) ?_
      have ha_8 : va_at (DG E) vwCl (rf 48, .inl (E.2.2 0, 100, .inl (A 48))) _ := hM.2 48 (by decide) (by decide) (by decide)
      refine va_iald (D := DG E) hx hb hK.1 (va_one ha_8) 0 0 rfl rfl (show vp_in (97) 100 from vp_in_iff.mpr ⟨by decide, by decide⟩) dX10_takeCells_22 ?_
      refine W.eq (g2 := F0 m 23 ls [.int ((A 48) 97), .int x_7, .ref (rf 4)]) (by rfl) ?_
      have ha_9 : va_at (DG E) vwCl (rf 4, .inl (E.2.2 0, 64, .inl g_4)) _ := hM.2 4 (by decide) (by decide) (by decide)
      obtain ⟨n_10, hn_10, en_10⟩ := s_nat (x := x_7) (by omega)
      refine rr_iast (D := DG E) hx hb hK.1 0 ha_9 hS (by show G (rf 4) ≠ 0; rw [hR.2 4 (by decide) (by decide) (by decide)]; decide) rfl (show vp_in x_7 64 from vp_in_iff.mpr (by omega)) dX10_takeCells_23 (fun H locs hn ho hz hS => ?_)
      rw [en_10] at hn
      obtain ⟨g_9, eg_9⟩ : ∃ z : Nat → Int32, z = upd g_4 n_10 ((A 48) 97) := ⟨_, rfl⟩
      have sg_9 : g_9 n_10 = ((A 48) 97) := by rw [eg_9]; exact upd_s
      have ng_9 : ∀ k, k ≠ n_10 → g_9 k = g_4 k := fun k hk => by rw [eg_9]; exact upd_n hk
      have hn : va_at (DG E) vwCl (rf 4, .inl (E.2.2 0, 64, .inl g_9)) H := by rw [eg_9]; exact hn
      have hM : MH E h0 rf t0 t1 t2 (uA (uA A 4 g_4) 4 g_9) cd pk H := hM.w hR 4 (by decide) (by decide) (by decide) hn ho
      refine lv_iinc (v := 2) (lv' := [(3, .int 2), (0, .ref h0), (1, .int p0), (2, .int p1)]) hx hb dX10_takeCells_24 hl (k := 0) rfl (by decide) (by decide) rfl (fun ls hl => ?_)
      refine lv_goto (tgt := 2) hx hb dX10_takeCells_27 (by decide) ?_
      refine lv_iload_n hx hb dX10_takeCells_2 rfl (lv_at hl 0 rfl) ?_
      refine lv_iload_n hx hb dX10_takeCells_3 rfl (lv_at hl 3 rfl) ?_
      refine lv_icmp_ge (tgt := 30) hx hb dX10_takeCells_4 (by decide) (fun c_11 => ?_) (fun c_11 => ?_)
      · simp only [lt_I, le_I, eq_I, i_0, i_1, i_2, i_3, i_4, i_5, i_6, i_7, i_8, i_10, i_12, i_16, i_20, i_23, i_24, i_31, i_32, i_63, i_64, i_m1, i_9, i_11, i_13, i_25, i_60, i_75, i_79, i_80, i_96, i_100] at c_11
        exact W.vret hx hb hr (fun t ht hW => ⟨⟨g_9, rfl, trivial, (by show MH E h0 rf t0 t1 t2 (uA A 4 g_9) cd pk t.heap; rw [ht]; exact hM.cg (fun k => by simp only [uA]; (repeat' split) <;> first | rfl | (exfalso; omega) | (simp_all; done)))⟩, hS.F ht⟩) hS.2.2 dX10_takeCells_30
      · simp only [lt_I, le_I, eq_I, i_0, i_1, i_2, i_3, i_4, i_5, i_6, i_7, i_8, i_10, i_12, i_16, i_20, i_23, i_24, i_31, i_32, i_63, i_64, i_m1, i_9, i_11, i_13, i_25, i_60, i_75, i_79, i_80, i_96, i_100] at c_11
        refine lv_aload_n hx hb dX10_takeCells_7 rfl (lv_at hl 1 rfl) ?_
        refine va_get (D := DG E) (ci := 10) (v := .ref (rf 4)) (C := RX10) (T := TX10) (N := 49) hx hb hts iw_X10 hown hK.1 (va_one hM.1) 0 rfl rfl 4 (by decide) (hts _ fl_X10_7) (fun _ h9 => h9) rfl dX10_takeCells_8 ?_
        refine lv_iload_n hx hb dX10_takeCells_11 rfl (lv_at hl 2 rfl) ?_
        refine lv_iload_n hx hb dX10_takeCells_12 rfl (lv_at hl 0 rfl) ?_
        refine lv_iadd hx hb dX10_takeCells_13 ?_
        refine lv_topi (fun x_12 ex_12 => ?_)
        have fx_12 : x_12.toInt = p0.toInt + 2 := by have h9 := s_add (x := p0) (y := 2) (by rw [i_2]; omega) (by rw [i_2]; omega); rw [i_2] at h9; rw [ex_12]; exact h9
        refine lv_aload_n hx hb dX10_takeCells_14 rfl (lv_at hl 1 rfl) ?_
        refine va_get (D := DG E) (ci := 10) (v := .ref (rf 48)) (C := RX10) (T := TX10) (N := 49) hx hb hts iw_X10 hown hK.1 (va_one hM.1) 0 rfl rfl 48 (by decide) (hts _ fl_X10_140) (fun _ h9 => h9) rfl dX10_takeCells_15 ?_
        refine lv_bipush (v := 96) hx hb dX10_takeCells_18 (by decide) ?_
        refine lv_iload_n hx hb dX10_takeCells_20 rfl (lv_at hl 0 rfl) ?_
        refine lv_iadd hx hb dX10_takeCells_21 ?_
        refine W.eq (g2 := F0 m 22 ls [.int 98, .ref (rf 48), .int x_12, .ref (rf 4)]) (by rfl) ?_
        have ha_13 : va_at (DG E) vwCl (rf 48, .inl (E.2.2 0, 100, .inl (A 48))) _ := hM.2 48 (by decide) (by decide) (by decide)
        refine va_iald (D := DG E) hx hb hK.1 (va_one ha_13) 0 0 rfl rfl (show vp_in (98) 100 from vp_in_iff.mpr ⟨by decide, by decide⟩) dX10_takeCells_22 ?_
        refine W.eq (g2 := F0 m 23 ls [.int ((A 48) 98), .int x_12, .ref (rf 4)]) (by rfl) ?_
        have ha_14 : va_at (DG E) vwCl (rf 4, .inl (E.2.2 0, 64, .inl g_9)) _ := hM.2 4 (by decide) (by decide) (by decide)
        obtain ⟨n_15, hn_15, en_15⟩ := s_nat (x := x_12) (by omega)
        refine rr_iast (D := DG E) hx hb hK.1 0 ha_14 hS (by show G (rf 4) ≠ 0; rw [hR.2 4 (by decide) (by decide) (by decide)]; decide) rfl (show vp_in x_12 64 from vp_in_iff.mpr (by omega)) dX10_takeCells_23 (fun H locs hn ho hz hS => ?_)
        rw [en_15] at hn
        obtain ⟨g_14, eg_14⟩ : ∃ z : Nat → Int32, z = upd g_9 n_15 ((A 48) 98) := ⟨_, rfl⟩
        have sg_14 : g_14 n_15 = ((A 48) 98) := by rw [eg_14]; exact upd_s
        have ng_14 : ∀ k, k ≠ n_15 → g_14 k = g_9 k := fun k hk => by rw [eg_14]; exact upd_n hk
        have hn : va_at (DG E) vwCl (rf 4, .inl (E.2.2 0, 64, .inl g_14)) H := by rw [eg_14]; exact hn
        have hM : MH E h0 rf t0 t1 t2 (uA (uA (uA A 4 g_4) 4 g_9) 4 g_14) cd pk H := hM.w hR 4 (by decide) (by decide) (by decide) hn ho
        refine lv_iinc (v := 3) (lv' := [(3, .int 3), (0, .ref h0), (1, .int p0), (2, .int p1)]) hx hb dX10_takeCells_24 hl (k := 0) rfl (by decide) (by decide) rfl (fun ls hl => ?_)
        refine lv_goto (tgt := 2) hx hb dX10_takeCells_27 (by decide) ?_
        refine lv_iload_n hx hb dX10_takeCells_2 rfl (lv_at hl 0 rfl) ?_
        refine lv_iload_n hx hb dX10_takeCells_3 rfl (lv_at hl 3 rfl) ?_
        refine lv_icmp_ge (tgt := 30) hx hb dX10_takeCells_4 (by decide) (fun c_16 => ?_) (fun c_16 => ?_)
        · simp only [lt_I, le_I, eq_I, i_0, i_1, i_2, i_3, i_4, i_5, i_6, i_7, i_8, i_10, i_12, i_16, i_20, i_23, i_24, i_31, i_32, i_63, i_64, i_m1, i_9, i_11, i_13, i_25, i_60, i_75, i_79, i_80, i_96, i_100] at c_16
          exact W.vret hx hb hr (fun t ht hW => ⟨⟨g_14, rfl, trivial, (by show MH E h0 rf t0 t1 t2 (uA A 4 g_14) cd pk t.heap; rw [ht]; exact hM.cg (fun k => by simp only [uA]; (repeat' split) <;> first | rfl | (exfalso; omega) | (simp_all; done)))⟩, hS.F ht⟩) hS.2.2 dX10_takeCells_30
        · simp only [lt_I, le_I, eq_I, i_0, i_1, i_2, i_3, i_4, i_5, i_6, i_7, i_8, i_10, i_12, i_16, i_20, i_23, i_24, i_31, i_32, i_63, i_64, i_m1, i_9, i_11, i_13, i_25, i_60, i_75, i_79, i_80, i_96, i_100] at c_16
          refine lv_aload_n hx hb dX10_takeCells_7 rfl (lv_at hl 1 rfl) ?_
          refine va_get (D := DG E) (ci := 10) (v := .ref (rf 4)) (C := RX10) (T := TX10) (N := 49) hx hb hts iw_X10 hown hK.1 (va_one hM.1) 0 rfl rfl 4 (by decide) (hts _ fl_X10_7) (fun _ h9 => h9) rfl dX10_takeCells_8 ?_
          refine lv_iload_n hx hb dX10_takeCells_11 rfl (lv_at hl 2 rfl) ?_
          refine lv_iload_n hx hb dX10_takeCells_12 rfl (lv_at hl 0 rfl) ?_
          refine lv_iadd hx hb dX10_takeCells_13 ?_
          refine lv_topi (fun x_17 ex_17 => ?_)
          have fx_17 : x_17.toInt = p0.toInt + 3 := by have h9 := s_add (x := p0) (y := 3) (by rw [i_3]; omega) (by rw [i_3]; omega); rw [i_3] at h9; rw [ex_17]; exact h9
          refine lv_aload_n hx hb dX10_takeCells_14 rfl (lv_at hl 1 rfl) ?_
          refine va_get (D := DG E) (ci := 10) (v := .ref (rf 48)) (C := RX10) (T := TX10) (N := 49) hx hb hts iw_X10 hown hK.1 (va_one hM.1) 0 rfl rfl 48 (by decide) (hts _ fl_X10_140) (fun _ h9 => h9) rfl dX10_takeCells_15 ?_
          refine lv_bipush (v := 96) hx hb dX10_takeCells_18 (by decide) ?_
          refine lv_iload_n hx hb dX10_takeCells_20 rfl (lv_at hl 0 rfl) ?_
          refine lv_iadd hx hb dX10_takeCells_21 ?_
          refine W.eq (g2 := F0 m 22 ls [.int 99, .ref (rf 48), .int x_17, .ref (rf 4)]) (by rfl) ?_
          have ha_18 : va_at (DG E) vwCl (rf 48, .inl (E.2.2 0, 100, .inl (A 48))) _ := hM.2 48 (by decide) (by decide) (by decide)
          refine va_iald (D := DG E) hx hb hK.1 (va_one ha_18) 0 0 rfl rfl (show vp_in (99) 100 from vp_in_iff.mpr ⟨by decide, by decide⟩) dX10_takeCells_22 ?_
          refine W.eq (g2 := F0 m 23 ls [.int ((A 48) 99), .int x_17, .ref (rf 4)]) (by rfl) ?_
          have ha_19 : va_at (DG E) vwCl (rf 4, .inl (E.2.2 0, 64, .inl g_14)) _ := hM.2 4 (by decide) (by decide) (by decide)
          obtain ⟨n_20, hn_20, en_20⟩ := s_nat (x := x_17) (by omega)
          refine rr_iast (D := DG E) hx hb hK.1 0 ha_19 hS (by show G (rf 4) ≠ 0; rw [hR.2 4 (by decide) (by decide) (by decide)]; decide) rfl (show vp_in x_17 64 from vp_in_iff.mpr (by omega)) dX10_takeCells_23 (fun H locs hn ho hz hS => ?_)
          rw [en_20] at hn
          obtain ⟨g_19, eg_19⟩ : ∃ z : Nat → Int32, z = upd g_14 n_20 ((A 48) 99) := ⟨_, rfl⟩
          have sg_19 : g_19 n_20 = ((A 48) 99) := by rw [eg_19]; exact upd_s
          have ng_19 : ∀ k, k ≠ n_20 → g_19 k = g_14 k := fun k hk => by rw [eg_19]; exact upd_n hk
          have hn : va_at (DG E) vwCl (rf 4, .inl (E.2.2 0, 64, .inl g_19)) H := by rw [eg_19]; exact hn
          have hM : MH E h0 rf t0 t1 t2 (uA (uA (uA (uA A 4 g_4) 4 g_9) 4 g_14) 4 g_19) cd pk H := hM.w hR 4 (by decide) (by decide) (by decide) hn ho
          refine lv_iinc (v := 4) (lv' := [(3, .int 4), (0, .ref h0), (1, .int p0), (2, .int p1)]) hx hb dX10_takeCells_24 hl (k := 0) rfl (by decide) (by decide) rfl (fun ls hl => ?_)
          refine lv_goto (tgt := 2) hx hb dX10_takeCells_27 (by decide) ?_
          refine lv_iload_n hx hb dX10_takeCells_2 rfl (lv_at hl 0 rfl) ?_
          refine lv_iload_n hx hb dX10_takeCells_3 rfl (lv_at hl 3 rfl) ?_
          refine lv_icmp_ge (tgt := 30) hx hb dX10_takeCells_4 (by decide) (fun c_21 => ?_) (fun c_21 => by exfalso; simp only [lt_I, le_I, eq_I, i_0, i_1, i_2, i_3, i_4, i_5, i_6, i_7, i_8, i_10, i_12, i_16, i_20, i_23, i_24, i_31, i_32, i_63, i_64, i_m1, i_9, i_11, i_13, i_25, i_60, i_75, i_79, i_80, i_96, i_100] at c_21; omega)
          simp only [lt_I, le_I, eq_I, i_0, i_1, i_2, i_3, i_4, i_5, i_6, i_7, i_8, i_10, i_12, i_16, i_20, i_23, i_24, i_31, i_32, i_63, i_64, i_m1, i_9, i_11, i_13, i_25, i_60, i_75, i_79, i_80, i_96, i_100] at c_21
          exact W.vret hx hb hr (fun t ht hW => ⟨⟨g_19, rfl, trivial, (by show MH E h0 rf t0 t1 t2 (uA A 4 g_19) cd pk t.heap; rw [ht]; exact hM.cg (fun k => by simp only [uA]; (repeat' split) <;> first | rfl | (exfalso; omega) | (simp_all; done)))⟩, hS.F ht⟩) hS.2.2 dX10_takeCells_30
theorem dX10_ack_0 : decode cX10_ack 0 = .ok (.aload_n 0, 1) := by decide +kernel
theorem dX10_ack_1 : decode cX10_ack 1 = .ok (.iload_n 1, 1) := by decide +kernel
theorem dX10_ack_2 : decode cX10_ack 2 = .ok (.iconst 5, 1) := by decide +kernel
theorem dX10_ack_3 : decode cX10_ack 3 = .ok (.iload_n 2, 1) := by decide +kernel
theorem dX10_ack_4 : decode cX10_ack 4 = .ok (.iconst (-1), 1) := by decide +kernel
theorem dX10_ack_5 : decode cX10_ack 5 = .ok (.iconst (-1), 1) := by decide +kernel
theorem dX10_ack_6 : decode cX10_ack 6 = .ok (.iconst 0, 1) := by decide +kernel
theorem dX10_ack_7 : decode cX10_ack 7 = .ok (.invokevirtual 199, 3) := by decide +kernel
theorem dX10_ack_10 : decode cX10_ack 10 = .ok (.istore_n 3, 1) := by decide +kernel
theorem dX10_ack_11 : decode cX10_ack 11 = .ok (.iload_n 3, 1) := by decide +kernel
theorem dX10_ack_12 : decode cX10_ack 12 = .ok (.ifCond .lt 10, 3) := by decide +kernel
theorem dX10_ack_15 : decode cX10_ack 15 = .ok (.aload_n 0, 1) := by decide +kernel
theorem dX10_ack_16 : decode cX10_ack 16 = .ok (.getfield 128, 3) := by decide +kernel
theorem dX10_ack_19 : decode cX10_ack 19 = .ok (.iload_n 3, 1) := by decide +kernel
theorem dX10_ack_20 : decode cX10_ack 20 = .ok (.iconst 0, 1) := by decide +kernel
theorem dX10_ack_21 : decode cX10_ack 21 = .ok (.iastore, 1) := by decide +kernel
theorem dX10_ack_22 : decode cX10_ack 22 = .ok (.return_, 1) := by decide +kernel
set_option maxHeartbeats 8000000 in
set_option maxRecDepth 100000 in
theorem u_X10_ack (l : Launch) (E : EE) (z0 : Nat) (G : Nat → Nat) (hGz : ∀ q, G q ≠ 0 → z0 ≤ q) (h0 : Nat) (rf : Nat → Nat) (hR : MG G h0 rf) (t0 t1 t2 : Int32) (A : AA) (cd pk : Int32) (p0 : Int32) (p1 : Int32) (hI7 : I7 (A 41) (A 42) (A 44) (A 45) (A 46)) (hy0 : 0 ≤ p0.toInt ∧ p0.toInt ≤ 3) (hy1 : 0 ≤ pk.toInt ∧ pk.toInt ≤ 24) : Met l yX10_ack [Cond.code yX10_ack cX10_ack 4 none] ({ frames := 2, cells := 0, slots := 0, locals := 47 } : Room) (va_Pc [.ref h0, .int p0, .int p1] (fun U => MH E h0 rf t0 t1 t2 A cd pk U.heap ∧ KS E z0 U)) (va_Qv (fun (u : (Nat → Int32) × (Nat → Int32) × (Nat → Int32) × (Nat → Int32) × (Nat → Int32) × (Nat → Int32) × (Nat → Int32) × Int32) => (I7 (u.1) (u.2.1) (u.2.2.2.1) (u.2.2.2.2.1) (u.2.2.2.2.2.1)) ∧ (0 ≤ (u.2.2.2.2.2.2.2).toInt ∧ (u.2.2.2.2.2.2.2).toInt ≤ 24) ∧ (((u.2.2.2.1) 24).toInt = ((A 44) 24).toInt ∧ ((u.2.2.2.2.2.1) 24).toInt = ((A 46) 24).toInt)) (fun u t => MH E h0 rf t0 t1 t2 (uA (uA (uA (uA (uA (uA (uA A 41 (u.1)) 42 (u.2.1)) 43 (u.2.2.1)) 44 (u.2.2.2.1)) 45 (u.2.2.2.2.1)) 46 (u.2.2.2.2.2.1)) 47 (u.2.2.2.2.2.2.1)) cd (u.2.2.2.2.2.2.2) t.heap) (fun q : Nat => G q ≠ 0)) 0 0 (fun q : Nat => G q ≠ 0) := by
  refine Met.ofW (cc := cX10_ack) (maxL := 4) (ret := none) (by decide) rfl ?_
  intro p e s m args below meth c s₁ B hml hv
  obtain ⟨rfl, hM, hK⟩ := hv
  have hx := B.exec
  have hb := B.bytes
  have hr := B.returns
  have hts : ∀ w ∈ TS, w.before ([.ref h0, .int p0, .int p1] : List Value).toArray s = true := fun w hw => hK.2.1 w hw _
  have hown : s.vm.findClass RX10 = some m.cls := findClass_of_methodNamed B.named
  have hlocks := B.notSynchronized
  have hS : va_S (fun q : Nat => G q ≠ 0) s.heap s.heap [] := va_S.rf
  have hAz : ∀ q, (fun q : Nat => G q ≠ 0) q → z0 ≤ q := hGz
  have hl := lv_entry ([.ref h0, .int p0, .int p1]) (n := 4) (Nat.le_of_ble_eq_true rfl)
  rw [lg_entry_eq]
  generalize (lg_sl ([.ref h0, .int p0, .int p1]) ++ List.replicate (4 - (lg_sl ([.ref h0, .int p0, .int p1])).length) Slot.unset).toArray = ls at hl ⊢
  have hl : lv_has ls 4 [(0, .ref h0), (1, .int p0), (2, .int p1)] := hl
  refine lv_aload_n hx hb dX10_ack_0 rfl (lv_at hl 0 rfl) ?_
  refine lv_iload_n hx hb dX10_ack_1 rfl (lv_at hl 1 rfl) ?_
  refine lv_iconst (v := 5) hx hb dX10_ack_2 (by decide) ?_
  refine lv_iload_n hx hb dX10_ack_3 rfl (lv_at hl 2 rfl) ?_
  refine lv_iconst (v := (-1)) hx hb dX10_ack_4 (by decide) ?_
  refine lv_iconst (v := (-1)) hx hb dX10_ack_5 (by decide) ?_
  refine lv_iconst (v := 0) hx hb dX10_ack_6 (by decide) ?_
  refine va_calli (rnV (fun H => MH E h0 rf t0 t1 t2 A cd pk H) (As := [.int p0, .int 5, .int p1, .int (-1), .int (-1), .int 0]) (rest := []) ⟨hx, hb, hml, hown, hts⟩ (u_X10_emit l E z0 G hGz h0 rf hR t0 t1 t2 A cd pk p0 5 p1 (-1) (-1) 0 hI7 (by have := i_m1; have := i_0; have := i_5; first | omega | decide) (by have := i_m1; have := i_0; have := i_5; first | omega | decide) (by have := i_m1; have := i_0; have := i_5; first | omega | decide) (by have := i_m1; have := i_0; have := i_5; first | omega | decide)) (cwV 6 hts (gdV ml_X10_199 im_X10_emit se_X10_X10_emit in_X10 co_X10_emit rfl) rfl rfl rfl (by decide +kernel) ⟨Nat.le_of_ble_eq_true rfl, Nat.le_of_ble_eq_true rfl⟩) hM (fun U hU hW => hK.go hW hS hAz hU) (va_recv hK.1 (va_one hM.1) (ci := 10) (q0 := 0) rfl rfl) rfl rfl hl.1 rfl (lv_room (Nat.le_of_ble_eq_true rfl)) dX10_ack_7 ⟨Nat.le_of_ble_eq_true rfl, Nat.le_of_ble_eq_true rfl⟩) hS (fun q _ h => h) (fun q h => h) (fun r_1 ur_1 t H locs ht hvm hwr_1 hB hz hk hS => ?_)
  have hM : MH E h0 rf t0 t1 t2 (uA (uA (uA (uA (uA (uA (uA A 41 (ur_1.1)) 42 (ur_1.2.1)) 43 (ur_1.2.2.1)) 44 (ur_1.2.2.2.1)) 45 (ur_1.2.2.2.2.1)) 46 (ur_1.2.2.2.2.2.1)) 47 (ur_1.2.2.2.2.2.2.1)) cd ur_1.2.2.2.2.2.2.2 H := by rw [ht] at hB; exact hB
  have hpr_1_0 : I7 (ur_1.1) (ur_1.2.1) (ur_1.2.2.2.1) (ur_1.2.2.2.2.1) (ur_1.2.2.2.2.2.1) := hwr_1.1
  have hpr_1_1 : 0 ≤ ur_1.2.2.2.2.2.2.2.toInt ∧ ur_1.2.2.2.2.2.2.2.toInt ≤ 24 := hwr_1.2.1
  have hpr_1_2 : -1 ≤ r_1.toInt ∧ r_1.toInt ≤ 23 := hwr_1.2.2.1
  have hpr_1_3 : ∀ n : Nat, (n : Int) = r_1.toInt → (ur_1.2.1) n = (5 : Int32) := hwr_1.2.2.2.1
  have hpr_1_4 : ((ur_1.2.2.2.1) 24).toInt = ((A 44) 24).toInt ∧ ((ur_1.2.2.2.2.2.1) 24).toInt = ((A 46) 24).toInt := hwr_1.2.2.2.2
  have := i_m1
  have := i_0
  have := i_5
  refine lv_istore_n (lv' := [(3, .int r_1), (0, .ref h0), (1, .int p0), (2, .int p1)]) hx hb dX10_ack_10 rfl hl (by decide) rfl (fun ls hl => ?_)
  refine lv_iload_n hx hb dX10_ack_11 rfl (lv_at hl 0 rfl) ?_
  refine lv_if_lt (tgt := 22) hx hb dX10_ack_12 (by decide) (fun c_2 => ?_) (fun c_2 => ?_)
  · simp only [lt_I, le_I, eq_I, i_0, i_1, i_2, i_3, i_4, i_5, i_6, i_7, i_8, i_10, i_12, i_16, i_20, i_23, i_24, i_31, i_32, i_63, i_64, i_m1, i_9, i_11, i_13, i_25, i_60, i_75, i_79, i_80, i_96, i_100] at c_2
    exact W.vret hx hb hr (fun t ht hW => ⟨⟨((ur_1.1), (ur_1.2.1), (ur_1.2.2.1), (ur_1.2.2.2.1), (ur_1.2.2.2.2.1), (ur_1.2.2.2.2.2.1), (ur_1.2.2.2.2.2.2.1), ur_1.2.2.2.2.2.2.2), rfl, ⟨hpr_1_0, (by show 0 ≤ ur_1.2.2.2.2.2.2.2.toInt ∧ ur_1.2.2.2.2.2.2.2.toInt ≤ 24; omega), ⟨by omega, by omega⟩⟩, (by show MH E h0 rf t0 t1 t2 (uA (uA (uA (uA (uA (uA (uA A 41 (ur_1.1)) 42 (ur_1.2.1)) 43 (ur_1.2.2.1)) 44 (ur_1.2.2.2.1)) 45 (ur_1.2.2.2.2.1)) 46 (ur_1.2.2.2.2.2.1)) 47 (ur_1.2.2.2.2.2.2.1)) cd ur_1.2.2.2.2.2.2.2 t.heap; rw [ht]; exact hM)⟩, hS.F ht⟩) hS.2.2 dX10_ack_22
  · simp only [lt_I, le_I, eq_I, i_0, i_1, i_2, i_3, i_4, i_5, i_6, i_7, i_8, i_10, i_12, i_16, i_20, i_23, i_24, i_31, i_32, i_63, i_64, i_m1, i_9, i_11, i_13, i_25, i_60, i_75, i_79, i_80, i_96, i_100] at c_2
    refine lv_aload_n hx hb dX10_ack_15 rfl (lv_at hl 1 rfl) ?_
    refine va_get (D := DG E) (ci := 10) (v := .ref (rf 44)) (C := RX10) (T := TX10) (N := 49) hx hb hts iw_X10 hown hK.1 (va_one hM.1) 0 rfl rfl 44 (by decide) (hts _ fl_X10_128) (fun _ h9 => h9) rfl dX10_ack_16 ?_
    refine lv_iload_n hx hb dX10_ack_19 rfl (lv_at hl 0 rfl) ?_
    refine lv_iconst (v := 0) hx hb dX10_ack_20 (by decide) ?_
    have ha_3 : va_at (DG E) vwCl (rf 44, .inl (E.2.2 0, 25, .inl (ur_1.2.2.2.1))) _ := hM.2 44 (by decide) (by decide) (by decide)
    obtain ⟨n_4, hn_4, en_4⟩ := s_nat (x := r_1) (by omega)
    refine rr_iast (D := DG E) hx hb hK.1 0 ha_3 hS (by show G (rf 44) ≠ 0; rw [hR.2 44 (by decide) (by decide) (by decide)]; decide) rfl (show vp_in r_1 25 from vp_in_iff.mpr (by omega)) dX10_ack_21 (fun H locs hn ho hz hS => ?_)
    rw [en_4] at hn
    obtain ⟨g_3, eg_3⟩ : ∃ z : Nat → Int32, z = upd (ur_1.2.2.2.1) n_4 0 := ⟨_, rfl⟩
    have sg_3 : g_3 n_4 = 0 := by rw [eg_3]; exact upd_s
    have ng_3 : ∀ k, k ≠ n_4 → g_3 k = (ur_1.2.2.2.1) k := fun k hk => by rw [eg_3]; exact upd_n hk
    have hn : va_at (DG E) vwCl (rf 44, .inl (E.2.2 0, 25, .inl g_3)) H := by rw [eg_3]; exact hn
    have hM : MH E h0 rf t0 t1 t2 (uA (uA (uA (uA (uA (uA (uA (uA A 41 (ur_1.1)) 42 (ur_1.2.1)) 43 (ur_1.2.2.1)) 44 (ur_1.2.2.2.1)) 45 (ur_1.2.2.2.2.1)) 46 (ur_1.2.2.2.2.2.1)) 47 (ur_1.2.2.2.2.2.2.1)) 44 g_3) cd ur_1.2.2.2.2.2.2.2 H := hM.w hR 44 (by decide) (by decide) (by decide) hn ho
    have hI7_5 : I7 (ur_1.1) (ur_1.2.1) g_3 (ur_1.2.2.2.2.1) (ur_1.2.2.2.2.2.1) := by
      intro n9 hn9
      have h9 : 0 ≤ ((ur_1.1) n9).toInt ∧ ((ur_1.1) n9).toInt ≤ 3 ∧ 0 ≤ ((ur_1.2.2.2.1) n9).toInt ∧ ((ur_1.2.2.2.1) n9).toInt ≤ 12 ∧ (((ur_1.2.1) n9).toInt ≠ 0 ∧ ((ur_1.2.1) n9).toInt ≠ 1 ∧ ((ur_1.2.1) n9).toInt ≠ 4 ∨ ((ur_1.2.2.2.1) n9).toInt ≤ 4) ∧ (((ur_1.2.1) n9).toInt < 1 ∨ 3 < ((ur_1.2.1) n9).toInt ∨ (0 ≤ ((ur_1.2.2.2.2.1) n9).toInt ∧ ((ur_1.2.2.2.2.1) n9).toInt ≤ 5)) ∧ -1 ≤ ((ur_1.2.2.2.2.2.1) n9).toInt ∧ ((ur_1.2.2.2.2.2.1) n9).toInt ≤ 60 := hpr_1_0 n9 hn9
      show 0 ≤ ((ur_1.1) n9).toInt ∧ ((ur_1.1) n9).toInt ≤ 3 ∧ 0 ≤ (g_3 n9).toInt ∧ (g_3 n9).toInt ≤ 12 ∧ (((ur_1.2.1) n9).toInt ≠ 0 ∧ ((ur_1.2.1) n9).toInt ≠ 1 ∧ ((ur_1.2.1) n9).toInt ≠ 4 ∨ (g_3 n9).toInt ≤ 4) ∧ (((ur_1.2.1) n9).toInt < 1 ∨ 3 < ((ur_1.2.1) n9).toInt ∨ (0 ≤ ((ur_1.2.2.2.2.1) n9).toInt ∧ ((ur_1.2.2.2.2.1) n9).toInt ≤ 5)) ∧ -1 ≤ ((ur_1.2.2.2.2.2.1) n9).toInt ∧ ((ur_1.2.2.2.2.2.1) n9).toInt ≤ 60
      by_cases ez_4 : n9 = n_4
      · rw [ez_4] at h9 ⊢
        rw [sg_3]
        have := i_0
        omega
      · rw [ng_3 n9 ez_4]
        omega
    exact W.vret hx hb hr (fun t ht hW => ⟨⟨((ur_1.1), (ur_1.2.1), (ur_1.2.2.1), g_3, (ur_1.2.2.2.2.1), (ur_1.2.2.2.2.2.1), (ur_1.2.2.2.2.2.2.1), ur_1.2.2.2.2.2.2.2), rfl, ⟨hI7_5, (by show 0 ≤ ur_1.2.2.2.2.2.2.2.toInt ∧ ur_1.2.2.2.2.2.2.2.toInt ≤ 24; omega), ⟨by rw [ng_3 24 (by omega)]; omega, by omega⟩⟩, (by show MH E h0 rf t0 t1 t2 (uA (uA (uA (uA (uA (uA (uA A 41 (ur_1.1)) 42 (ur_1.2.1)) 43 (ur_1.2.2.1)) 44 g_3) 45 (ur_1.2.2.2.2.1)) 46 (ur_1.2.2.2.2.2.1)) 47 (ur_1.2.2.2.2.2.2.1)) cd ur_1.2.2.2.2.2.2.2 t.heap; rw [ht]; exact hM.cg (fun k => by simp only [uA]; (repeat' split) <;> first | rfl | (exfalso; omega) | (simp_all; done)))⟩, hS.F ht⟩) hS.2.2 dX10_ack_22
theorem dX10_replyOld_0 : decode cX10_replyOld 0 = .ok (.aload_n 0, 1) := by decide +kernel
theorem dX10_replyOld_1 : decode cX10_replyOld 1 = .ok (.iload_n 1, 1) := by decide +kernel
theorem dX10_replyOld_2 : decode cX10_replyOld 2 = .ok (.iconst 4, 1) := by decide +kernel
theorem dX10_replyOld_3 : decode cX10_replyOld 3 = .ok (.aload_n 0, 1) := by decide +kernel
theorem dX10_replyOld_4 : decode cX10_replyOld 4 = .ok (.getfield 125, 3) := by decide +kernel
theorem dX10_replyOld_7 : decode cX10_replyOld 7 = .ok (.bipush 24, 2) := by decide +kernel
theorem dX10_replyOld_9 : decode cX10_replyOld 9 = .ok (.iaload, 1) := by decide +kernel
theorem dX10_replyOld_10 : decode cX10_replyOld 10 = .ok (.iconst (-1), 1) := by decide +kernel
theorem dX10_replyOld_11 : decode cX10_replyOld 11 = .ok (.iconst (-1), 1) := by decide +kernel
theorem dX10_replyOld_12 : decode cX10_replyOld 12 = .ok (.iconst 0, 1) := by decide +kernel
theorem dX10_replyOld_13 : decode cX10_replyOld 13 = .ok (.invokevirtual 199, 3) := by decide +kernel
theorem dX10_replyOld_16 : decode cX10_replyOld 16 = .ok (.istore_n 3, 1) := by decide +kernel
theorem dX10_replyOld_17 : decode cX10_replyOld 17 = .ok (.iload_n 3, 1) := by decide +kernel
theorem dX10_replyOld_18 : decode cX10_replyOld 18 = .ok (.ifCond .ge 4, 3) := by decide +kernel
theorem dX10_replyOld_21 : decode cX10_replyOld 21 = .ok (.return_, 1) := by decide +kernel
theorem dX10_replyOld_22 : decode cX10_replyOld 22 = .ok (.aload_n 0, 1) := by decide +kernel
theorem dX10_replyOld_23 : decode cX10_replyOld 23 = .ok (.getfield 128, 3) := by decide +kernel
theorem dX10_replyOld_26 : decode cX10_replyOld 26 = .ok (.iload_n 3, 1) := by decide +kernel
theorem dX10_replyOld_27 : decode cX10_replyOld 27 = .ok (.iconst 1, 1) := by decide +kernel
theorem dX10_replyOld_28 : decode cX10_replyOld 28 = .ok (.iastore, 1) := by decide +kernel
theorem dX10_replyOld_29 : decode cX10_replyOld 29 = .ok (.aload_n 0, 1) := by decide +kernel
theorem dX10_replyOld_30 : decode cX10_replyOld 30 = .ok (.getfield 140, 3) := by decide +kernel
theorem dX10_replyOld_33 : decode cX10_replyOld 33 = .ok (.iconst 4, 1) := by decide +kernel
theorem dX10_replyOld_34 : decode cX10_replyOld 34 = .ok (.iload_n 3, 1) := by decide +kernel
theorem dX10_replyOld_35 : decode cX10_replyOld 35 = .ok (.imul, 1) := by decide +kernel
theorem dX10_replyOld_36 : decode cX10_replyOld 36 = .ok (.iload_n 2, 1) := by decide +kernel
theorem dX10_replyOld_37 : decode cX10_replyOld 37 = .ok (.iastore, 1) := by decide +kernel
theorem dX10_replyOld_38 : decode cX10_replyOld 38 = .ok (.return_, 1) := by decide +kernel
set_option maxHeartbeats 8000000 in
set_option maxRecDepth 100000 in
theorem u_X10_replyOld (l : Launch) (E : EE) (z0 : Nat) (G : Nat → Nat) (hGz : ∀ q, G q ≠ 0 → z0 ≤ q) (h0 : Nat) (rf : Nat → Nat) (hR : MG G h0 rf) (t0 t1 t2 : Int32) (A : AA) (cd pk : Int32) (p0 : Int32) (p1 : Int32) (hI7 : I7 (A 41) (A 42) (A 44) (A 45) (A 46)) (hy0 : 0 ≤ p0.toInt ∧ p0.toInt ≤ 3) (hy1 : 0 ≤ pk.toInt ∧ pk.toInt ≤ 24) : Met l yX10_replyOld [Cond.code yX10_replyOld cX10_replyOld 4 none] ({ frames := 2, cells := 0, slots := 0, locals := 47 } : Room) (va_Pc [.ref h0, .int p0, .int p1] (fun U => MH E h0 rf t0 t1 t2 A cd pk U.heap ∧ KS E z0 U)) (va_Qv (fun (u : (Nat → Int32) × (Nat → Int32) × (Nat → Int32) × (Nat → Int32) × (Nat → Int32) × (Nat → Int32) × (Nat → Int32) × (Nat → Int32) × Int32) => (I7 (u.1) (u.2.1) (u.2.2.2.1) (u.2.2.2.2.1) (u.2.2.2.2.2.1)) ∧ (0 ≤ (u.2.2.2.2.2.2.2.2).toInt ∧ (u.2.2.2.2.2.2.2.2).toInt ≤ 24) ∧ (((u.2.2.2.1) 24).toInt = ((A 44) 24).toInt ∧ ((u.2.2.2.2.2.1) 24).toInt = ((A 46) 24).toInt)) (fun u t => MH E h0 rf t0 t1 t2 (uA (uA (uA (uA (uA (uA (uA (uA A 41 (u.1)) 42 (u.2.1)) 43 (u.2.2.1)) 44 (u.2.2.2.1)) 45 (u.2.2.2.2.1)) 46 (u.2.2.2.2.2.1)) 47 (u.2.2.2.2.2.2.1)) 48 (u.2.2.2.2.2.2.2.1)) cd (u.2.2.2.2.2.2.2.2) t.heap) (fun q : Nat => G q ≠ 0)) 0 0 (fun q : Nat => G q ≠ 0) := by
  refine Met.ofW (cc := cX10_replyOld) (maxL := 4) (ret := none) (by decide) rfl ?_
  intro p e s m args below meth c s₁ B hml hv
  obtain ⟨rfl, hM, hK⟩ := hv
  have hx := B.exec
  have hb := B.bytes
  have hr := B.returns
  have hts : ∀ w ∈ TS, w.before ([.ref h0, .int p0, .int p1] : List Value).toArray s = true := fun w hw => hK.2.1 w hw _
  have hown : s.vm.findClass RX10 = some m.cls := findClass_of_methodNamed B.named
  have hlocks := B.notSynchronized
  have hS : va_S (fun q : Nat => G q ≠ 0) s.heap s.heap [] := va_S.rf
  have hAz : ∀ q, (fun q : Nat => G q ≠ 0) q → z0 ≤ q := hGz
  have hl := lv_entry ([.ref h0, .int p0, .int p1]) (n := 4) (Nat.le_of_ble_eq_true rfl)
  rw [lg_entry_eq]
  generalize (lg_sl ([.ref h0, .int p0, .int p1]) ++ List.replicate (4 - (lg_sl ([.ref h0, .int p0, .int p1])).length) Slot.unset).toArray = ls at hl ⊢
  have hl : lv_has ls 4 [(0, .ref h0), (1, .int p0), (2, .int p1)] := hl
  refine lv_aload_n hx hb dX10_replyOld_0 rfl (lv_at hl 0 rfl) ?_
  refine lv_iload_n hx hb dX10_replyOld_1 rfl (lv_at hl 1 rfl) ?_
  refine lv_iconst (v := 4) hx hb dX10_replyOld_2 (by decide) ?_
  refine lv_aload_n hx hb dX10_replyOld_3 rfl (lv_at hl 0 rfl) ?_
  refine va_get (D := DG E) (ci := 10) (v := .ref (rf 43)) (C := RX10) (T := TX10) (N := 49) hx hb hts iw_X10 hown hK.1 (va_one hM.1) 0 rfl rfl 43 (by decide) (hts _ fl_X10_125) (fun _ h9 => h9) rfl dX10_replyOld_4 ?_
  refine lv_bipush (v := 24) hx hb dX10_replyOld_7 (by decide) ?_
  have ha_1 : va_at (DG E) vwCl (rf 43, .inl (E.2.2 0, 25, .inl (A 43))) _ := hM.2 43 (by decide) (by decide) (by decide)
  refine va_iald (D := DG E) hx hb hK.1 (va_one ha_1) 0 0 rfl rfl (show vp_in (24) 25 from vp_in_iff.mpr ⟨by decide, by decide⟩) dX10_replyOld_9 ?_
  refine W.eq (g2 := F0 m 10 ls [.int ((A 43) 24), .int 4, .int p0, .ref h0]) (by rfl) ?_
  refine lv_iconst (v := (-1)) hx hb dX10_replyOld_10 (by decide) ?_
  refine lv_iconst (v := (-1)) hx hb dX10_replyOld_11 (by decide) ?_
  refine lv_iconst (v := 0) hx hb dX10_replyOld_12 (by decide) ?_
  refine va_calli (rnV (fun H => MH E h0 rf t0 t1 t2 A cd pk H) (As := [.int p0, .int 4, .int ((A 43) 24), .int (-1), .int (-1), .int 0]) (rest := []) ⟨hx, hb, hml, hown, hts⟩ (u_X10_emit l E z0 G hGz h0 rf hR t0 t1 t2 A cd pk p0 4 ((A 43) 24) (-1) (-1) 0 hI7 (by have := i_m1; have := i_0; have := i_4; first | omega | decide) (by have := i_m1; have := i_0; have := i_4; first | omega | decide) (by have := i_m1; have := i_0; have := i_4; first | omega | decide) (by have := i_m1; have := i_0; have := i_4; first | omega | decide)) (cwV 6 hts (gdV ml_X10_199 im_X10_emit se_X10_X10_emit in_X10 co_X10_emit rfl) rfl rfl rfl (by decide +kernel) ⟨Nat.le_of_ble_eq_true rfl, Nat.le_of_ble_eq_true rfl⟩) hM (fun U hU hW => hK.go hW hS hAz hU) (va_recv hK.1 (va_one hM.1) (ci := 10) (q0 := 0) rfl rfl) rfl rfl hl.1 rfl (lv_room (Nat.le_of_ble_eq_true rfl)) dX10_replyOld_13 ⟨Nat.le_of_ble_eq_true rfl, Nat.le_of_ble_eq_true rfl⟩) hS (fun q _ h => h) (fun q h => h) (fun r_2 ur_2 t H locs ht hvm hwr_2 hB hz hk hS => ?_)
  have hM : MH E h0 rf t0 t1 t2 (uA (uA (uA (uA (uA (uA (uA A 41 (ur_2.1)) 42 (ur_2.2.1)) 43 (ur_2.2.2.1)) 44 (ur_2.2.2.2.1)) 45 (ur_2.2.2.2.2.1)) 46 (ur_2.2.2.2.2.2.1)) 47 (ur_2.2.2.2.2.2.2.1)) cd ur_2.2.2.2.2.2.2.2 H := by rw [ht] at hB; exact hB
  have hpr_2_0 : I7 (ur_2.1) (ur_2.2.1) (ur_2.2.2.2.1) (ur_2.2.2.2.2.1) (ur_2.2.2.2.2.2.1) := hwr_2.1
  have hpr_2_1 : 0 ≤ ur_2.2.2.2.2.2.2.2.toInt ∧ ur_2.2.2.2.2.2.2.2.toInt ≤ 24 := hwr_2.2.1
  have hpr_2_2 : -1 ≤ r_2.toInt ∧ r_2.toInt ≤ 23 := hwr_2.2.2.1
  have hpr_2_3 : ∀ n : Nat, (n : Int) = r_2.toInt → (ur_2.2.1) n = (4 : Int32) := hwr_2.2.2.2.1
  have hpr_2_4 : ((ur_2.2.2.2.1) 24).toInt = ((A 44) 24).toInt ∧ ((ur_2.2.2.2.2.2.1) 24).toInt = ((A 46) 24).toInt := hwr_2.2.2.2.2
  have := i_m1
  have := i_0
  have := i_4
  refine lv_istore_n (lv' := [(3, .int r_2), (0, .ref h0), (1, .int p0), (2, .int p1)]) hx hb dX10_replyOld_16 rfl hl (by decide) rfl (fun ls hl => ?_)
  refine lv_iload_n hx hb dX10_replyOld_17 rfl (lv_at hl 0 rfl) ?_
  refine lv_if_ge (tgt := 22) hx hb dX10_replyOld_18 (by decide) (fun c_3 => ?_) (fun c_3 => ?_)
  · simp only [lt_I, le_I, eq_I, i_0, i_1, i_2, i_3, i_4, i_5, i_6, i_7, i_8, i_10, i_12, i_16, i_20, i_23, i_24, i_31, i_32, i_63, i_64, i_m1, i_9, i_11, i_13, i_25, i_60, i_75, i_79, i_80, i_96, i_100] at c_3
    refine lv_aload_n hx hb dX10_replyOld_22 rfl (lv_at hl 1 rfl) ?_
    refine va_get (D := DG E) (ci := 10) (v := .ref (rf 44)) (C := RX10) (T := TX10) (N := 49) hx hb hts iw_X10 hown hK.1 (va_one hM.1) 0 rfl rfl 44 (by decide) (hts _ fl_X10_128) (fun _ h9 => h9) rfl dX10_replyOld_23 ?_
    refine lv_iload_n hx hb dX10_replyOld_26 rfl (lv_at hl 0 rfl) ?_
    refine lv_iconst (v := 1) hx hb dX10_replyOld_27 (by decide) ?_
    have ha_4 : va_at (DG E) vwCl (rf 44, .inl (E.2.2 0, 25, .inl (ur_2.2.2.2.1))) _ := hM.2 44 (by decide) (by decide) (by decide)
    obtain ⟨n_5, hn_5, en_5⟩ := s_nat (x := r_2) (by omega)
    refine rr_iast (D := DG E) hx hb hK.1 0 ha_4 hS (by show G (rf 44) ≠ 0; rw [hR.2 44 (by decide) (by decide) (by decide)]; decide) rfl (show vp_in r_2 25 from vp_in_iff.mpr (by omega)) dX10_replyOld_28 (fun H locs hn ho hz hS => ?_)
    rw [en_5] at hn
    obtain ⟨g_4, eg_4⟩ : ∃ z : Nat → Int32, z = upd (ur_2.2.2.2.1) n_5 1 := ⟨_, rfl⟩
    have sg_4 : g_4 n_5 = 1 := by rw [eg_4]; exact upd_s
    have ng_4 : ∀ k, k ≠ n_5 → g_4 k = (ur_2.2.2.2.1) k := fun k hk => by rw [eg_4]; exact upd_n hk
    have hn : va_at (DG E) vwCl (rf 44, .inl (E.2.2 0, 25, .inl g_4)) H := by rw [eg_4]; exact hn
    have hM : MH E h0 rf t0 t1 t2 (uA (uA (uA (uA (uA (uA (uA (uA A 41 (ur_2.1)) 42 (ur_2.2.1)) 43 (ur_2.2.2.1)) 44 (ur_2.2.2.2.1)) 45 (ur_2.2.2.2.2.1)) 46 (ur_2.2.2.2.2.2.1)) 47 (ur_2.2.2.2.2.2.2.1)) 44 g_4) cd ur_2.2.2.2.2.2.2.2 H := hM.w hR 44 (by decide) (by decide) (by decide) hn ho
    refine lv_aload_n hx hb dX10_replyOld_29 rfl (lv_at hl 1 rfl) ?_
    refine va_get (D := DG E) (ci := 10) (v := .ref (rf 48)) (C := RX10) (T := TX10) (N := 49) hx hb hts iw_X10 hown hK.1 (va_one hM.1) 0 rfl rfl 48 (by decide) (hts _ fl_X10_140) (fun _ h9 => h9) rfl dX10_replyOld_30 ?_
    refine lv_iconst (v := 4) hx hb dX10_replyOld_33 (by decide) ?_
    refine lv_iload_n hx hb dX10_replyOld_34 rfl (lv_at hl 0 rfl) ?_
    refine lv_imul hx hb dX10_replyOld_35 ?_
    refine lv_topi (fun x_6 ex_6 => ?_)
    have fx_6 : x_6.toInt = 4 * r_2.toInt := by rw [ex_6]; exact s_mulK i_4 (by omega) (by omega)
    refine lv_iload_n hx hb dX10_replyOld_36 rfl (lv_at hl 3 rfl) ?_
    have ha_7 : va_at (DG E) vwCl (rf 48, .inl (E.2.2 0, 100, .inl (A 48))) _ := hM.2 48 (by decide) (by decide) (by decide)
    obtain ⟨n_8, hn_8, en_8⟩ := s_nat (x := x_6) (by omega)
    refine rr_iast (D := DG E) hx hb hK.1 0 ha_7 hS (by show G (rf 48) ≠ 0; rw [hR.2 48 (by decide) (by decide) (by decide)]; decide) rfl (show vp_in x_6 100 from vp_in_iff.mpr (by omega)) dX10_replyOld_37 (fun H locs hn ho hz hS => ?_)
    rw [en_8] at hn
    obtain ⟨g_7, eg_7⟩ : ∃ z : Nat → Int32, z = upd (A 48) n_8 p1 := ⟨_, rfl⟩
    have sg_7 : g_7 n_8 = p1 := by rw [eg_7]; exact upd_s
    have ng_7 : ∀ k, k ≠ n_8 → g_7 k = (A 48) k := fun k hk => by rw [eg_7]; exact upd_n hk
    have hn : va_at (DG E) vwCl (rf 48, .inl (E.2.2 0, 100, .inl g_7)) H := by rw [eg_7]; exact hn
    have hM : MH E h0 rf t0 t1 t2 (uA (uA (uA (uA (uA (uA (uA (uA (uA A 41 (ur_2.1)) 42 (ur_2.2.1)) 43 (ur_2.2.2.1)) 44 (ur_2.2.2.2.1)) 45 (ur_2.2.2.2.2.1)) 46 (ur_2.2.2.2.2.2.1)) 47 (ur_2.2.2.2.2.2.2.1)) 44 g_4) 48 g_7) cd ur_2.2.2.2.2.2.2.2 H := hM.w hR 48 (by decide) (by decide) (by decide) hn ho
    have hI7_9 : I7 (ur_2.1) (ur_2.2.1) g_4 (ur_2.2.2.2.2.1) (ur_2.2.2.2.2.2.1) := by
      intro n9 hn9
      have h9 : 0 ≤ ((ur_2.1) n9).toInt ∧ ((ur_2.1) n9).toInt ≤ 3 ∧ 0 ≤ ((ur_2.2.2.2.1) n9).toInt ∧ ((ur_2.2.2.2.1) n9).toInt ≤ 12 ∧ (((ur_2.2.1) n9).toInt ≠ 0 ∧ ((ur_2.2.1) n9).toInt ≠ 1 ∧ ((ur_2.2.1) n9).toInt ≠ 4 ∨ ((ur_2.2.2.2.1) n9).toInt ≤ 4) ∧ (((ur_2.2.1) n9).toInt < 1 ∨ 3 < ((ur_2.2.1) n9).toInt ∨ (0 ≤ ((ur_2.2.2.2.2.1) n9).toInt ∧ ((ur_2.2.2.2.2.1) n9).toInt ≤ 5)) ∧ -1 ≤ ((ur_2.2.2.2.2.2.1) n9).toInt ∧ ((ur_2.2.2.2.2.2.1) n9).toInt ≤ 60 := hpr_2_0 n9 hn9
      show 0 ≤ ((ur_2.1) n9).toInt ∧ ((ur_2.1) n9).toInt ≤ 3 ∧ 0 ≤ (g_4 n9).toInt ∧ (g_4 n9).toInt ≤ 12 ∧ (((ur_2.2.1) n9).toInt ≠ 0 ∧ ((ur_2.2.1) n9).toInt ≠ 1 ∧ ((ur_2.2.1) n9).toInt ≠ 4 ∨ (g_4 n9).toInt ≤ 4) ∧ (((ur_2.2.1) n9).toInt < 1 ∨ 3 < ((ur_2.2.1) n9).toInt ∨ (0 ≤ ((ur_2.2.2.2.2.1) n9).toInt ∧ ((ur_2.2.2.2.2.1) n9).toInt ≤ 5)) ∧ -1 ≤ ((ur_2.2.2.2.2.2.1) n9).toInt ∧ ((ur_2.2.2.2.2.2.1) n9).toInt ≤ 60
      by_cases ez_5 : n9 = n_5
      · rw [ez_5] at h9 ⊢
        rw [sg_4]
        have := i_1
        omega
      · rw [ng_4 n9 ez_5]
        omega
    exact W.vret hx hb hr (fun t ht hW => ⟨⟨((ur_2.1), (ur_2.2.1), (ur_2.2.2.1), g_4, (ur_2.2.2.2.2.1), (ur_2.2.2.2.2.2.1), (ur_2.2.2.2.2.2.2.1), g_7, ur_2.2.2.2.2.2.2.2), rfl, ⟨hI7_9, (by show 0 ≤ ur_2.2.2.2.2.2.2.2.toInt ∧ ur_2.2.2.2.2.2.2.2.toInt ≤ 24; omega), ⟨by rw [ng_4 24 (by omega)]; omega, by omega⟩⟩, (by show MH E h0 rf t0 t1 t2 (uA (uA (uA (uA (uA (uA (uA (uA A 41 (ur_2.1)) 42 (ur_2.2.1)) 43 (ur_2.2.2.1)) 44 g_4) 45 (ur_2.2.2.2.2.1)) 46 (ur_2.2.2.2.2.2.1)) 47 (ur_2.2.2.2.2.2.2.1)) 48 g_7) cd ur_2.2.2.2.2.2.2.2 t.heap; rw [ht]; exact hM.cg (fun k => by simp only [uA]; (repeat' split) <;> first | rfl | (exfalso; omega) | (simp_all; done)))⟩, hS.F ht⟩) hS.2.2 dX10_replyOld_38
  · simp only [lt_I, le_I, eq_I, i_0, i_1, i_2, i_3, i_4, i_5, i_6, i_7, i_8, i_10, i_12, i_16, i_20, i_23, i_24, i_31, i_32, i_63, i_64, i_m1, i_9, i_11, i_13, i_25, i_60, i_75, i_79, i_80, i_96, i_100] at c_3
    exact W.vret hx hb hr (fun t ht hW => ⟨⟨((ur_2.1), (ur_2.2.1), (ur_2.2.2.1), (ur_2.2.2.2.1), (ur_2.2.2.2.2.1), (ur_2.2.2.2.2.2.1), (ur_2.2.2.2.2.2.2.1), (A 48), ur_2.2.2.2.2.2.2.2), rfl, ⟨hpr_2_0, (by show 0 ≤ ur_2.2.2.2.2.2.2.2.toInt ∧ ur_2.2.2.2.2.2.2.2.toInt ≤ 24; omega), ⟨by omega, by omega⟩⟩, (by show MH E h0 rf t0 t1 t2 (uA (uA (uA (uA (uA (uA (uA (uA A 41 (ur_2.1)) 42 (ur_2.2.1)) 43 (ur_2.2.2.1)) 44 (ur_2.2.2.2.1)) 45 (ur_2.2.2.2.2.1)) 46 (ur_2.2.2.2.2.2.1)) 47 (ur_2.2.2.2.2.2.2.1)) 48 (A 48)) cd ur_2.2.2.2.2.2.2.2 t.heap; rw [ht]; exact hM.cg (fun k => by simp only [uA]; (repeat' split) <;> first | rfl | (exfalso; omega) | (simp_all; done)))⟩, hS.F ht⟩) hS.2.2 dX10_replyOld_21
theorem dX10_reads_0 : decode cX10_reads 0 = .ok (.iconst 0, 1) := by decide +kernel
theorem dX10_reads_1 : decode cX10_reads 1 = .ok (.istore_n 2, 1) := by decide +kernel
theorem dX10_reads_2 : decode cX10_reads 2 = .ok (.iload_n 2, 1) := by decide +kernel
theorem dX10_reads_3 : decode cX10_reads 3 = .ok (.aload_n 0, 1) := by decide +kernel
theorem dX10_reads_4 : decode cX10_reads 4 = .ok (.getfield 128, 3) := by decide +kernel
theorem dX10_reads_7 : decode cX10_reads 7 = .ok (.bipush 24, 2) := by decide +kernel
theorem dX10_reads_9 : decode cX10_reads 9 = .ok (.iaload, 1) := by decide +kernel
theorem dX10_reads_10 : decode cX10_reads 10 = .ok (.if_icmp .ge 71, 3) := by decide +kernel
theorem dX10_reads_13 : decode cX10_reads 13 = .ok (.aload_n 0, 1) := by decide +kernel
theorem dX10_reads_14 : decode cX10_reads 14 = .ok (.iload_n 1, 1) := by decide +kernel
theorem dX10_reads_15 : decode cX10_reads 15 = .ok (.iconst 4, 1) := by decide +kernel
theorem dX10_reads_16 : decode cX10_reads 16 = .ok (.aload_n 0, 1) := by decide +kernel
theorem dX10_reads_17 : decode cX10_reads 17 = .ok (.getfield 125, 3) := by decide +kernel
theorem dX10_reads_20 : decode cX10_reads 20 = .ok (.bipush 24, 2) := by decide +kernel
theorem dX10_reads_22 : decode cX10_reads 22 = .ok (.iaload, 1) := by decide +kernel
theorem dX10_reads_23 : decode cX10_reads 23 = .ok (.iload_n 2, 1) := by decide +kernel
theorem dX10_reads_24 : decode cX10_reads 24 = .ok (.iconst 4, 1) := by decide +kernel
theorem dX10_reads_25 : decode cX10_reads 25 = .ok (.idiv, 1) := by decide +kernel
theorem dX10_reads_26 : decode cX10_reads 26 = .ok (.iadd, 1) := by decide +kernel
theorem dX10_reads_27 : decode cX10_reads 27 = .ok (.bipush 64, 2) := by decide +kernel
theorem dX10_reads_29 : decode cX10_reads 29 = .ok (.irem, 1) := by decide +kernel
theorem dX10_reads_30 : decode cX10_reads 30 = .ok (.iconst (-1), 1) := by decide +kernel
theorem dX10_reads_31 : decode cX10_reads 31 = .ok (.iconst (-1), 1) := by decide +kernel
theorem dX10_reads_32 : decode cX10_reads 32 = .ok (.iconst 0, 1) := by decide +kernel
theorem dX10_reads_33 : decode cX10_reads 33 = .ok (.invokevirtual 199, 3) := by decide +kernel
theorem dX10_reads_36 : decode cX10_reads 36 = .ok (.istore_n 3, 1) := by decide +kernel
theorem dX10_reads_37 : decode cX10_reads 37 = .ok (.aload_n 0, 1) := by decide +kernel
theorem dX10_reads_38 : decode cX10_reads 38 = .ok (.getfield 128, 3) := by decide +kernel
theorem dX10_reads_41 : decode cX10_reads 41 = .ok (.bipush 24, 2) := by decide +kernel
theorem dX10_reads_43 : decode cX10_reads 43 = .ok (.iaload, 1) := by decide +kernel
theorem dX10_reads_44 : decode cX10_reads 44 = .ok (.iload_n 2, 1) := by decide +kernel
theorem dX10_reads_45 : decode cX10_reads 45 = .ok (.isub, 1) := by decide +kernel
theorem dX10_reads_46 : decode cX10_reads 46 = .ok (.istore 4, 2) := by decide +kernel
theorem dX10_reads_48 : decode cX10_reads 48 = .ok (.aload_n 0, 1) := by decide +kernel
theorem dX10_reads_49 : decode cX10_reads 49 = .ok (.iload_n 3, 1) := by decide +kernel
theorem dX10_reads_50 : decode cX10_reads 50 = .ok (.iload_n 1, 1) := by decide +kernel
theorem dX10_reads_51 : decode cX10_reads 51 = .ok (.aload_n 0, 1) := by decide +kernel
theorem dX10_reads_52 : decode cX10_reads 52 = .ok (.getfield 134, 3) := by decide +kernel
theorem dX10_reads_55 : decode cX10_reads 55 = .ok (.bipush 24, 2) := by decide +kernel
theorem dX10_reads_57 : decode cX10_reads 57 = .ok (.iaload, 1) := by decide +kernel
theorem dX10_reads_58 : decode cX10_reads 58 = .ok (.iload_n 2, 1) := by decide +kernel
theorem dX10_reads_59 : decode cX10_reads 59 = .ok (.iadd, 1) := by decide +kernel
theorem dX10_reads_60 : decode cX10_reads 60 = .ok (.iload 4, 2) := by decide +kernel
theorem dX10_reads_62 : decode cX10_reads 62 = .ok (.iconst 4, 1) := by decide +kernel
theorem dX10_reads_63 : decode cX10_reads 63 = .ok (.if_icmp .ge 8, 3) := by decide +kernel
theorem dX10_reads_66 : decode cX10_reads 66 = .ok (.iload 4, 2) := by decide +kernel
theorem dX10_reads_68 : decode cX10_reads 68 = .ok (.goto 4, 3) := by decide +kernel
theorem dX10_reads_71 : decode cX10_reads 71 = .ok (.iconst 4, 1) := by decide +kernel
theorem dX10_reads_72 : decode cX10_reads 72 = .ok (.invokevirtual 203, 3) := by decide +kernel
theorem dX10_reads_75 : decode cX10_reads 75 = .ok (.iinc 2 4, 3) := by decide +kernel
theorem dX10_reads_78 : decode cX10_reads 78 = .ok (.goto (-76), 3) := by decide +kernel
theorem dX10_reads_81 : decode cX10_reads 81 = .ok (.return_, 1) := by decide +kernel
set_option maxHeartbeats 8000000 in
set_option maxRecDepth 100000 in
theorem u_X10_reads (l : Launch) (E : EE) (z0 : Nat) (G : Nat → Nat) (hGz : ∀ q, G q ≠ 0 → z0 ≤ q) (h0 : Nat) (rf : Nat → Nat) (hR : MG G h0 rf) (t0 t1 t2 : Int32) (A : AA) (cd pk : Int32) (p0 : Int32) (hI7 : I7 (A 41) (A 42) (A 44) (A 45) (A 46)) (hy0 : 0 ≤ p0.toInt ∧ p0.toInt ≤ 3) (hy1 : 0 ≤ pk.toInt ∧ pk.toInt ≤ 24) (hy2 : 0 ≤ ((A 46) 24).toInt ∧ ((A 46) 24).toInt + ((A 44) 24).toInt ≤ 32) : Met l yX10_reads [Cond.code yX10_reads cX10_reads 5 none] ({ frames := 2, cells := 0, slots := 0, locals := 47 } : Room) (va_Pc [.ref h0, .int p0] (fun U => MH E h0 rf t0 t1 t2 A cd pk U.heap ∧ KS E z0 U)) (va_Qv (fun (u : (Nat → Int32) × (Nat → Int32) × (Nat → Int32) × (Nat → Int32) × (Nat → Int32) × (Nat → Int32) × (Nat → Int32) × (Nat → Int32) × Int32) => (I7 (u.1) (u.2.1) (u.2.2.2.1) (u.2.2.2.2.1) (u.2.2.2.2.2.1)) ∧ (0 ≤ (u.2.2.2.2.2.2.2.2).toInt ∧ (u.2.2.2.2.2.2.2.2).toInt ≤ 24)) (fun u t => MH E h0 rf t0 t1 t2 (uA (uA (uA (uA (uA (uA (uA (uA A 41 (u.1)) 42 (u.2.1)) 43 (u.2.2.1)) 44 (u.2.2.2.1)) 45 (u.2.2.2.2.1)) 46 (u.2.2.2.2.2.1)) 47 (u.2.2.2.2.2.2.1)) 48 (u.2.2.2.2.2.2.2.1)) cd (u.2.2.2.2.2.2.2.2) t.heap) (fun q : Nat => G q ≠ 0)) 0 0 (fun q : Nat => G q ≠ 0) := by
  refine Met.ofW (cc := cX10_reads) (maxL := 5) (ret := none) (by decide) rfl ?_
  intro p e s m args below meth c s₁ B hml hv
  obtain ⟨rfl, hM, hK⟩ := hv
  have hx := B.exec
  have hb := B.bytes
  have hr := B.returns
  have hts : ∀ w ∈ TS, w.before ([.ref h0, .int p0] : List Value).toArray s = true := fun w hw => hK.2.1 w hw _
  have hown : s.vm.findClass RX10 = some m.cls := findClass_of_methodNamed B.named
  have hlocks := B.notSynchronized
  have hS : va_S (fun q : Nat => G q ≠ 0) s.heap s.heap [] := va_S.rf
  have hAz : ∀ q, (fun q : Nat => G q ≠ 0) q → z0 ≤ q := hGz
  have hl := lv_entry ([.ref h0, .int p0]) (n := 5) (Nat.le_of_ble_eq_true rfl)
  rw [lg_entry_eq]
  generalize (lg_sl ([.ref h0, .int p0]) ++ List.replicate (5 - (lg_sl ([.ref h0, .int p0])).length) Slot.unset).toArray = ls at hl ⊢
  have hl : lv_has ls 5 [(0, .ref h0), (1, .int p0)] := hl
  refine lv_iconst (v := 0) hx hb dX10_reads_0 (by decide) ?_
  refine lv_istore_n (lv' := [(2, .int 0), (0, .ref h0), (1, .int p0)]) hx hb dX10_reads_1 rfl hl (by decide) rfl (fun ls hl => ?_)
  refine lv_iload_n hx hb dX10_reads_2 rfl (lv_at hl 0 rfl) ?_
  refine lv_aload_n hx hb dX10_reads_3 rfl (lv_at hl 1 rfl) ?_
  refine va_get (D := DG E) (ci := 10) (v := .ref (rf 44)) (C := RX10) (T := TX10) (N := 49) hx hb hts iw_X10 hown hK.1 (va_one hM.1) 0 rfl rfl 44 (by decide) (hts _ fl_X10_128) (fun _ h9 => h9) rfl dX10_reads_4 ?_
  refine lv_bipush (v := 24) hx hb dX10_reads_7 (by decide) ?_
  have ha_1 : va_at (DG E) vwCl (rf 44, .inl (E.2.2 0, 25, .inl (A 44))) _ := hM.2 44 (by decide) (by decide) (by decide)
  refine va_iald (D := DG E) hx hb hK.1 (va_one ha_1) 0 0 rfl rfl (show vp_in (24) 25 from vp_in_iff.mpr ⟨by decide, by decide⟩) dX10_reads_9 ?_
  refine W.eq (g2 := F0 m 10 ls [.int ((A 44) 24), .int 0]) (by rfl) ?_
  have q_2 : 0 ≤ ((A 41) 24).toInt ∧ ((A 41) 24).toInt ≤ 3 ∧ 0 ≤ ((A 44) 24).toInt ∧ ((A 44) 24).toInt ≤ 12 ∧ (((A 42) 24).toInt ≠ 0 ∧ ((A 42) 24).toInt ≠ 1 ∧ ((A 42) 24).toInt ≠ 4 ∨ ((A 44) 24).toInt ≤ 4) ∧ (((A 42) 24).toInt < 1 ∨ 3 < ((A 42) 24).toInt ∨ (0 ≤ ((A 45) 24).toInt ∧ ((A 45) 24).toInt ≤ 5)) ∧ -1 ≤ ((A 46) 24).toInt ∧ ((A 46) 24).toInt ≤ 60 := hI7 24 (by omega)
  refine lv_icmp_ge (tgt := 81) hx hb dX10_reads_10 (by decide) (fun c_3 => ?_) (fun c_3 => ?_)
  · simp only [lt_I, le_I, eq_I, i_0, i_1, i_2, i_3, i_4, i_5, i_6, i_7, i_8, i_10, i_12, i_16, i_20, i_23, i_24, i_31, i_32, i_63, i_64, i_m1, i_9, i_11, i_13, i_25, i_60, i_75, i_79, i_80, i_96, i_100] at c_3
    exact W.vret hx hb hr (fun t ht hW => ⟨⟨((A 41), (A 42), (A 43), (A 44), (A 45), (A 46), (A 47), (A 48), pk), rfl, ⟨hI7, (by show 0 ≤ pk.toInt ∧ pk.toInt ≤ 24; omega)⟩, (by show MH E h0 rf t0 t1 t2 (uA (uA (uA (uA (uA (uA (uA (uA A 41 (A 41)) 42 (A 42)) 43 (A 43)) 44 (A 44)) 45 (A 45)) 46 (A 46)) 47 (A 47)) 48 (A 48)) cd pk t.heap; rw [ht]; exact hM.cg (fun k => by simp only [uA]; (repeat' split) <;> first | rfl | (exfalso; omega) | (simp_all; done)))⟩, hS.F ht⟩) hS.2.2 dX10_reads_81
  · simp only [lt_I, le_I, eq_I, i_0, i_1, i_2, i_3, i_4, i_5, i_6, i_7, i_8, i_10, i_12, i_16, i_20, i_23, i_24, i_31, i_32, i_63, i_64, i_m1, i_9, i_11, i_13, i_25, i_60, i_75, i_79, i_80, i_96, i_100] at c_3
    refine lv_aload_n hx hb dX10_reads_13 rfl (lv_at hl 1 rfl) ?_
    refine lv_iload_n hx hb dX10_reads_14 rfl (lv_at hl 2 rfl) ?_
    refine lv_iconst (v := 4) hx hb dX10_reads_15 (by decide) ?_
    refine lv_aload_n hx hb dX10_reads_16 rfl (lv_at hl 1 rfl) ?_
    refine va_get (D := DG E) (ci := 10) (v := .ref (rf 43)) (C := RX10) (T := TX10) (N := 49) hx hb hts iw_X10 hown hK.1 (va_one hM.1) 0 rfl rfl 43 (by decide) (hts _ fl_X10_125) (fun _ h9 => h9) rfl dX10_reads_17 ?_
    refine lv_bipush (v := 24) hx hb dX10_reads_20 (by decide) ?_
    have ha_4 : va_at (DG E) vwCl (rf 43, .inl (E.2.2 0, 25, .inl (A 43))) _ := hM.2 43 (by decide) (by decide) (by decide)
    refine va_iald (D := DG E) hx hb hK.1 (va_one ha_4) 0 0 rfl rfl (show vp_in (24) 25 from vp_in_iff.mpr ⟨by decide, by decide⟩) dX10_reads_22 ?_
    refine W.eq (g2 := F0 m 23 ls [.int ((A 43) 24), .int 4, .int p0, .ref h0]) (by rfl) ?_
    refine lv_iload_n hx hb dX10_reads_23 rfl (lv_at hl 0 rfl) ?_
    refine lv_iconst (v := 4) hx hb dX10_reads_24 (by decide) ?_
    refine lv_idiv hx hb dX10_reads_25 (by decide) ?_
    refine W.eq (g2 := F0 m 26 ls [.int 0, .int ((A 43) 24), .int 4, .int p0, .ref h0]) (by rfl) ?_
    refine lv_iadd hx hb dX10_reads_26 ?_
    refine lv_topi (fun x_5 ex_5 => ?_)
    refine lv_bipush (v := 64) hx hb dX10_reads_27 (by decide) ?_
    refine lv_irem hx hb dX10_reads_29 (by decide) ?_
    refine lv_topi (fun x_6 ex_6 => ?_)
    refine lv_iconst (v := (-1)) hx hb dX10_reads_30 (by decide) ?_
    refine lv_iconst (v := (-1)) hx hb dX10_reads_31 (by decide) ?_
    refine lv_iconst (v := 0) hx hb dX10_reads_32 (by decide) ?_
    refine va_calli (rnV (fun H => MH E h0 rf t0 t1 t2 A cd pk H) (As := [.int p0, .int 4, .int x_6, .int (-1), .int (-1), .int 0]) (rest := []) ⟨hx, hb, hml, hown, hts⟩ (u_X10_emit l E z0 G hGz h0 rf hR t0 t1 t2 A cd pk p0 4 x_6 (-1) (-1) 0 hI7 (by have := i_m1; have := i_0; have := i_4; first | omega | decide) (by have := i_m1; have := i_0; have := i_4; first | omega | decide) (by have := i_m1; have := i_0; have := i_4; first | omega | decide) (by have := i_m1; have := i_0; have := i_4; first | omega | decide)) (cwV 6 hts (gdV ml_X10_199 im_X10_emit se_X10_X10_emit in_X10 co_X10_emit rfl) rfl rfl rfl (by decide +kernel) ⟨Nat.le_of_ble_eq_true rfl, Nat.le_of_ble_eq_true rfl⟩) hM (fun U hU hW => hK.go hW hS hAz hU) (va_recv hK.1 (va_one hM.1) (ci := 10) (q0 := 0) rfl rfl) rfl rfl hl.1 rfl (lv_room (Nat.le_of_ble_eq_true rfl)) dX10_reads_33 ⟨Nat.le_of_ble_eq_true rfl, Nat.le_of_ble_eq_true rfl⟩) hS (fun q _ h => h) (fun q h => h) (fun r_7 ur_7 t H locs ht hvm hwr_7 hB hz hk hS => ?_)
    have hM : MH E h0 rf t0 t1 t2 (uA (uA (uA (uA (uA (uA (uA A 41 (ur_7.1)) 42 (ur_7.2.1)) 43 (ur_7.2.2.1)) 44 (ur_7.2.2.2.1)) 45 (ur_7.2.2.2.2.1)) 46 (ur_7.2.2.2.2.2.1)) 47 (ur_7.2.2.2.2.2.2.1)) cd ur_7.2.2.2.2.2.2.2 H := by rw [ht] at hB; exact hB
    have hpr_7_0 : I7 (ur_7.1) (ur_7.2.1) (ur_7.2.2.2.1) (ur_7.2.2.2.2.1) (ur_7.2.2.2.2.2.1) := hwr_7.1
    have hpr_7_1 : 0 ≤ ur_7.2.2.2.2.2.2.2.toInt ∧ ur_7.2.2.2.2.2.2.2.toInt ≤ 24 := hwr_7.2.1
    have hpr_7_2 : -1 ≤ r_7.toInt ∧ r_7.toInt ≤ 23 := hwr_7.2.2.1
    have hpr_7_3 : ∀ n : Nat, (n : Int) = r_7.toInt → (ur_7.2.1) n = (4 : Int32) := hwr_7.2.2.2.1
    have hpr_7_4 : ((ur_7.2.2.2.1) 24).toInt = ((A 44) 24).toInt ∧ ((ur_7.2.2.2.2.2.1) 24).toInt = ((A 46) 24).toInt := hwr_7.2.2.2.2
    have := i_m1
    have := i_0
    have := i_4
    refine lv_istore_n (lv' := [(3, .int r_7), (2, .int 0), (0, .ref h0), (1, .int p0)]) hx hb dX10_reads_36 rfl hl (by decide) rfl (fun ls hl => ?_)
    refine lv_aload_n hx hb dX10_reads_37 rfl (lv_at hl 2 rfl) ?_
    refine va_get (D := DG E) (ci := 10) (v := .ref (rf 44)) (C := RX10) (T := TX10) (N := 49) hx hb hts iw_X10 hown hK.1 (va_one hM.1) 0 rfl rfl 44 (by decide) (hts _ fl_X10_128) (fun _ h9 => h9) rfl dX10_reads_38 ?_
    refine lv_bipush (v := 24) hx hb dX10_reads_41 (by decide) ?_
    have ha_8 : va_at (DG E) vwCl (rf 44, .inl (E.2.2 0, 25, .inl (ur_7.2.2.2.1))) _ := hM.2 44 (by decide) (by decide) (by decide)
    refine va_iald (D := DG E) hx hb hK.1 (va_one ha_8) 0 0 rfl rfl (show vp_in (24) 25 from vp_in_iff.mpr ⟨by decide, by decide⟩) dX10_reads_43 ?_
    refine W.eq (g2 := F0 m 44 ls [.int ((ur_7.2.2.2.1) 24)]) (by rfl) ?_
    have q_9 : 0 ≤ ((ur_7.1) 24).toInt ∧ ((ur_7.1) 24).toInt ≤ 3 ∧ 0 ≤ ((ur_7.2.2.2.1) 24).toInt ∧ ((ur_7.2.2.2.1) 24).toInt ≤ 12 ∧ (((ur_7.2.1) 24).toInt ≠ 0 ∧ ((ur_7.2.1) 24).toInt ≠ 1 ∧ ((ur_7.2.1) 24).toInt ≠ 4 ∨ ((ur_7.2.2.2.1) 24).toInt ≤ 4) ∧ (((ur_7.2.1) 24).toInt < 1 ∨ 3 < ((ur_7.2.1) 24).toInt ∨ (0 ≤ ((ur_7.2.2.2.2.1) 24).toInt ∧ ((ur_7.2.2.2.2.1) 24).toInt ≤ 5)) ∧ -1 ≤ ((ur_7.2.2.2.2.2.1) 24).toInt ∧ ((ur_7.2.2.2.2.2.1) 24).toInt ≤ 60 := hpr_7_0 24 (by omega)
    refine lv_iload_n hx hb dX10_reads_44 rfl (lv_at hl 1 rfl) ?_
    refine lv_isub hx hb dX10_reads_45 ?_
    refine lv_topi (fun x_10 ex_10 => ?_)
    have fx_10 : x_10.toInt = ((ur_7.2.2.2.1) 24).toInt - 0 := by have h9 := s_sub (x := ((ur_7.2.2.2.1) 24)) (y := 0) (by rw [i_0]; omega) (by rw [i_0]; omega); rw [i_0] at h9; rw [ex_10]; exact h9
    refine lv_istore (lv' := [(4, .int x_10), (3, .int r_7), (2, .int 0), (0, .ref h0), (1, .int p0)]) hx hb dX10_reads_46 hl (by decide) rfl (fun ls hl => ?_)
    refine lv_aload_n hx hb dX10_reads_48 rfl (lv_at hl 3 rfl) ?_
    refine lv_iload_n hx hb dX10_reads_49 rfl (lv_at hl 1 rfl) ?_
    refine lv_iload_n hx hb dX10_reads_50 rfl (lv_at hl 4 rfl) ?_
    refine lv_aload_n hx hb dX10_reads_51 rfl (lv_at hl 3 rfl) ?_
    refine va_get (D := DG E) (ci := 10) (v := .ref (rf 46)) (C := RX10) (T := TX10) (N := 49) hx hb hts iw_X10 hown hK.1 (va_one hM.1) 0 rfl rfl 46 (by decide) (hts _ fl_X10_134) (fun _ h9 => h9) rfl dX10_reads_52 ?_
    refine lv_bipush (v := 24) hx hb dX10_reads_55 (by decide) ?_
    have ha_11 : va_at (DG E) vwCl (rf 46, .inl (E.2.2 0, 25, .inl (ur_7.2.2.2.2.2.1))) _ := hM.2 46 (by decide) (by decide) (by decide)
    refine va_iald (D := DG E) hx hb hK.1 (va_one ha_11) 0 0 rfl rfl (show vp_in (24) 25 from vp_in_iff.mpr ⟨by decide, by decide⟩) dX10_reads_57 ?_
    refine W.eq (g2 := F0 m 58 ls [.int ((ur_7.2.2.2.2.2.1) 24), .int p0, .int r_7, .ref h0]) (by rfl) ?_
    refine lv_iload_n hx hb dX10_reads_58 rfl (lv_at hl 2 rfl) ?_
    refine lv_iadd hx hb dX10_reads_59 ?_
    refine lv_topi (fun x_12 ex_12 => ?_)
    have fx_12 : x_12.toInt = ((ur_7.2.2.2.2.2.1) 24).toInt + 0 := by have h9 := s_add (x := ((ur_7.2.2.2.2.2.1) 24)) (y := 0) (by rw [i_0]; omega) (by rw [i_0]; omega); rw [i_0] at h9; rw [ex_12]; exact h9
    refine lv_iload hx hb dX10_reads_60 (lv_at hl 0 rfl) ?_
    refine lv_iconst (v := 4) hx hb dX10_reads_62 (by decide) ?_
    refine lv_icmp_ge (tgt := 71) hx hb dX10_reads_63 (by decide) (fun c_13 => ?_) (fun c_13 => ?_)
    · simp only [lt_I, le_I, eq_I, i_0, i_1, i_2, i_3, i_4, i_5, i_6, i_7, i_8, i_10, i_12, i_16, i_20, i_23, i_24, i_31, i_32, i_63, i_64, i_m1, i_9, i_11, i_13, i_25, i_60, i_75, i_79, i_80, i_96, i_100] at c_13
      refine lv_iconst (v := 4) hx hb dX10_reads_71 (by decide) ?_
      refine va_callv (rnV (fun H => MH E h0 rf t0 t1 t2 (uA (uA (uA (uA (uA (uA (uA A 41 (ur_7.1)) 42 (ur_7.2.1)) 43 (ur_7.2.2.1)) 44 (ur_7.2.2.2.1)) 45 (ur_7.2.2.2.2.1)) 46 (ur_7.2.2.2.2.2.1)) 47 (ur_7.2.2.2.2.2.2.1)) cd ur_7.2.2.2.2.2.2.2 H) (As := [.int r_7, .int p0, .int x_12, .int 4]) (rest := []) ⟨hx, hb, hml, hown, hts⟩ (u_X10_load l E z0 G hGz h0 rf hR t0 t1 t2 (uA (uA (uA (uA (uA (uA (uA A 41 (ur_7.1)) 42 (ur_7.2.1)) 43 (ur_7.2.2.1)) 44 (ur_7.2.2.2.1)) 45 (ur_7.2.2.2.2.1)) 46 (ur_7.2.2.2.2.2.1)) 47 (ur_7.2.2.2.2.2.2.1)) cd ur_7.2.2.2.2.2.2.2 r_7 p0 x_12 4 hpr_7_0 (by have := i_4; first | omega | decide) (by have := i_4; first | omega | decide) (by have := i_4; first | omega | decide) (by have := i_4; first | omega | decide) (by have := i_4; first | omega | decide)) (cwV 4 hts (gdV ml_X10_203 im_X10_load se_X10_X10_load in_X10 co_X10_load rfl) rfl rfl rfl (by decide +kernel) ⟨Nat.le_of_ble_eq_true rfl, Nat.le_of_ble_eq_true rfl⟩) hM (fun U hU hW => hK.go hW hS hAz hU) (va_recv hK.1 (va_one hM.1) (ci := 10) (q0 := 0) rfl rfl) rfl rfl hl.1 rfl (lv_room (Nat.le_of_ble_eq_true rfl)) dX10_reads_72 ⟨Nat.le_of_ble_eq_true rfl, Nat.le_of_ble_eq_true rfl⟩) hS (fun q _ h => h) (fun q h => h) (fun ur_14 t H locs ht hvm hwr_14 hB hz hk hS => ?_)
      have hM : MH E h0 rf t0 t1 t2 (uA (uA (uA (uA (uA (uA (uA (uA (uA A 41 (ur_7.1)) 42 (ur_7.2.1)) 43 (ur_7.2.2.1)) 44 (ur_7.2.2.2.1)) 45 (ur_7.2.2.2.2.1)) 46 (ur_7.2.2.2.2.2.1)) 47 (ur_7.2.2.2.2.2.2.1)) 44 (ur_14.1)) 48 (ur_14.2)) cd ur_7.2.2.2.2.2.2.2 H := by rw [ht] at hB; exact hB
      have hpr_14_0 : I7 (ur_7.1) (ur_7.2.1) (ur_14.1) (ur_7.2.2.2.2.1) (ur_7.2.2.2.2.2.1) := hwr_14.1
      have hpr_14_1 : ((ur_14.1) 24).toInt = ((ur_7.2.2.2.1) 24).toInt ∧ ((ur_7.2.2.2.2.2.1) 24).toInt = ((ur_7.2.2.2.2.2.1) 24).toInt := hwr_14.2
      have := i_4
      refine lv_iinc (v := 4) (lv' := [(2, .int 4), (4, .int x_10), (3, .int r_7), (0, .ref h0), (1, .int p0)]) hx hb dX10_reads_75 hl (k := 2) rfl (by decide) (by decide) rfl (fun ls hl => ?_)
      refine lv_goto (tgt := 2) hx hb dX10_reads_78 (by decide) ?_
      refine lv_iload_n hx hb dX10_reads_2 rfl (lv_at hl 0 rfl) ?_
      refine lv_aload_n hx hb dX10_reads_3 rfl (lv_at hl 3 rfl) ?_
      refine va_get (D := DG E) (ci := 10) (v := .ref (rf 44)) (C := RX10) (T := TX10) (N := 49) hx hb hts iw_X10 hown hK.1 (va_one hM.1) 0 rfl rfl 44 (by decide) (hts _ fl_X10_128) (fun _ h9 => h9) rfl dX10_reads_4 ?_
      refine lv_bipush (v := 24) hx hb dX10_reads_7 (by decide) ?_
      have ha_15 : va_at (DG E) vwCl (rf 44, .inl (E.2.2 0, 25, .inl (ur_14.1))) _ := hM.2 44 (by decide) (by decide) (by decide)
      refine va_iald (D := DG E) hx hb hK.1 (va_one ha_15) 0 0 rfl rfl (show vp_in (24) 25 from vp_in_iff.mpr ⟨by decide, by decide⟩) dX10_reads_9 ?_
      refine W.eq (g2 := F0 m 10 ls [.int ((ur_14.1) 24), .int 4]) (by rfl) ?_
      have q_16 : 0 ≤ ((ur_7.1) 24).toInt ∧ ((ur_7.1) 24).toInt ≤ 3 ∧ 0 ≤ ((ur_14.1) 24).toInt ∧ ((ur_14.1) 24).toInt ≤ 12 ∧ (((ur_7.2.1) 24).toInt ≠ 0 ∧ ((ur_7.2.1) 24).toInt ≠ 1 ∧ ((ur_7.2.1) 24).toInt ≠ 4 ∨ ((ur_14.1) 24).toInt ≤ 4) ∧ (((ur_7.2.1) 24).toInt < 1 ∨ 3 < ((ur_7.2.1) 24).toInt ∨ (0 ≤ ((ur_7.2.2.2.2.1) 24).toInt ∧ ((ur_7.2.2.2.2.1) 24).toInt ≤ 5)) ∧ -1 ≤ ((ur_7.2.2.2.2.2.1) 24).toInt ∧ ((ur_7.2.2.2.2.2.1) 24).toInt ≤ 60 := hpr_14_0 24 (by omega)
      refine lv_icmp_ge (tgt := 81) hx hb dX10_reads_10 (by decide) (fun c_17 => ?_) (fun c_17 => ?_)
      · simp only [lt_I, le_I, eq_I, i_0, i_1, i_2, i_3, i_4, i_5, i_6, i_7, i_8, i_10, i_12, i_16, i_20, i_23, i_24, i_31, i_32, i_63, i_64, i_m1, i_9, i_11, i_13, i_25, i_60, i_75, i_79, i_80, i_96, i_100] at c_17
        exact W.vret hx hb hr (fun t ht hW => ⟨⟨((ur_7.1), (ur_7.2.1), (ur_7.2.2.1), (ur_14.1), (ur_7.2.2.2.2.1), (ur_7.2.2.2.2.2.1), (ur_7.2.2.2.2.2.2.1), (ur_14.2), ur_7.2.2.2.2.2.2.2), rfl, ⟨hpr_14_0, (by show 0 ≤ ur_7.2.2.2.2.2.2.2.toInt ∧ ur_7.2.2.2.2.2.2.2.toInt ≤ 24; omega)⟩, (by show MH E h0 rf t0 t1 t2 (uA (uA (uA (uA (uA (uA (uA (uA A 41 (ur_7.1)) 42 (ur_7.2.1)) 43 (ur_7.2.2.1)) 44 (ur_14.1)) 45 (ur_7.2.2.2.2.1)) 46 (ur_7.2.2.2.2.2.1)) 47 (ur_7.2.2.2.2.2.2.1)) 48 (ur_14.2)) cd ur_7.2.2.2.2.2.2.2 t.heap; rw [ht]; exact hM.cg (fun k => by simp only [uA]; (repeat' split) <;> first | rfl | (exfalso; omega) | (simp_all; done)))⟩, hS.F ht⟩) hS.2.2 dX10_reads_81
      · simp only [lt_I, le_I, eq_I, i_0, i_1, i_2, i_3, i_4, i_5, i_6, i_7, i_8, i_10, i_12, i_16, i_20, i_23, i_24, i_31, i_32, i_63, i_64, i_m1, i_9, i_11, i_13, i_25, i_60, i_75, i_79, i_80, i_96, i_100] at c_17
        refine lv_aload_n hx hb dX10_reads_13 rfl (lv_at hl 3 rfl) ?_
        refine lv_iload_n hx hb dX10_reads_14 rfl (lv_at hl 4 rfl) ?_
        refine lv_iconst (v := 4) hx hb dX10_reads_15 (by decide) ?_
        refine lv_aload_n hx hb dX10_reads_16 rfl (lv_at hl 3 rfl) ?_
        refine va_get (D := DG E) (ci := 10) (v := .ref (rf 43)) (C := RX10) (T := TX10) (N := 49) hx hb hts iw_X10 hown hK.1 (va_one hM.1) 0 rfl rfl 43 (by decide) (hts _ fl_X10_125) (fun _ h9 => h9) rfl dX10_reads_17 ?_
        refine lv_bipush (v := 24) hx hb dX10_reads_20 (by decide) ?_
        have ha_18 : va_at (DG E) vwCl (rf 43, .inl (E.2.2 0, 25, .inl (ur_7.2.2.1))) _ := hM.2 43 (by decide) (by decide) (by decide)
        refine va_iald (D := DG E) hx hb hK.1 (va_one ha_18) 0 0 rfl rfl (show vp_in (24) 25 from vp_in_iff.mpr ⟨by decide, by decide⟩) dX10_reads_22 ?_
        refine W.eq (g2 := F0 m 23 ls [.int ((ur_7.2.2.1) 24), .int 4, .int p0, .ref h0]) (by rfl) ?_
        refine lv_iload_n hx hb dX10_reads_23 rfl (lv_at hl 0 rfl) ?_
        refine lv_iconst (v := 4) hx hb dX10_reads_24 (by decide) ?_
        refine lv_idiv hx hb dX10_reads_25 (by decide) ?_
        refine W.eq (g2 := F0 m 26 ls [.int 1, .int ((ur_7.2.2.1) 24), .int 4, .int p0, .ref h0]) (by rfl) ?_
        refine lv_iadd hx hb dX10_reads_26 ?_
        refine lv_topi (fun x_19 ex_19 => ?_)
        refine lv_bipush (v := 64) hx hb dX10_reads_27 (by decide) ?_
        refine lv_irem hx hb dX10_reads_29 (by decide) ?_
        refine lv_topi (fun x_20 ex_20 => ?_)
        refine lv_iconst (v := (-1)) hx hb dX10_reads_30 (by decide) ?_
        refine lv_iconst (v := (-1)) hx hb dX10_reads_31 (by decide) ?_
        refine lv_iconst (v := 0) hx hb dX10_reads_32 (by decide) ?_
        refine va_calli (rnV (fun H => MH E h0 rf t0 t1 t2 (uA (uA (uA (uA (uA (uA (uA (uA (uA A 41 (ur_7.1)) 42 (ur_7.2.1)) 43 (ur_7.2.2.1)) 44 (ur_7.2.2.2.1)) 45 (ur_7.2.2.2.2.1)) 46 (ur_7.2.2.2.2.2.1)) 47 (ur_7.2.2.2.2.2.2.1)) 44 (ur_14.1)) 48 (ur_14.2)) cd ur_7.2.2.2.2.2.2.2 H) (As := [.int p0, .int 4, .int x_20, .int (-1), .int (-1), .int 0]) (rest := []) ⟨hx, hb, hml, hown, hts⟩ (u_X10_emit l E z0 G hGz h0 rf hR t0 t1 t2 (uA (uA (uA (uA (uA (uA (uA (uA (uA A 41 (ur_7.1)) 42 (ur_7.2.1)) 43 (ur_7.2.2.1)) 44 (ur_7.2.2.2.1)) 45 (ur_7.2.2.2.2.1)) 46 (ur_7.2.2.2.2.2.1)) 47 (ur_7.2.2.2.2.2.2.1)) 44 (ur_14.1)) 48 (ur_14.2)) cd ur_7.2.2.2.2.2.2.2 p0 4 x_20 (-1) (-1) 0 hpr_14_0 (by have := i_m1; have := i_0; have := i_4; first | omega | decide) (by have := i_m1; have := i_0; have := i_4; first | omega | decide) (by have := i_m1; have := i_0; have := i_4; first | omega | decide) (by have := i_m1; have := i_0; have := i_4; first | omega | decide)) (cwV 6 hts (gdV ml_X10_199 im_X10_emit se_X10_X10_emit in_X10 co_X10_emit rfl) rfl rfl rfl (by decide +kernel) ⟨Nat.le_of_ble_eq_true rfl, Nat.le_of_ble_eq_true rfl⟩) hM (fun U hU hW => hK.go hW hS hAz hU) (va_recv hK.1 (va_one hM.1) (ci := 10) (q0 := 0) rfl rfl) rfl rfl hl.1 rfl (lv_room (Nat.le_of_ble_eq_true rfl)) dX10_reads_33 ⟨Nat.le_of_ble_eq_true rfl, Nat.le_of_ble_eq_true rfl⟩) hS (fun q _ h => h) (fun q h => h) (fun r_21 ur_21 t H locs ht hvm hwr_21 hB hz hk hS => ?_)
        have hM : MH E h0 rf t0 t1 t2 (uA (uA (uA (uA (uA (uA (uA (uA (uA (uA (uA (uA (uA (uA (uA (uA A 41 (ur_7.1)) 42 (ur_7.2.1)) 43 (ur_7.2.2.1)) 44 (ur_7.2.2.2.1)) 45 (ur_7.2.2.2.2.1)) 46 (ur_7.2.2.2.2.2.1)) 47 (ur_7.2.2.2.2.2.2.1)) 44 (ur_14.1)) 48 (ur_14.2)) 41 (ur_21.1)) 42 (ur_21.2.1)) 43 (ur_21.2.2.1)) 44 (ur_21.2.2.2.1)) 45 (ur_21.2.2.2.2.1)) 46 (ur_21.2.2.2.2.2.1)) 47 (ur_21.2.2.2.2.2.2.1)) cd ur_21.2.2.2.2.2.2.2 H := by rw [ht] at hB; exact hB
        have hpr_21_0 : I7 (ur_21.1) (ur_21.2.1) (ur_21.2.2.2.1) (ur_21.2.2.2.2.1) (ur_21.2.2.2.2.2.1) := hwr_21.1
        have hpr_21_1 : 0 ≤ ur_21.2.2.2.2.2.2.2.toInt ∧ ur_21.2.2.2.2.2.2.2.toInt ≤ 24 := hwr_21.2.1
        have hpr_21_2 : -1 ≤ r_21.toInt ∧ r_21.toInt ≤ 23 := hwr_21.2.2.1
        have hpr_21_3 : ∀ n : Nat, (n : Int) = r_21.toInt → (ur_21.2.1) n = (4 : Int32) := hwr_21.2.2.2.1
        have hpr_21_4 : ((ur_21.2.2.2.1) 24).toInt = ((ur_14.1) 24).toInt ∧ ((ur_21.2.2.2.2.2.1) 24).toInt = ((ur_7.2.2.2.2.2.1) 24).toInt := hwr_21.2.2.2.2
        have := i_m1
        have := i_0
        have := i_4
        refine lv_istore_n (lv' := [(3, .int r_21), (2, .int 4), (4, .int x_10), (0, .ref h0), (1, .int p0)]) hx hb dX10_reads_36 rfl hl (by decide) rfl (fun ls hl => ?_)
        refine lv_aload_n hx hb dX10_reads_37 rfl (lv_at hl 3 rfl) ?_
        refine va_get (D := DG E) (ci := 10) (v := .ref (rf 44)) (C := RX10) (T := TX10) (N := 49) hx hb hts iw_X10 hown hK.1 (va_one hM.1) 0 rfl rfl 44 (by decide) (hts _ fl_X10_128) (fun _ h9 => h9) rfl dX10_reads_38 ?_
        refine lv_bipush (v := 24) hx hb dX10_reads_41 (by decide) ?_
        have ha_22 : va_at (DG E) vwCl (rf 44, .inl (E.2.2 0, 25, .inl (ur_21.2.2.2.1))) _ := hM.2 44 (by decide) (by decide) (by decide)
        refine va_iald (D := DG E) hx hb hK.1 (va_one ha_22) 0 0 rfl rfl (show vp_in (24) 25 from vp_in_iff.mpr ⟨by decide, by decide⟩) dX10_reads_43 ?_
        refine W.eq (g2 := F0 m 44 ls [.int ((ur_21.2.2.2.1) 24)]) (by rfl) ?_
        have q_23 : 0 ≤ ((ur_21.1) 24).toInt ∧ ((ur_21.1) 24).toInt ≤ 3 ∧ 0 ≤ ((ur_21.2.2.2.1) 24).toInt ∧ ((ur_21.2.2.2.1) 24).toInt ≤ 12 ∧ (((ur_21.2.1) 24).toInt ≠ 0 ∧ ((ur_21.2.1) 24).toInt ≠ 1 ∧ ((ur_21.2.1) 24).toInt ≠ 4 ∨ ((ur_21.2.2.2.1) 24).toInt ≤ 4) ∧ (((ur_21.2.1) 24).toInt < 1 ∨ 3 < ((ur_21.2.1) 24).toInt ∨ (0 ≤ ((ur_21.2.2.2.2.1) 24).toInt ∧ ((ur_21.2.2.2.2.1) 24).toInt ≤ 5)) ∧ -1 ≤ ((ur_21.2.2.2.2.2.1) 24).toInt ∧ ((ur_21.2.2.2.2.2.1) 24).toInt ≤ 60 := hpr_21_0 24 (by omega)
        refine lv_iload_n hx hb dX10_reads_44 rfl (lv_at hl 1 rfl) ?_
        refine lv_isub hx hb dX10_reads_45 ?_
        refine lv_topi (fun x_24 ex_24 => ?_)
        have fx_24 : x_24.toInt = ((ur_21.2.2.2.1) 24).toInt - 4 := by have h9 := s_sub (x := ((ur_21.2.2.2.1) 24)) (y := 4) (by rw [i_4]; omega) (by rw [i_4]; omega); rw [i_4] at h9; rw [ex_24]; exact h9
        refine lv_istore (lv' := [(4, .int x_24), (3, .int r_21), (2, .int 4), (0, .ref h0), (1, .int p0)]) hx hb dX10_reads_46 hl (by decide) rfl (fun ls hl => ?_)
        refine lv_aload_n hx hb dX10_reads_48 rfl (lv_at hl 3 rfl) ?_
        refine lv_iload_n hx hb dX10_reads_49 rfl (lv_at hl 1 rfl) ?_
        refine lv_iload_n hx hb dX10_reads_50 rfl (lv_at hl 4 rfl) ?_
        refine lv_aload_n hx hb dX10_reads_51 rfl (lv_at hl 3 rfl) ?_
        refine va_get (D := DG E) (ci := 10) (v := .ref (rf 46)) (C := RX10) (T := TX10) (N := 49) hx hb hts iw_X10 hown hK.1 (va_one hM.1) 0 rfl rfl 46 (by decide) (hts _ fl_X10_134) (fun _ h9 => h9) rfl dX10_reads_52 ?_
        refine lv_bipush (v := 24) hx hb dX10_reads_55 (by decide) ?_
        have ha_25 : va_at (DG E) vwCl (rf 46, .inl (E.2.2 0, 25, .inl (ur_21.2.2.2.2.2.1))) _ := hM.2 46 (by decide) (by decide) (by decide)
        refine va_iald (D := DG E) hx hb hK.1 (va_one ha_25) 0 0 rfl rfl (show vp_in (24) 25 from vp_in_iff.mpr ⟨by decide, by decide⟩) dX10_reads_57 ?_
        refine W.eq (g2 := F0 m 58 ls [.int ((ur_21.2.2.2.2.2.1) 24), .int p0, .int r_21, .ref h0]) (by rfl) ?_
        refine lv_iload_n hx hb dX10_reads_58 rfl (lv_at hl 2 rfl) ?_
        refine lv_iadd hx hb dX10_reads_59 ?_
        refine lv_topi (fun x_26 ex_26 => ?_)
        have fx_26 : x_26.toInt = ((ur_21.2.2.2.2.2.1) 24).toInt + 4 := by have h9 := s_add (x := ((ur_21.2.2.2.2.2.1) 24)) (y := 4) (by rw [i_4]; omega) (by rw [i_4]; omega); rw [i_4] at h9; rw [ex_26]; exact h9
        refine lv_iload hx hb dX10_reads_60 (lv_at hl 0 rfl) ?_
        refine lv_iconst (v := 4) hx hb dX10_reads_62 (by decide) ?_
        refine lv_icmp_ge (tgt := 71) hx hb dX10_reads_63 (by decide) (fun c_27 => ?_) (fun c_27 => ?_)
        · simp only [lt_I, le_I, eq_I, i_0, i_1, i_2, i_3, i_4, i_5, i_6, i_7, i_8, i_10, i_12, i_16, i_20, i_23, i_24, i_31, i_32, i_63, i_64, i_m1, i_9, i_11, i_13, i_25, i_60, i_75, i_79, i_80, i_96, i_100] at c_27
          refine lv_iconst (v := 4) hx hb dX10_reads_71 (by decide) ?_
          refine va_callv (rnV (fun H => MH E h0 rf t0 t1 t2 (uA (uA (uA (uA (uA (uA (uA (uA (uA (uA (uA (uA (uA (uA (uA (uA A 41 (ur_7.1)) 42 (ur_7.2.1)) 43 (ur_7.2.2.1)) 44 (ur_7.2.2.2.1)) 45 (ur_7.2.2.2.2.1)) 46 (ur_7.2.2.2.2.2.1)) 47 (ur_7.2.2.2.2.2.2.1)) 44 (ur_14.1)) 48 (ur_14.2)) 41 (ur_21.1)) 42 (ur_21.2.1)) 43 (ur_21.2.2.1)) 44 (ur_21.2.2.2.1)) 45 (ur_21.2.2.2.2.1)) 46 (ur_21.2.2.2.2.2.1)) 47 (ur_21.2.2.2.2.2.2.1)) cd ur_21.2.2.2.2.2.2.2 H) (As := [.int r_21, .int p0, .int x_26, .int 4]) (rest := []) ⟨hx, hb, hml, hown, hts⟩ (u_X10_load l E z0 G hGz h0 rf hR t0 t1 t2 (uA (uA (uA (uA (uA (uA (uA (uA (uA (uA (uA (uA (uA (uA (uA (uA A 41 (ur_7.1)) 42 (ur_7.2.1)) 43 (ur_7.2.2.1)) 44 (ur_7.2.2.2.1)) 45 (ur_7.2.2.2.2.1)) 46 (ur_7.2.2.2.2.2.1)) 47 (ur_7.2.2.2.2.2.2.1)) 44 (ur_14.1)) 48 (ur_14.2)) 41 (ur_21.1)) 42 (ur_21.2.1)) 43 (ur_21.2.2.1)) 44 (ur_21.2.2.2.1)) 45 (ur_21.2.2.2.2.1)) 46 (ur_21.2.2.2.2.2.1)) 47 (ur_21.2.2.2.2.2.2.1)) cd ur_21.2.2.2.2.2.2.2 r_21 p0 x_26 4 hpr_21_0 (by have := i_4; first | omega | decide) (by have := i_4; first | omega | decide) (by have := i_4; first | omega | decide) (by have := i_4; first | omega | decide) (by have := i_4; first | omega | decide)) (cwV 4 hts (gdV ml_X10_203 im_X10_load se_X10_X10_load in_X10 co_X10_load rfl) rfl rfl rfl (by decide +kernel) ⟨Nat.le_of_ble_eq_true rfl, Nat.le_of_ble_eq_true rfl⟩) hM (fun U hU hW => hK.go hW hS hAz hU) (va_recv hK.1 (va_one hM.1) (ci := 10) (q0 := 0) rfl rfl) rfl rfl hl.1 rfl (lv_room (Nat.le_of_ble_eq_true rfl)) dX10_reads_72 ⟨Nat.le_of_ble_eq_true rfl, Nat.le_of_ble_eq_true rfl⟩) hS (fun q _ h => h) (fun q h => h) (fun ur_28 t H locs ht hvm hwr_28 hB hz hk hS => ?_)
          have hM : MH E h0 rf t0 t1 t2 (uA (uA (uA (uA (uA (uA (uA (uA (uA (uA (uA (uA (uA (uA (uA (uA (uA (uA A 41 (ur_7.1)) 42 (ur_7.2.1)) 43 (ur_7.2.2.1)) 44 (ur_7.2.2.2.1)) 45 (ur_7.2.2.2.2.1)) 46 (ur_7.2.2.2.2.2.1)) 47 (ur_7.2.2.2.2.2.2.1)) 44 (ur_14.1)) 48 (ur_14.2)) 41 (ur_21.1)) 42 (ur_21.2.1)) 43 (ur_21.2.2.1)) 44 (ur_21.2.2.2.1)) 45 (ur_21.2.2.2.2.1)) 46 (ur_21.2.2.2.2.2.1)) 47 (ur_21.2.2.2.2.2.2.1)) 44 (ur_28.1)) 48 (ur_28.2)) cd ur_21.2.2.2.2.2.2.2 H := by rw [ht] at hB; exact hB
          have hpr_28_0 : I7 (ur_21.1) (ur_21.2.1) (ur_28.1) (ur_21.2.2.2.2.1) (ur_21.2.2.2.2.2.1) := hwr_28.1
          have hpr_28_1 : ((ur_28.1) 24).toInt = ((ur_21.2.2.2.1) 24).toInt ∧ ((ur_21.2.2.2.2.2.1) 24).toInt = ((ur_21.2.2.2.2.2.1) 24).toInt := hwr_28.2
          have := i_4
          refine lv_iinc (v := 8) (lv' := [(2, .int 8), (4, .int x_24), (3, .int r_21), (0, .ref h0), (1, .int p0)]) hx hb dX10_reads_75 hl (k := 2) rfl (by decide) (by decide) rfl (fun ls hl => ?_)
          refine lv_goto (tgt := 2) hx hb dX10_reads_78 (by decide) ?_
          refine lv_iload_n hx hb dX10_reads_2 rfl (lv_at hl 0 rfl) ?_
          refine lv_aload_n hx hb dX10_reads_3 rfl (lv_at hl 3 rfl) ?_
          refine va_get (D := DG E) (ci := 10) (v := .ref (rf 44)) (C := RX10) (T := TX10) (N := 49) hx hb hts iw_X10 hown hK.1 (va_one hM.1) 0 rfl rfl 44 (by decide) (hts _ fl_X10_128) (fun _ h9 => h9) rfl dX10_reads_4 ?_
          refine lv_bipush (v := 24) hx hb dX10_reads_7 (by decide) ?_
          have ha_29 : va_at (DG E) vwCl (rf 44, .inl (E.2.2 0, 25, .inl (ur_28.1))) _ := hM.2 44 (by decide) (by decide) (by decide)
          refine va_iald (D := DG E) hx hb hK.1 (va_one ha_29) 0 0 rfl rfl (show vp_in (24) 25 from vp_in_iff.mpr ⟨by decide, by decide⟩) dX10_reads_9 ?_
          refine W.eq (g2 := F0 m 10 ls [.int ((ur_28.1) 24), .int 8]) (by rfl) ?_
          have q_30 : 0 ≤ ((ur_21.1) 24).toInt ∧ ((ur_21.1) 24).toInt ≤ 3 ∧ 0 ≤ ((ur_28.1) 24).toInt ∧ ((ur_28.1) 24).toInt ≤ 12 ∧ (((ur_21.2.1) 24).toInt ≠ 0 ∧ ((ur_21.2.1) 24).toInt ≠ 1 ∧ ((ur_21.2.1) 24).toInt ≠ 4 ∨ ((ur_28.1) 24).toInt ≤ 4) ∧ (((ur_21.2.1) 24).toInt < 1 ∨ 3 < ((ur_21.2.1) 24).toInt ∨ (0 ≤ ((ur_21.2.2.2.2.1) 24).toInt ∧ ((ur_21.2.2.2.2.1) 24).toInt ≤ 5)) ∧ -1 ≤ ((ur_21.2.2.2.2.2.1) 24).toInt ∧ ((ur_21.2.2.2.2.2.1) 24).toInt ≤ 60 := hpr_28_0 24 (by omega)
          refine lv_icmp_ge (tgt := 81) hx hb dX10_reads_10 (by decide) (fun c_31 => ?_) (fun c_31 => ?_)
          · simp only [lt_I, le_I, eq_I, i_0, i_1, i_2, i_3, i_4, i_5, i_6, i_7, i_8, i_10, i_12, i_16, i_20, i_23, i_24, i_31, i_32, i_63, i_64, i_m1, i_9, i_11, i_13, i_25, i_60, i_75, i_79, i_80, i_96, i_100] at c_31
            exact W.vret hx hb hr (fun t ht hW => ⟨⟨((ur_21.1), (ur_21.2.1), (ur_21.2.2.1), (ur_28.1), (ur_21.2.2.2.2.1), (ur_21.2.2.2.2.2.1), (ur_21.2.2.2.2.2.2.1), (ur_28.2), ur_21.2.2.2.2.2.2.2), rfl, ⟨hpr_28_0, (by show 0 ≤ ur_21.2.2.2.2.2.2.2.toInt ∧ ur_21.2.2.2.2.2.2.2.toInt ≤ 24; omega)⟩, (by show MH E h0 rf t0 t1 t2 (uA (uA (uA (uA (uA (uA (uA (uA A 41 (ur_21.1)) 42 (ur_21.2.1)) 43 (ur_21.2.2.1)) 44 (ur_28.1)) 45 (ur_21.2.2.2.2.1)) 46 (ur_21.2.2.2.2.2.1)) 47 (ur_21.2.2.2.2.2.2.1)) 48 (ur_28.2)) cd ur_21.2.2.2.2.2.2.2 t.heap; rw [ht]; exact hM.cg (fun k => by simp only [uA]; (repeat' split) <;> first | rfl | (exfalso; omega) | (simp_all; done)))⟩, hS.F ht⟩) hS.2.2 dX10_reads_81
          · simp only [lt_I, le_I, eq_I, i_0, i_1, i_2, i_3, i_4, i_5, i_6, i_7, i_8, i_10, i_12, i_16, i_20, i_23, i_24, i_31, i_32, i_63, i_64, i_m1, i_9, i_11, i_13, i_25, i_60, i_75, i_79, i_80, i_96, i_100] at c_31
            refine lv_aload_n hx hb dX10_reads_13 rfl (lv_at hl 3 rfl) ?_
            refine lv_iload_n hx hb dX10_reads_14 rfl (lv_at hl 4 rfl) ?_
            refine lv_iconst (v := 4) hx hb dX10_reads_15 (by decide) ?_
            refine lv_aload_n hx hb dX10_reads_16 rfl (lv_at hl 3 rfl) ?_
            refine va_get (D := DG E) (ci := 10) (v := .ref (rf 43)) (C := RX10) (T := TX10) (N := 49) hx hb hts iw_X10 hown hK.1 (va_one hM.1) 0 rfl rfl 43 (by decide) (hts _ fl_X10_125) (fun _ h9 => h9) rfl dX10_reads_17 ?_
            refine lv_bipush (v := 24) hx hb dX10_reads_20 (by decide) ?_
            have ha_32 : va_at (DG E) vwCl (rf 43, .inl (E.2.2 0, 25, .inl (ur_21.2.2.1))) _ := hM.2 43 (by decide) (by decide) (by decide)
            refine va_iald (D := DG E) hx hb hK.1 (va_one ha_32) 0 0 rfl rfl (show vp_in (24) 25 from vp_in_iff.mpr ⟨by decide, by decide⟩) dX10_reads_22 ?_
            refine W.eq (g2 := F0 m 23 ls [.int ((ur_21.2.2.1) 24), .int 4, .int p0, .ref h0]) (by rfl) ?_
            refine lv_iload_n hx hb dX10_reads_23 rfl (lv_at hl 0 rfl) ?_
            refine lv_iconst (v := 4) hx hb dX10_reads_24 (by decide) ?_
            refine lv_idiv hx hb dX10_reads_25 (by decide) ?_
            refine W.eq (g2 := F0 m 26 ls [.int 2, .int ((ur_21.2.2.1) 24), .int 4, .int p0, .ref h0]) (by rfl) ?_
            refine lv_iadd hx hb dX10_reads_26 ?_
            refine lv_topi (fun x_33 ex_33 => ?_)
            refine lv_bipush (v := 64) hx hb dX10_reads_27 (by decide) ?_
            refine lv_irem hx hb dX10_reads_29 (by decide) ?_
            refine lv_topi (fun x_34 ex_34 => ?_)
            refine lv_iconst (v := (-1)) hx hb dX10_reads_30 (by decide) ?_
            refine lv_iconst (v := (-1)) hx hb dX10_reads_31 (by decide) ?_
            refine lv_iconst (v := 0) hx hb dX10_reads_32 (by decide) ?_
            refine va_calli (rnV (fun H => MH E h0 rf t0 t1 t2 (uA (uA (uA (uA (uA (uA (uA (uA (uA (uA (uA (uA (uA (uA (uA (uA (uA (uA A 41 (ur_7.1)) 42 (ur_7.2.1)) 43 (ur_7.2.2.1)) 44 (ur_7.2.2.2.1)) 45 (ur_7.2.2.2.2.1)) 46 (ur_7.2.2.2.2.2.1)) 47 (ur_7.2.2.2.2.2.2.1)) 44 (ur_14.1)) 48 (ur_14.2)) 41 (ur_21.1)) 42 (ur_21.2.1)) 43 (ur_21.2.2.1)) 44 (ur_21.2.2.2.1)) 45 (ur_21.2.2.2.2.1)) 46 (ur_21.2.2.2.2.2.1)) 47 (ur_21.2.2.2.2.2.2.1)) 44 (ur_28.1)) 48 (ur_28.2)) cd ur_21.2.2.2.2.2.2.2 H) (As := [.int p0, .int 4, .int x_34, .int (-1), .int (-1), .int 0]) (rest := []) ⟨hx, hb, hml, hown, hts⟩ (u_X10_emit l E z0 G hGz h0 rf hR t0 t1 t2 (uA (uA (uA (uA (uA (uA (uA (uA (uA (uA (uA (uA (uA (uA (uA (uA (uA (uA A 41 (ur_7.1)) 42 (ur_7.2.1)) 43 (ur_7.2.2.1)) 44 (ur_7.2.2.2.1)) 45 (ur_7.2.2.2.2.1)) 46 (ur_7.2.2.2.2.2.1)) 47 (ur_7.2.2.2.2.2.2.1)) 44 (ur_14.1)) 48 (ur_14.2)) 41 (ur_21.1)) 42 (ur_21.2.1)) 43 (ur_21.2.2.1)) 44 (ur_21.2.2.2.1)) 45 (ur_21.2.2.2.2.1)) 46 (ur_21.2.2.2.2.2.1)) 47 (ur_21.2.2.2.2.2.2.1)) 44 (ur_28.1)) 48 (ur_28.2)) cd ur_21.2.2.2.2.2.2.2 p0 4 x_34 (-1) (-1) 0 hpr_28_0 (by have := i_m1; have := i_0; have := i_4; first | omega | decide) (by have := i_m1; have := i_0; have := i_4; first | omega | decide) (by have := i_m1; have := i_0; have := i_4; first | omega | decide) (by have := i_m1; have := i_0; have := i_4; first | omega | decide)) (cwV 6 hts (gdV ml_X10_199 im_X10_emit se_X10_X10_emit in_X10 co_X10_emit rfl) rfl rfl rfl (by decide +kernel) ⟨Nat.le_of_ble_eq_true rfl, Nat.le_of_ble_eq_true rfl⟩) hM (fun U hU hW => hK.go hW hS hAz hU) (va_recv hK.1 (va_one hM.1) (ci := 10) (q0 := 0) rfl rfl) rfl rfl hl.1 rfl (lv_room (Nat.le_of_ble_eq_true rfl)) dX10_reads_33 ⟨Nat.le_of_ble_eq_true rfl, Nat.le_of_ble_eq_true rfl⟩) hS (fun q _ h => h) (fun q h => h) (fun r_35 ur_35 t H locs ht hvm hwr_35 hB hz hk hS => ?_)
            have hM : MH E h0 rf t0 t1 t2 (uA (uA (uA (uA (uA (uA (uA (uA (uA (uA (uA (uA (uA (uA (uA (uA (uA (uA (uA (uA (uA (uA (uA (uA (uA A 41 (ur_7.1)) 42 (ur_7.2.1)) 43 (ur_7.2.2.1)) 44 (ur_7.2.2.2.1)) 45 (ur_7.2.2.2.2.1)) 46 (ur_7.2.2.2.2.2.1)) 47 (ur_7.2.2.2.2.2.2.1)) 44 (ur_14.1)) 48 (ur_14.2)) 41 (ur_21.1)) 42 (ur_21.2.1)) 43 (ur_21.2.2.1)) 44 (ur_21.2.2.2.1)) 45 (ur_21.2.2.2.2.1)) 46 (ur_21.2.2.2.2.2.1)) 47 (ur_21.2.2.2.2.2.2.1)) 44 (ur_28.1)) 48 (ur_28.2)) 41 (ur_35.1)) 42 (ur_35.2.1)) 43 (ur_35.2.2.1)) 44 (ur_35.2.2.2.1)) 45 (ur_35.2.2.2.2.1)) 46 (ur_35.2.2.2.2.2.1)) 47 (ur_35.2.2.2.2.2.2.1)) cd ur_35.2.2.2.2.2.2.2 H := by rw [ht] at hB; exact hB
            have hpr_35_0 : I7 (ur_35.1) (ur_35.2.1) (ur_35.2.2.2.1) (ur_35.2.2.2.2.1) (ur_35.2.2.2.2.2.1) := hwr_35.1
            have hpr_35_1 : 0 ≤ ur_35.2.2.2.2.2.2.2.toInt ∧ ur_35.2.2.2.2.2.2.2.toInt ≤ 24 := hwr_35.2.1
            have hpr_35_2 : -1 ≤ r_35.toInt ∧ r_35.toInt ≤ 23 := hwr_35.2.2.1
            have hpr_35_3 : ∀ n : Nat, (n : Int) = r_35.toInt → (ur_35.2.1) n = (4 : Int32) := hwr_35.2.2.2.1
            have hpr_35_4 : ((ur_35.2.2.2.1) 24).toInt = ((ur_28.1) 24).toInt ∧ ((ur_35.2.2.2.2.2.1) 24).toInt = ((ur_21.2.2.2.2.2.1) 24).toInt := hwr_35.2.2.2.2
            have := i_m1
            have := i_0
            have := i_4
            refine lv_istore_n (lv' := [(3, .int r_35), (2, .int 8), (4, .int x_24), (0, .ref h0), (1, .int p0)]) hx hb dX10_reads_36 rfl hl (by decide) rfl (fun ls hl => ?_)
            refine lv_aload_n hx hb dX10_reads_37 rfl (lv_at hl 3 rfl) ?_
            refine va_get (D := DG E) (ci := 10) (v := .ref (rf 44)) (C := RX10) (T := TX10) (N := 49) hx hb hts iw_X10 hown hK.1 (va_one hM.1) 0 rfl rfl 44 (by decide) (hts _ fl_X10_128) (fun _ h9 => h9) rfl dX10_reads_38 ?_
            refine lv_bipush (v := 24) hx hb dX10_reads_41 (by decide) ?_
            have ha_36 : va_at (DG E) vwCl (rf 44, .inl (E.2.2 0, 25, .inl (ur_35.2.2.2.1))) _ := hM.2 44 (by decide) (by decide) (by decide)
            refine va_iald (D := DG E) hx hb hK.1 (va_one ha_36) 0 0 rfl rfl (show vp_in (24) 25 from vp_in_iff.mpr ⟨by decide, by decide⟩) dX10_reads_43 ?_
            refine W.eq (g2 := F0 m 44 ls [.int ((ur_35.2.2.2.1) 24)]) (by rfl) ?_
            have q_37 : 0 ≤ ((ur_35.1) 24).toInt ∧ ((ur_35.1) 24).toInt ≤ 3 ∧ 0 ≤ ((ur_35.2.2.2.1) 24).toInt ∧ ((ur_35.2.2.2.1) 24).toInt ≤ 12 ∧ (((ur_35.2.1) 24).toInt ≠ 0 ∧ ((ur_35.2.1) 24).toInt ≠ 1 ∧ ((ur_35.2.1) 24).toInt ≠ 4 ∨ ((ur_35.2.2.2.1) 24).toInt ≤ 4) ∧ (((ur_35.2.1) 24).toInt < 1 ∨ 3 < ((ur_35.2.1) 24).toInt ∨ (0 ≤ ((ur_35.2.2.2.2.1) 24).toInt ∧ ((ur_35.2.2.2.2.1) 24).toInt ≤ 5)) ∧ -1 ≤ ((ur_35.2.2.2.2.2.1) 24).toInt ∧ ((ur_35.2.2.2.2.2.1) 24).toInt ≤ 60 := hpr_35_0 24 (by omega)
            refine lv_iload_n hx hb dX10_reads_44 rfl (lv_at hl 1 rfl) ?_
            refine lv_isub hx hb dX10_reads_45 ?_
            refine lv_topi (fun x_38 ex_38 => ?_)
            have fx_38 : x_38.toInt = ((ur_35.2.2.2.1) 24).toInt - 8 := by have h9 := s_sub (x := ((ur_35.2.2.2.1) 24)) (y := 8) (by rw [i_8]; omega) (by rw [i_8]; omega); rw [i_8] at h9; rw [ex_38]; exact h9
            refine lv_istore (lv' := [(4, .int x_38), (3, .int r_35), (2, .int 8), (0, .ref h0), (1, .int p0)]) hx hb dX10_reads_46 hl (by decide) rfl (fun ls hl => ?_)
            refine lv_aload_n hx hb dX10_reads_48 rfl (lv_at hl 3 rfl) ?_
            refine lv_iload_n hx hb dX10_reads_49 rfl (lv_at hl 1 rfl) ?_
            refine lv_iload_n hx hb dX10_reads_50 rfl (lv_at hl 4 rfl) ?_
            refine lv_aload_n hx hb dX10_reads_51 rfl (lv_at hl 3 rfl) ?_
            refine va_get (D := DG E) (ci := 10) (v := .ref (rf 46)) (C := RX10) (T := TX10) (N := 49) hx hb hts iw_X10 hown hK.1 (va_one hM.1) 0 rfl rfl 46 (by decide) (hts _ fl_X10_134) (fun _ h9 => h9) rfl dX10_reads_52 ?_
            refine lv_bipush (v := 24) hx hb dX10_reads_55 (by decide) ?_
            have ha_39 : va_at (DG E) vwCl (rf 46, .inl (E.2.2 0, 25, .inl (ur_35.2.2.2.2.2.1))) _ := hM.2 46 (by decide) (by decide) (by decide)
            refine va_iald (D := DG E) hx hb hK.1 (va_one ha_39) 0 0 rfl rfl (show vp_in (24) 25 from vp_in_iff.mpr ⟨by decide, by decide⟩) dX10_reads_57 ?_
            refine W.eq (g2 := F0 m 58 ls [.int ((ur_35.2.2.2.2.2.1) 24), .int p0, .int r_35, .ref h0]) (by rfl) ?_
            refine lv_iload_n hx hb dX10_reads_58 rfl (lv_at hl 2 rfl) ?_
            refine lv_iadd hx hb dX10_reads_59 ?_
            refine lv_topi (fun x_40 ex_40 => ?_)
            have fx_40 : x_40.toInt = ((ur_35.2.2.2.2.2.1) 24).toInt + 8 := by have h9 := s_add (x := ((ur_35.2.2.2.2.2.1) 24)) (y := 8) (by rw [i_8]; omega) (by rw [i_8]; omega); rw [i_8] at h9; rw [ex_40]; exact h9
            refine lv_iload hx hb dX10_reads_60 (lv_at hl 0 rfl) ?_
            refine lv_iconst (v := 4) hx hb dX10_reads_62 (by decide) ?_
            refine lv_icmp_ge (tgt := 71) hx hb dX10_reads_63 (by decide) (fun c_41 => ?_) (fun c_41 => ?_)
            · simp only [lt_I, le_I, eq_I, i_0, i_1, i_2, i_3, i_4, i_5, i_6, i_7, i_8, i_10, i_12, i_16, i_20, i_23, i_24, i_31, i_32, i_63, i_64, i_m1, i_9, i_11, i_13, i_25, i_60, i_75, i_79, i_80, i_96, i_100] at c_41
              refine lv_iconst (v := 4) hx hb dX10_reads_71 (by decide) ?_
              refine va_callv (rnV (fun H => MH E h0 rf t0 t1 t2 (uA (uA (uA (uA (uA (uA (uA (uA (uA (uA (uA (uA (uA (uA (uA (uA (uA (uA (uA (uA (uA (uA (uA (uA (uA A 41 (ur_7.1)) 42 (ur_7.2.1)) 43 (ur_7.2.2.1)) 44 (ur_7.2.2.2.1)) 45 (ur_7.2.2.2.2.1)) 46 (ur_7.2.2.2.2.2.1)) 47 (ur_7.2.2.2.2.2.2.1)) 44 (ur_14.1)) 48 (ur_14.2)) 41 (ur_21.1)) 42 (ur_21.2.1)) 43 (ur_21.2.2.1)) 44 (ur_21.2.2.2.1)) 45 (ur_21.2.2.2.2.1)) 46 (ur_21.2.2.2.2.2.1)) 47 (ur_21.2.2.2.2.2.2.1)) 44 (ur_28.1)) 48 (ur_28.2)) 41 (ur_35.1)) 42 (ur_35.2.1)) 43 (ur_35.2.2.1)) 44 (ur_35.2.2.2.1)) 45 (ur_35.2.2.2.2.1)) 46 (ur_35.2.2.2.2.2.1)) 47 (ur_35.2.2.2.2.2.2.1)) cd ur_35.2.2.2.2.2.2.2 H) (As := [.int r_35, .int p0, .int x_40, .int 4]) (rest := []) ⟨hx, hb, hml, hown, hts⟩ (u_X10_load l E z0 G hGz h0 rf hR t0 t1 t2 (uA (uA (uA (uA (uA (uA (uA (uA (uA (uA (uA (uA (uA (uA (uA (uA (uA (uA (uA (uA (uA (uA (uA (uA (uA A 41 (ur_7.1)) 42 (ur_7.2.1)) 43 (ur_7.2.2.1)) 44 (ur_7.2.2.2.1)) 45 (ur_7.2.2.2.2.1)) 46 (ur_7.2.2.2.2.2.1)) 47 (ur_7.2.2.2.2.2.2.1)) 44 (ur_14.1)) 48 (ur_14.2)) 41 (ur_21.1)) 42 (ur_21.2.1)) 43 (ur_21.2.2.1)) 44 (ur_21.2.2.2.1)) 45 (ur_21.2.2.2.2.1)) 46 (ur_21.2.2.2.2.2.1)) 47 (ur_21.2.2.2.2.2.2.1)) 44 (ur_28.1)) 48 (ur_28.2)) 41 (ur_35.1)) 42 (ur_35.2.1)) 43 (ur_35.2.2.1)) 44 (ur_35.2.2.2.1)) 45 (ur_35.2.2.2.2.1)) 46 (ur_35.2.2.2.2.2.1)) 47 (ur_35.2.2.2.2.2.2.1)) cd ur_35.2.2.2.2.2.2.2 r_35 p0 x_40 4 hpr_35_0 (by have := i_4; first | omega | decide) (by have := i_4; first | omega | decide) (by have := i_4; first | omega | decide) (by have := i_4; first | omega | decide) (by have := i_4; first | omega | decide)) (cwV 4 hts (gdV ml_X10_203 im_X10_load se_X10_X10_load in_X10 co_X10_load rfl) rfl rfl rfl (by decide +kernel) ⟨Nat.le_of_ble_eq_true rfl, Nat.le_of_ble_eq_true rfl⟩) hM (fun U hU hW => hK.go hW hS hAz hU) (va_recv hK.1 (va_one hM.1) (ci := 10) (q0 := 0) rfl rfl) rfl rfl hl.1 rfl (lv_room (Nat.le_of_ble_eq_true rfl)) dX10_reads_72 ⟨Nat.le_of_ble_eq_true rfl, Nat.le_of_ble_eq_true rfl⟩) hS (fun q _ h => h) (fun q h => h) (fun ur_42 t H locs ht hvm hwr_42 hB hz hk hS => ?_)
              have hM : MH E h0 rf t0 t1 t2 (uA (uA (uA (uA (uA (uA (uA (uA (uA (uA (uA (uA (uA (uA (uA (uA (uA (uA (uA (uA (uA (uA (uA (uA (uA (uA (uA A 41 (ur_7.1)) 42 (ur_7.2.1)) 43 (ur_7.2.2.1)) 44 (ur_7.2.2.2.1)) 45 (ur_7.2.2.2.2.1)) 46 (ur_7.2.2.2.2.2.1)) 47 (ur_7.2.2.2.2.2.2.1)) 44 (ur_14.1)) 48 (ur_14.2)) 41 (ur_21.1)) 42 (ur_21.2.1)) 43 (ur_21.2.2.1)) 44 (ur_21.2.2.2.1)) 45 (ur_21.2.2.2.2.1)) 46 (ur_21.2.2.2.2.2.1)) 47 (ur_21.2.2.2.2.2.2.1)) 44 (ur_28.1)) 48 (ur_28.2)) 41 (ur_35.1)) 42 (ur_35.2.1)) 43 (ur_35.2.2.1)) 44 (ur_35.2.2.2.1)) 45 (ur_35.2.2.2.2.1)) 46 (ur_35.2.2.2.2.2.1)) 47 (ur_35.2.2.2.2.2.2.1)) 44 (ur_42.1)) 48 (ur_42.2)) cd ur_35.2.2.2.2.2.2.2 H := by rw [ht] at hB; exact hB
              have hpr_42_0 : I7 (ur_35.1) (ur_35.2.1) (ur_42.1) (ur_35.2.2.2.2.1) (ur_35.2.2.2.2.2.1) := hwr_42.1
              have hpr_42_1 : ((ur_42.1) 24).toInt = ((ur_35.2.2.2.1) 24).toInt ∧ ((ur_35.2.2.2.2.2.1) 24).toInt = ((ur_35.2.2.2.2.2.1) 24).toInt := hwr_42.2
              have := i_4
              refine lv_iinc (v := 12) (lv' := [(2, .int 12), (4, .int x_38), (3, .int r_35), (0, .ref h0), (1, .int p0)]) hx hb dX10_reads_75 hl (k := 2) rfl (by decide) (by decide) rfl (fun ls hl => ?_)
              refine lv_goto (tgt := 2) hx hb dX10_reads_78 (by decide) ?_
              refine lv_iload_n hx hb dX10_reads_2 rfl (lv_at hl 0 rfl) ?_
              refine lv_aload_n hx hb dX10_reads_3 rfl (lv_at hl 3 rfl) ?_
              refine va_get (D := DG E) (ci := 10) (v := .ref (rf 44)) (C := RX10) (T := TX10) (N := 49) hx hb hts iw_X10 hown hK.1 (va_one hM.1) 0 rfl rfl 44 (by decide) (hts _ fl_X10_128) (fun _ h9 => h9) rfl dX10_reads_4 ?_
              refine lv_bipush (v := 24) hx hb dX10_reads_7 (by decide) ?_
              have ha_43 : va_at (DG E) vwCl (rf 44, .inl (E.2.2 0, 25, .inl (ur_42.1))) _ := hM.2 44 (by decide) (by decide) (by decide)
              refine va_iald (D := DG E) hx hb hK.1 (va_one ha_43) 0 0 rfl rfl (show vp_in (24) 25 from vp_in_iff.mpr ⟨by decide, by decide⟩) dX10_reads_9 ?_
              refine W.eq (g2 := F0 m 10 ls [.int ((ur_42.1) 24), .int 12]) (by rfl) ?_
              have q_44 : 0 ≤ ((ur_35.1) 24).toInt ∧ ((ur_35.1) 24).toInt ≤ 3 ∧ 0 ≤ ((ur_42.1) 24).toInt ∧ ((ur_42.1) 24).toInt ≤ 12 ∧ (((ur_35.2.1) 24).toInt ≠ 0 ∧ ((ur_35.2.1) 24).toInt ≠ 1 ∧ ((ur_35.2.1) 24).toInt ≠ 4 ∨ ((ur_42.1) 24).toInt ≤ 4) ∧ (((ur_35.2.1) 24).toInt < 1 ∨ 3 < ((ur_35.2.1) 24).toInt ∨ (0 ≤ ((ur_35.2.2.2.2.1) 24).toInt ∧ ((ur_35.2.2.2.2.1) 24).toInt ≤ 5)) ∧ -1 ≤ ((ur_35.2.2.2.2.2.1) 24).toInt ∧ ((ur_35.2.2.2.2.2.1) 24).toInt ≤ 60 := hpr_42_0 24 (by omega)
              refine lv_icmp_ge (tgt := 81) hx hb dX10_reads_10 (by decide) (fun c_45 => ?_) (fun c_45 => by exfalso; simp only [lt_I, le_I, eq_I, i_0, i_1, i_2, i_3, i_4, i_5, i_6, i_7, i_8, i_10, i_12, i_16, i_20, i_23, i_24, i_31, i_32, i_63, i_64, i_m1, i_9, i_11, i_13, i_25, i_60, i_75, i_79, i_80, i_96, i_100] at c_45; omega)
              simp only [lt_I, le_I, eq_I, i_0, i_1, i_2, i_3, i_4, i_5, i_6, i_7, i_8, i_10, i_12, i_16, i_20, i_23, i_24, i_31, i_32, i_63, i_64, i_m1, i_9, i_11, i_13, i_25, i_60, i_75, i_79, i_80, i_96, i_100] at c_45
              exact W.vret hx hb hr (fun t ht hW => ⟨⟨((ur_35.1), (ur_35.2.1), (ur_35.2.2.1), (ur_42.1), (ur_35.2.2.2.2.1), (ur_35.2.2.2.2.2.1), (ur_35.2.2.2.2.2.2.1), (ur_42.2), ur_35.2.2.2.2.2.2.2), rfl, ⟨hpr_42_0, (by show 0 ≤ ur_35.2.2.2.2.2.2.2.toInt ∧ ur_35.2.2.2.2.2.2.2.toInt ≤ 24; omega)⟩, (by show MH E h0 rf t0 t1 t2 (uA (uA (uA (uA (uA (uA (uA (uA A 41 (ur_35.1)) 42 (ur_35.2.1)) 43 (ur_35.2.2.1)) 44 (ur_42.1)) 45 (ur_35.2.2.2.2.1)) 46 (ur_35.2.2.2.2.2.1)) 47 (ur_35.2.2.2.2.2.2.1)) 48 (ur_42.2)) cd ur_35.2.2.2.2.2.2.2 t.heap; rw [ht]; exact hM.cg (fun k => by simp only [uA]; (repeat' split) <;> first | rfl | (exfalso; omega) | (simp_all; done)))⟩, hS.F ht⟩) hS.2.2 dX10_reads_81
            · simp only [lt_I, le_I, eq_I, i_0, i_1, i_2, i_3, i_4, i_5, i_6, i_7, i_8, i_10, i_12, i_16, i_20, i_23, i_24, i_31, i_32, i_63, i_64, i_m1, i_9, i_11, i_13, i_25, i_60, i_75, i_79, i_80, i_96, i_100] at c_41
              refine lv_iload hx hb dX10_reads_66 (lv_at hl 0 rfl) ?_
              refine lv_goto (tgt := 72) hx hb dX10_reads_68 (by decide) ?_
              refine va_callv (rnV (fun H => MH E h0 rf t0 t1 t2 (uA (uA (uA (uA (uA (uA (uA (uA (uA (uA (uA (uA (uA (uA (uA (uA (uA (uA (uA (uA (uA (uA (uA (uA (uA A 41 (ur_7.1)) 42 (ur_7.2.1)) 43 (ur_7.2.2.1)) 44 (ur_7.2.2.2.1)) 45 (ur_7.2.2.2.2.1)) 46 (ur_7.2.2.2.2.2.1)) 47 (ur_7.2.2.2.2.2.2.1)) 44 (ur_14.1)) 48 (ur_14.2)) 41 (ur_21.1)) 42 (ur_21.2.1)) 43 (ur_21.2.2.1)) 44 (ur_21.2.2.2.1)) 45 (ur_21.2.2.2.2.1)) 46 (ur_21.2.2.2.2.2.1)) 47 (ur_21.2.2.2.2.2.2.1)) 44 (ur_28.1)) 48 (ur_28.2)) 41 (ur_35.1)) 42 (ur_35.2.1)) 43 (ur_35.2.2.1)) 44 (ur_35.2.2.2.1)) 45 (ur_35.2.2.2.2.1)) 46 (ur_35.2.2.2.2.2.1)) 47 (ur_35.2.2.2.2.2.2.1)) cd ur_35.2.2.2.2.2.2.2 H) (As := [.int r_35, .int p0, .int x_40, .int x_38]) (rest := []) ⟨hx, hb, hml, hown, hts⟩ (u_X10_load l E z0 G hGz h0 rf hR t0 t1 t2 (uA (uA (uA (uA (uA (uA (uA (uA (uA (uA (uA (uA (uA (uA (uA (uA (uA (uA (uA (uA (uA (uA (uA (uA (uA A 41 (ur_7.1)) 42 (ur_7.2.1)) 43 (ur_7.2.2.1)) 44 (ur_7.2.2.2.1)) 45 (ur_7.2.2.2.2.1)) 46 (ur_7.2.2.2.2.2.1)) 47 (ur_7.2.2.2.2.2.2.1)) 44 (ur_14.1)) 48 (ur_14.2)) 41 (ur_21.1)) 42 (ur_21.2.1)) 43 (ur_21.2.2.1)) 44 (ur_21.2.2.2.1)) 45 (ur_21.2.2.2.2.1)) 46 (ur_21.2.2.2.2.2.1)) 47 (ur_21.2.2.2.2.2.2.1)) 44 (ur_28.1)) 48 (ur_28.2)) 41 (ur_35.1)) 42 (ur_35.2.1)) 43 (ur_35.2.2.1)) 44 (ur_35.2.2.2.1)) 45 (ur_35.2.2.2.2.1)) 46 (ur_35.2.2.2.2.2.1)) 47 (ur_35.2.2.2.2.2.2.1)) cd ur_35.2.2.2.2.2.2.2 r_35 p0 x_40 x_38 hpr_35_0 (by first | omega | decide) (by first | omega | decide) (by first | omega | decide) (by first | omega | decide) (by first | omega | decide)) (cwV 4 hts (gdV ml_X10_203 im_X10_load se_X10_X10_load in_X10 co_X10_load rfl) rfl rfl rfl (by decide +kernel) ⟨Nat.le_of_ble_eq_true rfl, Nat.le_of_ble_eq_true rfl⟩) hM (fun U hU hW => hK.go hW hS hAz hU) (va_recv hK.1 (va_one hM.1) (ci := 10) (q0 := 0) rfl rfl) rfl rfl hl.1 rfl (lv_room (Nat.le_of_ble_eq_true rfl)) dX10_reads_72 ⟨Nat.le_of_ble_eq_true rfl, Nat.le_of_ble_eq_true rfl⟩) hS (fun q _ h => h) (fun q h => h) (fun ur_46 t H locs ht hvm hwr_46 hB hz hk hS => ?_)
              have hM : MH E h0 rf t0 t1 t2 (uA (uA (uA (uA (uA (uA (uA (uA (uA (uA (uA (uA (uA (uA (uA (uA (uA (uA (uA (uA (uA (uA (uA (uA (uA (uA (uA A 41 (ur_7.1)) 42 (ur_7.2.1)) 43 (ur_7.2.2.1)) 44 (ur_7.2.2.2.1)) 45 (ur_7.2.2.2.2.1)) 46 (ur_7.2.2.2.2.2.1)) 47 (ur_7.2.2.2.2.2.2.1)) 44 (ur_14.1)) 48 (ur_14.2)) 41 (ur_21.1)) 42 (ur_21.2.1)) 43 (ur_21.2.2.1)) 44 (ur_21.2.2.2.1)) 45 (ur_21.2.2.2.2.1)) 46 (ur_21.2.2.2.2.2.1)) 47 (ur_21.2.2.2.2.2.2.1)) 44 (ur_28.1)) 48 (ur_28.2)) 41 (ur_35.1)) 42 (ur_35.2.1)) 43 (ur_35.2.2.1)) 44 (ur_35.2.2.2.1)) 45 (ur_35.2.2.2.2.1)) 46 (ur_35.2.2.2.2.2.1)) 47 (ur_35.2.2.2.2.2.2.1)) 44 (ur_46.1)) 48 (ur_46.2)) cd ur_35.2.2.2.2.2.2.2 H := by rw [ht] at hB; exact hB
              have hpr_46_0 : I7 (ur_35.1) (ur_35.2.1) (ur_46.1) (ur_35.2.2.2.2.1) (ur_35.2.2.2.2.2.1) := hwr_46.1
              have hpr_46_1 : ((ur_46.1) 24).toInt = ((ur_35.2.2.2.1) 24).toInt ∧ ((ur_35.2.2.2.2.2.1) 24).toInt = ((ur_35.2.2.2.2.2.1) 24).toInt := hwr_46.2
              refine lv_iinc (v := 12) (lv' := [(2, .int 12), (4, .int x_38), (3, .int r_35), (0, .ref h0), (1, .int p0)]) hx hb dX10_reads_75 hl (k := 2) rfl (by decide) (by decide) rfl (fun ls hl => ?_)
              refine lv_goto (tgt := 2) hx hb dX10_reads_78 (by decide) ?_
              refine lv_iload_n hx hb dX10_reads_2 rfl (lv_at hl 0 rfl) ?_
              refine lv_aload_n hx hb dX10_reads_3 rfl (lv_at hl 3 rfl) ?_
              refine va_get (D := DG E) (ci := 10) (v := .ref (rf 44)) (C := RX10) (T := TX10) (N := 49) hx hb hts iw_X10 hown hK.1 (va_one hM.1) 0 rfl rfl 44 (by decide) (hts _ fl_X10_128) (fun _ h9 => h9) rfl dX10_reads_4 ?_
              refine lv_bipush (v := 24) hx hb dX10_reads_7 (by decide) ?_
              have ha_47 : va_at (DG E) vwCl (rf 44, .inl (E.2.2 0, 25, .inl (ur_46.1))) _ := hM.2 44 (by decide) (by decide) (by decide)
              refine va_iald (D := DG E) hx hb hK.1 (va_one ha_47) 0 0 rfl rfl (show vp_in (24) 25 from vp_in_iff.mpr ⟨by decide, by decide⟩) dX10_reads_9 ?_
              refine W.eq (g2 := F0 m 10 ls [.int ((ur_46.1) 24), .int 12]) (by rfl) ?_
              have q_48 : 0 ≤ ((ur_35.1) 24).toInt ∧ ((ur_35.1) 24).toInt ≤ 3 ∧ 0 ≤ ((ur_46.1) 24).toInt ∧ ((ur_46.1) 24).toInt ≤ 12 ∧ (((ur_35.2.1) 24).toInt ≠ 0 ∧ ((ur_35.2.1) 24).toInt ≠ 1 ∧ ((ur_35.2.1) 24).toInt ≠ 4 ∨ ((ur_46.1) 24).toInt ≤ 4) ∧ (((ur_35.2.1) 24).toInt < 1 ∨ 3 < ((ur_35.2.1) 24).toInt ∨ (0 ≤ ((ur_35.2.2.2.2.1) 24).toInt ∧ ((ur_35.2.2.2.2.1) 24).toInt ≤ 5)) ∧ -1 ≤ ((ur_35.2.2.2.2.2.1) 24).toInt ∧ ((ur_35.2.2.2.2.2.1) 24).toInt ≤ 60 := hpr_46_0 24 (by omega)
              refine lv_icmp_ge (tgt := 81) hx hb dX10_reads_10 (by decide) (fun c_49 => ?_) (fun c_49 => by exfalso; simp only [lt_I, le_I, eq_I, i_0, i_1, i_2, i_3, i_4, i_5, i_6, i_7, i_8, i_10, i_12, i_16, i_20, i_23, i_24, i_31, i_32, i_63, i_64, i_m1, i_9, i_11, i_13, i_25, i_60, i_75, i_79, i_80, i_96, i_100] at c_49; omega)
              simp only [lt_I, le_I, eq_I, i_0, i_1, i_2, i_3, i_4, i_5, i_6, i_7, i_8, i_10, i_12, i_16, i_20, i_23, i_24, i_31, i_32, i_63, i_64, i_m1, i_9, i_11, i_13, i_25, i_60, i_75, i_79, i_80, i_96, i_100] at c_49
              exact W.vret hx hb hr (fun t ht hW => ⟨⟨((ur_35.1), (ur_35.2.1), (ur_35.2.2.1), (ur_46.1), (ur_35.2.2.2.2.1), (ur_35.2.2.2.2.2.1), (ur_35.2.2.2.2.2.2.1), (ur_46.2), ur_35.2.2.2.2.2.2.2), rfl, ⟨hpr_46_0, (by show 0 ≤ ur_35.2.2.2.2.2.2.2.toInt ∧ ur_35.2.2.2.2.2.2.2.toInt ≤ 24; omega)⟩, (by show MH E h0 rf t0 t1 t2 (uA (uA (uA (uA (uA (uA (uA (uA A 41 (ur_35.1)) 42 (ur_35.2.1)) 43 (ur_35.2.2.1)) 44 (ur_46.1)) 45 (ur_35.2.2.2.2.1)) 46 (ur_35.2.2.2.2.2.1)) 47 (ur_35.2.2.2.2.2.2.1)) 48 (ur_46.2)) cd ur_35.2.2.2.2.2.2.2 t.heap; rw [ht]; exact hM.cg (fun k => by simp only [uA]; (repeat' split) <;> first | rfl | (exfalso; omega) | (simp_all; done)))⟩, hS.F ht⟩) hS.2.2 dX10_reads_81
        · simp only [lt_I, le_I, eq_I, i_0, i_1, i_2, i_3, i_4, i_5, i_6, i_7, i_8, i_10, i_12, i_16, i_20, i_23, i_24, i_31, i_32, i_63, i_64, i_m1, i_9, i_11, i_13, i_25, i_60, i_75, i_79, i_80, i_96, i_100] at c_27
          refine lv_iload hx hb dX10_reads_66 (lv_at hl 0 rfl) ?_
          refine lv_goto (tgt := 72) hx hb dX10_reads_68 (by decide) ?_
          refine va_callv (rnV (fun H => MH E h0 rf t0 t1 t2 (uA (uA (uA (uA (uA (uA (uA (uA (uA (uA (uA (uA (uA (uA (uA (uA A 41 (ur_7.1)) 42 (ur_7.2.1)) 43 (ur_7.2.2.1)) 44 (ur_7.2.2.2.1)) 45 (ur_7.2.2.2.2.1)) 46 (ur_7.2.2.2.2.2.1)) 47 (ur_7.2.2.2.2.2.2.1)) 44 (ur_14.1)) 48 (ur_14.2)) 41 (ur_21.1)) 42 (ur_21.2.1)) 43 (ur_21.2.2.1)) 44 (ur_21.2.2.2.1)) 45 (ur_21.2.2.2.2.1)) 46 (ur_21.2.2.2.2.2.1)) 47 (ur_21.2.2.2.2.2.2.1)) cd ur_21.2.2.2.2.2.2.2 H) (As := [.int r_21, .int p0, .int x_26, .int x_24]) (rest := []) ⟨hx, hb, hml, hown, hts⟩ (u_X10_load l E z0 G hGz h0 rf hR t0 t1 t2 (uA (uA (uA (uA (uA (uA (uA (uA (uA (uA (uA (uA (uA (uA (uA (uA A 41 (ur_7.1)) 42 (ur_7.2.1)) 43 (ur_7.2.2.1)) 44 (ur_7.2.2.2.1)) 45 (ur_7.2.2.2.2.1)) 46 (ur_7.2.2.2.2.2.1)) 47 (ur_7.2.2.2.2.2.2.1)) 44 (ur_14.1)) 48 (ur_14.2)) 41 (ur_21.1)) 42 (ur_21.2.1)) 43 (ur_21.2.2.1)) 44 (ur_21.2.2.2.1)) 45 (ur_21.2.2.2.2.1)) 46 (ur_21.2.2.2.2.2.1)) 47 (ur_21.2.2.2.2.2.2.1)) cd ur_21.2.2.2.2.2.2.2 r_21 p0 x_26 x_24 hpr_21_0 (by first | omega | decide) (by first | omega | decide) (by first | omega | decide) (by first | omega | decide) (by first | omega | decide)) (cwV 4 hts (gdV ml_X10_203 im_X10_load se_X10_X10_load in_X10 co_X10_load rfl) rfl rfl rfl (by decide +kernel) ⟨Nat.le_of_ble_eq_true rfl, Nat.le_of_ble_eq_true rfl⟩) hM (fun U hU hW => hK.go hW hS hAz hU) (va_recv hK.1 (va_one hM.1) (ci := 10) (q0 := 0) rfl rfl) rfl rfl hl.1 rfl (lv_room (Nat.le_of_ble_eq_true rfl)) dX10_reads_72 ⟨Nat.le_of_ble_eq_true rfl, Nat.le_of_ble_eq_true rfl⟩) hS (fun q _ h => h) (fun q h => h) (fun ur_50 t H locs ht hvm hwr_50 hB hz hk hS => ?_)
          have hM : MH E h0 rf t0 t1 t2 (uA (uA (uA (uA (uA (uA (uA (uA (uA (uA (uA (uA (uA (uA (uA (uA (uA (uA A 41 (ur_7.1)) 42 (ur_7.2.1)) 43 (ur_7.2.2.1)) 44 (ur_7.2.2.2.1)) 45 (ur_7.2.2.2.2.1)) 46 (ur_7.2.2.2.2.2.1)) 47 (ur_7.2.2.2.2.2.2.1)) 44 (ur_14.1)) 48 (ur_14.2)) 41 (ur_21.1)) 42 (ur_21.2.1)) 43 (ur_21.2.2.1)) 44 (ur_21.2.2.2.1)) 45 (ur_21.2.2.2.2.1)) 46 (ur_21.2.2.2.2.2.1)) 47 (ur_21.2.2.2.2.2.2.1)) 44 (ur_50.1)) 48 (ur_50.2)) cd ur_21.2.2.2.2.2.2.2 H := by rw [ht] at hB; exact hB
          have hpr_50_0 : I7 (ur_21.1) (ur_21.2.1) (ur_50.1) (ur_21.2.2.2.2.1) (ur_21.2.2.2.2.2.1) := hwr_50.1
          have hpr_50_1 : ((ur_50.1) 24).toInt = ((ur_21.2.2.2.1) 24).toInt ∧ ((ur_21.2.2.2.2.2.1) 24).toInt = ((ur_21.2.2.2.2.2.1) 24).toInt := hwr_50.2
          refine lv_iinc (v := 8) (lv' := [(2, .int 8), (4, .int x_24), (3, .int r_21), (0, .ref h0), (1, .int p0)]) hx hb dX10_reads_75 hl (k := 2) rfl (by decide) (by decide) rfl (fun ls hl => ?_)
          refine lv_goto (tgt := 2) hx hb dX10_reads_78 (by decide) ?_
          refine lv_iload_n hx hb dX10_reads_2 rfl (lv_at hl 0 rfl) ?_
          refine lv_aload_n hx hb dX10_reads_3 rfl (lv_at hl 3 rfl) ?_
          refine va_get (D := DG E) (ci := 10) (v := .ref (rf 44)) (C := RX10) (T := TX10) (N := 49) hx hb hts iw_X10 hown hK.1 (va_one hM.1) 0 rfl rfl 44 (by decide) (hts _ fl_X10_128) (fun _ h9 => h9) rfl dX10_reads_4 ?_
          refine lv_bipush (v := 24) hx hb dX10_reads_7 (by decide) ?_
          have ha_51 : va_at (DG E) vwCl (rf 44, .inl (E.2.2 0, 25, .inl (ur_50.1))) _ := hM.2 44 (by decide) (by decide) (by decide)
          refine va_iald (D := DG E) hx hb hK.1 (va_one ha_51) 0 0 rfl rfl (show vp_in (24) 25 from vp_in_iff.mpr ⟨by decide, by decide⟩) dX10_reads_9 ?_
          refine W.eq (g2 := F0 m 10 ls [.int ((ur_50.1) 24), .int 8]) (by rfl) ?_
          have q_52 : 0 ≤ ((ur_21.1) 24).toInt ∧ ((ur_21.1) 24).toInt ≤ 3 ∧ 0 ≤ ((ur_50.1) 24).toInt ∧ ((ur_50.1) 24).toInt ≤ 12 ∧ (((ur_21.2.1) 24).toInt ≠ 0 ∧ ((ur_21.2.1) 24).toInt ≠ 1 ∧ ((ur_21.2.1) 24).toInt ≠ 4 ∨ ((ur_50.1) 24).toInt ≤ 4) ∧ (((ur_21.2.1) 24).toInt < 1 ∨ 3 < ((ur_21.2.1) 24).toInt ∨ (0 ≤ ((ur_21.2.2.2.2.1) 24).toInt ∧ ((ur_21.2.2.2.2.1) 24).toInt ≤ 5)) ∧ -1 ≤ ((ur_21.2.2.2.2.2.1) 24).toInt ∧ ((ur_21.2.2.2.2.2.1) 24).toInt ≤ 60 := hpr_50_0 24 (by omega)
          refine lv_icmp_ge (tgt := 81) hx hb dX10_reads_10 (by decide) (fun c_53 => ?_) (fun c_53 => ?_)
          · simp only [lt_I, le_I, eq_I, i_0, i_1, i_2, i_3, i_4, i_5, i_6, i_7, i_8, i_10, i_12, i_16, i_20, i_23, i_24, i_31, i_32, i_63, i_64, i_m1, i_9, i_11, i_13, i_25, i_60, i_75, i_79, i_80, i_96, i_100] at c_53
            exact W.vret hx hb hr (fun t ht hW => ⟨⟨((ur_21.1), (ur_21.2.1), (ur_21.2.2.1), (ur_50.1), (ur_21.2.2.2.2.1), (ur_21.2.2.2.2.2.1), (ur_21.2.2.2.2.2.2.1), (ur_50.2), ur_21.2.2.2.2.2.2.2), rfl, ⟨hpr_50_0, (by show 0 ≤ ur_21.2.2.2.2.2.2.2.toInt ∧ ur_21.2.2.2.2.2.2.2.toInt ≤ 24; omega)⟩, (by show MH E h0 rf t0 t1 t2 (uA (uA (uA (uA (uA (uA (uA (uA A 41 (ur_21.1)) 42 (ur_21.2.1)) 43 (ur_21.2.2.1)) 44 (ur_50.1)) 45 (ur_21.2.2.2.2.1)) 46 (ur_21.2.2.2.2.2.1)) 47 (ur_21.2.2.2.2.2.2.1)) 48 (ur_50.2)) cd ur_21.2.2.2.2.2.2.2 t.heap; rw [ht]; exact hM.cg (fun k => by simp only [uA]; (repeat' split) <;> first | rfl | (exfalso; omega) | (simp_all; done)))⟩, hS.F ht⟩) hS.2.2 dX10_reads_81
          · simp only [lt_I, le_I, eq_I, i_0, i_1, i_2, i_3, i_4, i_5, i_6, i_7, i_8, i_10, i_12, i_16, i_20, i_23, i_24, i_31, i_32, i_63, i_64, i_m1, i_9, i_11, i_13, i_25, i_60, i_75, i_79, i_80, i_96, i_100] at c_53
            refine lv_aload_n hx hb dX10_reads_13 rfl (lv_at hl 3 rfl) ?_
            refine lv_iload_n hx hb dX10_reads_14 rfl (lv_at hl 4 rfl) ?_
            refine lv_iconst (v := 4) hx hb dX10_reads_15 (by decide) ?_
            refine lv_aload_n hx hb dX10_reads_16 rfl (lv_at hl 3 rfl) ?_
            refine va_get (D := DG E) (ci := 10) (v := .ref (rf 43)) (C := RX10) (T := TX10) (N := 49) hx hb hts iw_X10 hown hK.1 (va_one hM.1) 0 rfl rfl 43 (by decide) (hts _ fl_X10_125) (fun _ h9 => h9) rfl dX10_reads_17 ?_
            refine lv_bipush (v := 24) hx hb dX10_reads_20 (by decide) ?_
            have ha_54 : va_at (DG E) vwCl (rf 43, .inl (E.2.2 0, 25, .inl (ur_21.2.2.1))) _ := hM.2 43 (by decide) (by decide) (by decide)
            refine va_iald (D := DG E) hx hb hK.1 (va_one ha_54) 0 0 rfl rfl (show vp_in (24) 25 from vp_in_iff.mpr ⟨by decide, by decide⟩) dX10_reads_22 ?_
            refine W.eq (g2 := F0 m 23 ls [.int ((ur_21.2.2.1) 24), .int 4, .int p0, .ref h0]) (by rfl) ?_
            refine lv_iload_n hx hb dX10_reads_23 rfl (lv_at hl 0 rfl) ?_
            refine lv_iconst (v := 4) hx hb dX10_reads_24 (by decide) ?_
            refine lv_idiv hx hb dX10_reads_25 (by decide) ?_
            refine W.eq (g2 := F0 m 26 ls [.int 2, .int ((ur_21.2.2.1) 24), .int 4, .int p0, .ref h0]) (by rfl) ?_
            refine lv_iadd hx hb dX10_reads_26 ?_
            refine lv_topi (fun x_55 ex_55 => ?_)
            refine lv_bipush (v := 64) hx hb dX10_reads_27 (by decide) ?_
            refine lv_irem hx hb dX10_reads_29 (by decide) ?_
            refine lv_topi (fun x_56 ex_56 => ?_)
            refine lv_iconst (v := (-1)) hx hb dX10_reads_30 (by decide) ?_
            refine lv_iconst (v := (-1)) hx hb dX10_reads_31 (by decide) ?_
            refine lv_iconst (v := 0) hx hb dX10_reads_32 (by decide) ?_
            refine va_calli (rnV (fun H => MH E h0 rf t0 t1 t2 (uA (uA (uA (uA (uA (uA (uA (uA (uA (uA (uA (uA (uA (uA (uA (uA (uA (uA A 41 (ur_7.1)) 42 (ur_7.2.1)) 43 (ur_7.2.2.1)) 44 (ur_7.2.2.2.1)) 45 (ur_7.2.2.2.2.1)) 46 (ur_7.2.2.2.2.2.1)) 47 (ur_7.2.2.2.2.2.2.1)) 44 (ur_14.1)) 48 (ur_14.2)) 41 (ur_21.1)) 42 (ur_21.2.1)) 43 (ur_21.2.2.1)) 44 (ur_21.2.2.2.1)) 45 (ur_21.2.2.2.2.1)) 46 (ur_21.2.2.2.2.2.1)) 47 (ur_21.2.2.2.2.2.2.1)) 44 (ur_50.1)) 48 (ur_50.2)) cd ur_21.2.2.2.2.2.2.2 H) (As := [.int p0, .int 4, .int x_56, .int (-1), .int (-1), .int 0]) (rest := []) ⟨hx, hb, hml, hown, hts⟩ (u_X10_emit l E z0 G hGz h0 rf hR t0 t1 t2 (uA (uA (uA (uA (uA (uA (uA (uA (uA (uA (uA (uA (uA (uA (uA (uA (uA (uA A 41 (ur_7.1)) 42 (ur_7.2.1)) 43 (ur_7.2.2.1)) 44 (ur_7.2.2.2.1)) 45 (ur_7.2.2.2.2.1)) 46 (ur_7.2.2.2.2.2.1)) 47 (ur_7.2.2.2.2.2.2.1)) 44 (ur_14.1)) 48 (ur_14.2)) 41 (ur_21.1)) 42 (ur_21.2.1)) 43 (ur_21.2.2.1)) 44 (ur_21.2.2.2.1)) 45 (ur_21.2.2.2.2.1)) 46 (ur_21.2.2.2.2.2.1)) 47 (ur_21.2.2.2.2.2.2.1)) 44 (ur_50.1)) 48 (ur_50.2)) cd ur_21.2.2.2.2.2.2.2 p0 4 x_56 (-1) (-1) 0 hpr_50_0 (by have := i_m1; have := i_0; have := i_4; first | omega | decide) (by have := i_m1; have := i_0; have := i_4; first | omega | decide) (by have := i_m1; have := i_0; have := i_4; first | omega | decide) (by have := i_m1; have := i_0; have := i_4; first | omega | decide)) (cwV 6 hts (gdV ml_X10_199 im_X10_emit se_X10_X10_emit in_X10 co_X10_emit rfl) rfl rfl rfl (by decide +kernel) ⟨Nat.le_of_ble_eq_true rfl, Nat.le_of_ble_eq_true rfl⟩) hM (fun U hU hW => hK.go hW hS hAz hU) (va_recv hK.1 (va_one hM.1) (ci := 10) (q0 := 0) rfl rfl) rfl rfl hl.1 rfl (lv_room (Nat.le_of_ble_eq_true rfl)) dX10_reads_33 ⟨Nat.le_of_ble_eq_true rfl, Nat.le_of_ble_eq_true rfl⟩) hS (fun q _ h => h) (fun q h => h) (fun r_57 ur_57 t H locs ht hvm hwr_57 hB hz hk hS => ?_)
            have hM : MH E h0 rf t0 t1 t2 (uA (uA (uA (uA (uA (uA (uA (uA (uA (uA (uA (uA (uA (uA (uA (uA (uA (uA (uA (uA (uA (uA (uA (uA (uA A 41 (ur_7.1)) 42 (ur_7.2.1)) 43 (ur_7.2.2.1)) 44 (ur_7.2.2.2.1)) 45 (ur_7.2.2.2.2.1)) 46 (ur_7.2.2.2.2.2.1)) 47 (ur_7.2.2.2.2.2.2.1)) 44 (ur_14.1)) 48 (ur_14.2)) 41 (ur_21.1)) 42 (ur_21.2.1)) 43 (ur_21.2.2.1)) 44 (ur_21.2.2.2.1)) 45 (ur_21.2.2.2.2.1)) 46 (ur_21.2.2.2.2.2.1)) 47 (ur_21.2.2.2.2.2.2.1)) 44 (ur_50.1)) 48 (ur_50.2)) 41 (ur_57.1)) 42 (ur_57.2.1)) 43 (ur_57.2.2.1)) 44 (ur_57.2.2.2.1)) 45 (ur_57.2.2.2.2.1)) 46 (ur_57.2.2.2.2.2.1)) 47 (ur_57.2.2.2.2.2.2.1)) cd ur_57.2.2.2.2.2.2.2 H := by rw [ht] at hB; exact hB
            have hpr_57_0 : I7 (ur_57.1) (ur_57.2.1) (ur_57.2.2.2.1) (ur_57.2.2.2.2.1) (ur_57.2.2.2.2.2.1) := hwr_57.1
            have hpr_57_1 : 0 ≤ ur_57.2.2.2.2.2.2.2.toInt ∧ ur_57.2.2.2.2.2.2.2.toInt ≤ 24 := hwr_57.2.1
            have hpr_57_2 : -1 ≤ r_57.toInt ∧ r_57.toInt ≤ 23 := hwr_57.2.2.1
            have hpr_57_3 : ∀ n : Nat, (n : Int) = r_57.toInt → (ur_57.2.1) n = (4 : Int32) := hwr_57.2.2.2.1
            have hpr_57_4 : ((ur_57.2.2.2.1) 24).toInt = ((ur_50.1) 24).toInt ∧ ((ur_57.2.2.2.2.2.1) 24).toInt = ((ur_21.2.2.2.2.2.1) 24).toInt := hwr_57.2.2.2.2
            have := i_m1
            have := i_0
            have := i_4
            refine lv_istore_n (lv' := [(3, .int r_57), (2, .int 8), (4, .int x_24), (0, .ref h0), (1, .int p0)]) hx hb dX10_reads_36 rfl hl (by decide) rfl (fun ls hl => ?_)
            refine lv_aload_n hx hb dX10_reads_37 rfl (lv_at hl 3 rfl) ?_
            refine va_get (D := DG E) (ci := 10) (v := .ref (rf 44)) (C := RX10) (T := TX10) (N := 49) hx hb hts iw_X10 hown hK.1 (va_one hM.1) 0 rfl rfl 44 (by decide) (hts _ fl_X10_128) (fun _ h9 => h9) rfl dX10_reads_38 ?_
            refine lv_bipush (v := 24) hx hb dX10_reads_41 (by decide) ?_
            have ha_58 : va_at (DG E) vwCl (rf 44, .inl (E.2.2 0, 25, .inl (ur_57.2.2.2.1))) _ := hM.2 44 (by decide) (by decide) (by decide)
            refine va_iald (D := DG E) hx hb hK.1 (va_one ha_58) 0 0 rfl rfl (show vp_in (24) 25 from vp_in_iff.mpr ⟨by decide, by decide⟩) dX10_reads_43 ?_
            refine W.eq (g2 := F0 m 44 ls [.int ((ur_57.2.2.2.1) 24)]) (by rfl) ?_
            have q_59 : 0 ≤ ((ur_57.1) 24).toInt ∧ ((ur_57.1) 24).toInt ≤ 3 ∧ 0 ≤ ((ur_57.2.2.2.1) 24).toInt ∧ ((ur_57.2.2.2.1) 24).toInt ≤ 12 ∧ (((ur_57.2.1) 24).toInt ≠ 0 ∧ ((ur_57.2.1) 24).toInt ≠ 1 ∧ ((ur_57.2.1) 24).toInt ≠ 4 ∨ ((ur_57.2.2.2.1) 24).toInt ≤ 4) ∧ (((ur_57.2.1) 24).toInt < 1 ∨ 3 < ((ur_57.2.1) 24).toInt ∨ (0 ≤ ((ur_57.2.2.2.2.1) 24).toInt ∧ ((ur_57.2.2.2.2.1) 24).toInt ≤ 5)) ∧ -1 ≤ ((ur_57.2.2.2.2.2.1) 24).toInt ∧ ((ur_57.2.2.2.2.2.1) 24).toInt ≤ 60 := hpr_57_0 24 (by omega)
            refine lv_iload_n hx hb dX10_reads_44 rfl (lv_at hl 1 rfl) ?_
            refine lv_isub hx hb dX10_reads_45 ?_
            refine lv_topi (fun x_60 ex_60 => ?_)
            have fx_60 : x_60.toInt = ((ur_57.2.2.2.1) 24).toInt - 8 := by have h9 := s_sub (x := ((ur_57.2.2.2.1) 24)) (y := 8) (by rw [i_8]; omega) (by rw [i_8]; omega); rw [i_8] at h9; rw [ex_60]; exact h9
            refine lv_istore (lv' := [(4, .int x_60), (3, .int r_57), (2, .int 8), (0, .ref h0), (1, .int p0)]) hx hb dX10_reads_46 hl (by decide) rfl (fun ls hl => ?_)
            refine lv_aload_n hx hb dX10_reads_48 rfl (lv_at hl 3 rfl) ?_
            refine lv_iload_n hx hb dX10_reads_49 rfl (lv_at hl 1 rfl) ?_
            refine lv_iload_n hx hb dX10_reads_50 rfl (lv_at hl 4 rfl) ?_
            refine lv_aload_n hx hb dX10_reads_51 rfl (lv_at hl 3 rfl) ?_
            refine va_get (D := DG E) (ci := 10) (v := .ref (rf 46)) (C := RX10) (T := TX10) (N := 49) hx hb hts iw_X10 hown hK.1 (va_one hM.1) 0 rfl rfl 46 (by decide) (hts _ fl_X10_134) (fun _ h9 => h9) rfl dX10_reads_52 ?_
            refine lv_bipush (v := 24) hx hb dX10_reads_55 (by decide) ?_
            have ha_61 : va_at (DG E) vwCl (rf 46, .inl (E.2.2 0, 25, .inl (ur_57.2.2.2.2.2.1))) _ := hM.2 46 (by decide) (by decide) (by decide)
            refine va_iald (D := DG E) hx hb hK.1 (va_one ha_61) 0 0 rfl rfl (show vp_in (24) 25 from vp_in_iff.mpr ⟨by decide, by decide⟩) dX10_reads_57 ?_
            refine W.eq (g2 := F0 m 58 ls [.int ((ur_57.2.2.2.2.2.1) 24), .int p0, .int r_57, .ref h0]) (by rfl) ?_
            refine lv_iload_n hx hb dX10_reads_58 rfl (lv_at hl 2 rfl) ?_
            refine lv_iadd hx hb dX10_reads_59 ?_
            refine lv_topi (fun x_62 ex_62 => ?_)
            have fx_62 : x_62.toInt = ((ur_57.2.2.2.2.2.1) 24).toInt + 8 := by have h9 := s_add (x := ((ur_57.2.2.2.2.2.1) 24)) (y := 8) (by rw [i_8]; omega) (by rw [i_8]; omega); rw [i_8] at h9; rw [ex_62]; exact h9
            refine lv_iload hx hb dX10_reads_60 (lv_at hl 0 rfl) ?_
            refine lv_iconst (v := 4) hx hb dX10_reads_62 (by decide) ?_
            refine lv_icmp_ge (tgt := 71) hx hb dX10_reads_63 (by decide) (fun c_63 => ?_) (fun c_63 => ?_)
            · simp only [lt_I, le_I, eq_I, i_0, i_1, i_2, i_3, i_4, i_5, i_6, i_7, i_8, i_10, i_12, i_16, i_20, i_23, i_24, i_31, i_32, i_63, i_64, i_m1, i_9, i_11, i_13, i_25, i_60, i_75, i_79, i_80, i_96, i_100] at c_63
              refine lv_iconst (v := 4) hx hb dX10_reads_71 (by decide) ?_
              refine va_callv (rnV (fun H => MH E h0 rf t0 t1 t2 (uA (uA (uA (uA (uA (uA (uA (uA (uA (uA (uA (uA (uA (uA (uA (uA (uA (uA (uA (uA (uA (uA (uA (uA (uA A 41 (ur_7.1)) 42 (ur_7.2.1)) 43 (ur_7.2.2.1)) 44 (ur_7.2.2.2.1)) 45 (ur_7.2.2.2.2.1)) 46 (ur_7.2.2.2.2.2.1)) 47 (ur_7.2.2.2.2.2.2.1)) 44 (ur_14.1)) 48 (ur_14.2)) 41 (ur_21.1)) 42 (ur_21.2.1)) 43 (ur_21.2.2.1)) 44 (ur_21.2.2.2.1)) 45 (ur_21.2.2.2.2.1)) 46 (ur_21.2.2.2.2.2.1)) 47 (ur_21.2.2.2.2.2.2.1)) 44 (ur_50.1)) 48 (ur_50.2)) 41 (ur_57.1)) 42 (ur_57.2.1)) 43 (ur_57.2.2.1)) 44 (ur_57.2.2.2.1)) 45 (ur_57.2.2.2.2.1)) 46 (ur_57.2.2.2.2.2.1)) 47 (ur_57.2.2.2.2.2.2.1)) cd ur_57.2.2.2.2.2.2.2 H) (As := [.int r_57, .int p0, .int x_62, .int 4]) (rest := []) ⟨hx, hb, hml, hown, hts⟩ (u_X10_load l E z0 G hGz h0 rf hR t0 t1 t2 (uA (uA (uA (uA (uA (uA (uA (uA (uA (uA (uA (uA (uA (uA (uA (uA (uA (uA (uA (uA (uA (uA (uA (uA (uA A 41 (ur_7.1)) 42 (ur_7.2.1)) 43 (ur_7.2.2.1)) 44 (ur_7.2.2.2.1)) 45 (ur_7.2.2.2.2.1)) 46 (ur_7.2.2.2.2.2.1)) 47 (ur_7.2.2.2.2.2.2.1)) 44 (ur_14.1)) 48 (ur_14.2)) 41 (ur_21.1)) 42 (ur_21.2.1)) 43 (ur_21.2.2.1)) 44 (ur_21.2.2.2.1)) 45 (ur_21.2.2.2.2.1)) 46 (ur_21.2.2.2.2.2.1)) 47 (ur_21.2.2.2.2.2.2.1)) 44 (ur_50.1)) 48 (ur_50.2)) 41 (ur_57.1)) 42 (ur_57.2.1)) 43 (ur_57.2.2.1)) 44 (ur_57.2.2.2.1)) 45 (ur_57.2.2.2.2.1)) 46 (ur_57.2.2.2.2.2.1)) 47 (ur_57.2.2.2.2.2.2.1)) cd ur_57.2.2.2.2.2.2.2 r_57 p0 x_62 4 hpr_57_0 (by have := i_4; first | omega | decide) (by have := i_4; first | omega | decide) (by have := i_4; first | omega | decide) (by have := i_4; first | omega | decide) (by have := i_4; first | omega | decide)) (cwV 4 hts (gdV ml_X10_203 im_X10_load se_X10_X10_load in_X10 co_X10_load rfl) rfl rfl rfl (by decide +kernel) ⟨Nat.le_of_ble_eq_true rfl, Nat.le_of_ble_eq_true rfl⟩) hM (fun U hU hW => hK.go hW hS hAz hU) (va_recv hK.1 (va_one hM.1) (ci := 10) (q0 := 0) rfl rfl) rfl rfl hl.1 rfl (lv_room (Nat.le_of_ble_eq_true rfl)) dX10_reads_72 ⟨Nat.le_of_ble_eq_true rfl, Nat.le_of_ble_eq_true rfl⟩) hS (fun q _ h => h) (fun q h => h) (fun ur_64 t H locs ht hvm hwr_64 hB hz hk hS => ?_)
              have hM : MH E h0 rf t0 t1 t2 (uA (uA (uA (uA (uA (uA (uA (uA (uA (uA (uA (uA (uA (uA (uA (uA (uA (uA (uA (uA (uA (uA (uA (uA (uA (uA (uA A 41 (ur_7.1)) 42 (ur_7.2.1)) 43 (ur_7.2.2.1)) 44 (ur_7.2.2.2.1)) 45 (ur_7.2.2.2.2.1)) 46 (ur_7.2.2.2.2.2.1)) 47 (ur_7.2.2.2.2.2.2.1)) 44 (ur_14.1)) 48 (ur_14.2)) 41 (ur_21.1)) 42 (ur_21.2.1)) 43 (ur_21.2.2.1)) 44 (ur_21.2.2.2.1)) 45 (ur_21.2.2.2.2.1)) 46 (ur_21.2.2.2.2.2.1)) 47 (ur_21.2.2.2.2.2.2.1)) 44 (ur_50.1)) 48 (ur_50.2)) 41 (ur_57.1)) 42 (ur_57.2.1)) 43 (ur_57.2.2.1)) 44 (ur_57.2.2.2.1)) 45 (ur_57.2.2.2.2.1)) 46 (ur_57.2.2.2.2.2.1)) 47 (ur_57.2.2.2.2.2.2.1)) 44 (ur_64.1)) 48 (ur_64.2)) cd ur_57.2.2.2.2.2.2.2 H := by rw [ht] at hB; exact hB
              have hpr_64_0 : I7 (ur_57.1) (ur_57.2.1) (ur_64.1) (ur_57.2.2.2.2.1) (ur_57.2.2.2.2.2.1) := hwr_64.1
              have hpr_64_1 : ((ur_64.1) 24).toInt = ((ur_57.2.2.2.1) 24).toInt ∧ ((ur_57.2.2.2.2.2.1) 24).toInt = ((ur_57.2.2.2.2.2.1) 24).toInt := hwr_64.2
              have := i_4
              refine lv_iinc (v := 12) (lv' := [(2, .int 12), (4, .int x_60), (3, .int r_57), (0, .ref h0), (1, .int p0)]) hx hb dX10_reads_75 hl (k := 2) rfl (by decide) (by decide) rfl (fun ls hl => ?_)
              refine lv_goto (tgt := 2) hx hb dX10_reads_78 (by decide) ?_
              refine lv_iload_n hx hb dX10_reads_2 rfl (lv_at hl 0 rfl) ?_
              refine lv_aload_n hx hb dX10_reads_3 rfl (lv_at hl 3 rfl) ?_
              refine va_get (D := DG E) (ci := 10) (v := .ref (rf 44)) (C := RX10) (T := TX10) (N := 49) hx hb hts iw_X10 hown hK.1 (va_one hM.1) 0 rfl rfl 44 (by decide) (hts _ fl_X10_128) (fun _ h9 => h9) rfl dX10_reads_4 ?_
              refine lv_bipush (v := 24) hx hb dX10_reads_7 (by decide) ?_
              have ha_65 : va_at (DG E) vwCl (rf 44, .inl (E.2.2 0, 25, .inl (ur_64.1))) _ := hM.2 44 (by decide) (by decide) (by decide)
              refine va_iald (D := DG E) hx hb hK.1 (va_one ha_65) 0 0 rfl rfl (show vp_in (24) 25 from vp_in_iff.mpr ⟨by decide, by decide⟩) dX10_reads_9 ?_
              refine W.eq (g2 := F0 m 10 ls [.int ((ur_64.1) 24), .int 12]) (by rfl) ?_
              have q_66 : 0 ≤ ((ur_57.1) 24).toInt ∧ ((ur_57.1) 24).toInt ≤ 3 ∧ 0 ≤ ((ur_64.1) 24).toInt ∧ ((ur_64.1) 24).toInt ≤ 12 ∧ (((ur_57.2.1) 24).toInt ≠ 0 ∧ ((ur_57.2.1) 24).toInt ≠ 1 ∧ ((ur_57.2.1) 24).toInt ≠ 4 ∨ ((ur_64.1) 24).toInt ≤ 4) ∧ (((ur_57.2.1) 24).toInt < 1 ∨ 3 < ((ur_57.2.1) 24).toInt ∨ (0 ≤ ((ur_57.2.2.2.2.1) 24).toInt ∧ ((ur_57.2.2.2.2.1) 24).toInt ≤ 5)) ∧ -1 ≤ ((ur_57.2.2.2.2.2.1) 24).toInt ∧ ((ur_57.2.2.2.2.2.1) 24).toInt ≤ 60 := hpr_64_0 24 (by omega)
              refine lv_icmp_ge (tgt := 81) hx hb dX10_reads_10 (by decide) (fun c_67 => ?_) (fun c_67 => by exfalso; simp only [lt_I, le_I, eq_I, i_0, i_1, i_2, i_3, i_4, i_5, i_6, i_7, i_8, i_10, i_12, i_16, i_20, i_23, i_24, i_31, i_32, i_63, i_64, i_m1, i_9, i_11, i_13, i_25, i_60, i_75, i_79, i_80, i_96, i_100] at c_67; omega)
              simp only [lt_I, le_I, eq_I, i_0, i_1, i_2, i_3, i_4, i_5, i_6, i_7, i_8, i_10, i_12, i_16, i_20, i_23, i_24, i_31, i_32, i_63, i_64, i_m1, i_9, i_11, i_13, i_25, i_60, i_75, i_79, i_80, i_96, i_100] at c_67
              exact W.vret hx hb hr (fun t ht hW => ⟨⟨((ur_57.1), (ur_57.2.1), (ur_57.2.2.1), (ur_64.1), (ur_57.2.2.2.2.1), (ur_57.2.2.2.2.2.1), (ur_57.2.2.2.2.2.2.1), (ur_64.2), ur_57.2.2.2.2.2.2.2), rfl, ⟨hpr_64_0, (by show 0 ≤ ur_57.2.2.2.2.2.2.2.toInt ∧ ur_57.2.2.2.2.2.2.2.toInt ≤ 24; omega)⟩, (by show MH E h0 rf t0 t1 t2 (uA (uA (uA (uA (uA (uA (uA (uA A 41 (ur_57.1)) 42 (ur_57.2.1)) 43 (ur_57.2.2.1)) 44 (ur_64.1)) 45 (ur_57.2.2.2.2.1)) 46 (ur_57.2.2.2.2.2.1)) 47 (ur_57.2.2.2.2.2.2.1)) 48 (ur_64.2)) cd ur_57.2.2.2.2.2.2.2 t.heap; rw [ht]; exact hM.cg (fun k => by simp only [uA]; (repeat' split) <;> first | rfl | (exfalso; omega) | (simp_all; done)))⟩, hS.F ht⟩) hS.2.2 dX10_reads_81
            · simp only [lt_I, le_I, eq_I, i_0, i_1, i_2, i_3, i_4, i_5, i_6, i_7, i_8, i_10, i_12, i_16, i_20, i_23, i_24, i_31, i_32, i_63, i_64, i_m1, i_9, i_11, i_13, i_25, i_60, i_75, i_79, i_80, i_96, i_100] at c_63
              refine lv_iload hx hb dX10_reads_66 (lv_at hl 0 rfl) ?_
              refine lv_goto (tgt := 72) hx hb dX10_reads_68 (by decide) ?_
              refine va_callv (rnV (fun H => MH E h0 rf t0 t1 t2 (uA (uA (uA (uA (uA (uA (uA (uA (uA (uA (uA (uA (uA (uA (uA (uA (uA (uA (uA (uA (uA (uA (uA (uA (uA A 41 (ur_7.1)) 42 (ur_7.2.1)) 43 (ur_7.2.2.1)) 44 (ur_7.2.2.2.1)) 45 (ur_7.2.2.2.2.1)) 46 (ur_7.2.2.2.2.2.1)) 47 (ur_7.2.2.2.2.2.2.1)) 44 (ur_14.1)) 48 (ur_14.2)) 41 (ur_21.1)) 42 (ur_21.2.1)) 43 (ur_21.2.2.1)) 44 (ur_21.2.2.2.1)) 45 (ur_21.2.2.2.2.1)) 46 (ur_21.2.2.2.2.2.1)) 47 (ur_21.2.2.2.2.2.2.1)) 44 (ur_50.1)) 48 (ur_50.2)) 41 (ur_57.1)) 42 (ur_57.2.1)) 43 (ur_57.2.2.1)) 44 (ur_57.2.2.2.1)) 45 (ur_57.2.2.2.2.1)) 46 (ur_57.2.2.2.2.2.1)) 47 (ur_57.2.2.2.2.2.2.1)) cd ur_57.2.2.2.2.2.2.2 H) (As := [.int r_57, .int p0, .int x_62, .int x_60]) (rest := []) ⟨hx, hb, hml, hown, hts⟩ (u_X10_load l E z0 G hGz h0 rf hR t0 t1 t2 (uA (uA (uA (uA (uA (uA (uA (uA (uA (uA (uA (uA (uA (uA (uA (uA (uA (uA (uA (uA (uA (uA (uA (uA (uA A 41 (ur_7.1)) 42 (ur_7.2.1)) 43 (ur_7.2.2.1)) 44 (ur_7.2.2.2.1)) 45 (ur_7.2.2.2.2.1)) 46 (ur_7.2.2.2.2.2.1)) 47 (ur_7.2.2.2.2.2.2.1)) 44 (ur_14.1)) 48 (ur_14.2)) 41 (ur_21.1)) 42 (ur_21.2.1)) 43 (ur_21.2.2.1)) 44 (ur_21.2.2.2.1)) 45 (ur_21.2.2.2.2.1)) 46 (ur_21.2.2.2.2.2.1)) 47 (ur_21.2.2.2.2.2.2.1)) 44 (ur_50.1)) 48 (ur_50.2)) 41 (ur_57.1)) 42 (ur_57.2.1)) 43 (ur_57.2.2.1)) 44 (ur_57.2.2.2.1)) 45 (ur_57.2.2.2.2.1)) 46 (ur_57.2.2.2.2.2.1)) 47 (ur_57.2.2.2.2.2.2.1)) cd ur_57.2.2.2.2.2.2.2 r_57 p0 x_62 x_60 hpr_57_0 (by first | omega | decide) (by first | omega | decide) (by first | omega | decide) (by first | omega | decide) (by first | omega | decide)) (cwV 4 hts (gdV ml_X10_203 im_X10_load se_X10_X10_load in_X10 co_X10_load rfl) rfl rfl rfl (by decide +kernel) ⟨Nat.le_of_ble_eq_true rfl, Nat.le_of_ble_eq_true rfl⟩) hM (fun U hU hW => hK.go hW hS hAz hU) (va_recv hK.1 (va_one hM.1) (ci := 10) (q0 := 0) rfl rfl) rfl rfl hl.1 rfl (lv_room (Nat.le_of_ble_eq_true rfl)) dX10_reads_72 ⟨Nat.le_of_ble_eq_true rfl, Nat.le_of_ble_eq_true rfl⟩) hS (fun q _ h => h) (fun q h => h) (fun ur_68 t H locs ht hvm hwr_68 hB hz hk hS => ?_)
              have hM : MH E h0 rf t0 t1 t2 (uA (uA (uA (uA (uA (uA (uA (uA (uA (uA (uA (uA (uA (uA (uA (uA (uA (uA (uA (uA (uA (uA (uA (uA (uA (uA (uA A 41 (ur_7.1)) 42 (ur_7.2.1)) 43 (ur_7.2.2.1)) 44 (ur_7.2.2.2.1)) 45 (ur_7.2.2.2.2.1)) 46 (ur_7.2.2.2.2.2.1)) 47 (ur_7.2.2.2.2.2.2.1)) 44 (ur_14.1)) 48 (ur_14.2)) 41 (ur_21.1)) 42 (ur_21.2.1)) 43 (ur_21.2.2.1)) 44 (ur_21.2.2.2.1)) 45 (ur_21.2.2.2.2.1)) 46 (ur_21.2.2.2.2.2.1)) 47 (ur_21.2.2.2.2.2.2.1)) 44 (ur_50.1)) 48 (ur_50.2)) 41 (ur_57.1)) 42 (ur_57.2.1)) 43 (ur_57.2.2.1)) 44 (ur_57.2.2.2.1)) 45 (ur_57.2.2.2.2.1)) 46 (ur_57.2.2.2.2.2.1)) 47 (ur_57.2.2.2.2.2.2.1)) 44 (ur_68.1)) 48 (ur_68.2)) cd ur_57.2.2.2.2.2.2.2 H := by rw [ht] at hB; exact hB
              have hpr_68_0 : I7 (ur_57.1) (ur_57.2.1) (ur_68.1) (ur_57.2.2.2.2.1) (ur_57.2.2.2.2.2.1) := hwr_68.1
              have hpr_68_1 : ((ur_68.1) 24).toInt = ((ur_57.2.2.2.1) 24).toInt ∧ ((ur_57.2.2.2.2.2.1) 24).toInt = ((ur_57.2.2.2.2.2.1) 24).toInt := hwr_68.2
              refine lv_iinc (v := 12) (lv' := [(2, .int 12), (4, .int x_60), (3, .int r_57), (0, .ref h0), (1, .int p0)]) hx hb dX10_reads_75 hl (k := 2) rfl (by decide) (by decide) rfl (fun ls hl => ?_)
              refine lv_goto (tgt := 2) hx hb dX10_reads_78 (by decide) ?_
              refine lv_iload_n hx hb dX10_reads_2 rfl (lv_at hl 0 rfl) ?_
              refine lv_aload_n hx hb dX10_reads_3 rfl (lv_at hl 3 rfl) ?_
              refine va_get (D := DG E) (ci := 10) (v := .ref (rf 44)) (C := RX10) (T := TX10) (N := 49) hx hb hts iw_X10 hown hK.1 (va_one hM.1) 0 rfl rfl 44 (by decide) (hts _ fl_X10_128) (fun _ h9 => h9) rfl dX10_reads_4 ?_
              refine lv_bipush (v := 24) hx hb dX10_reads_7 (by decide) ?_
              have ha_69 : va_at (DG E) vwCl (rf 44, .inl (E.2.2 0, 25, .inl (ur_68.1))) _ := hM.2 44 (by decide) (by decide) (by decide)
              refine va_iald (D := DG E) hx hb hK.1 (va_one ha_69) 0 0 rfl rfl (show vp_in (24) 25 from vp_in_iff.mpr ⟨by decide, by decide⟩) dX10_reads_9 ?_
              refine W.eq (g2 := F0 m 10 ls [.int ((ur_68.1) 24), .int 12]) (by rfl) ?_
              have q_70 : 0 ≤ ((ur_57.1) 24).toInt ∧ ((ur_57.1) 24).toInt ≤ 3 ∧ 0 ≤ ((ur_68.1) 24).toInt ∧ ((ur_68.1) 24).toInt ≤ 12 ∧ (((ur_57.2.1) 24).toInt ≠ 0 ∧ ((ur_57.2.1) 24).toInt ≠ 1 ∧ ((ur_57.2.1) 24).toInt ≠ 4 ∨ ((ur_68.1) 24).toInt ≤ 4) ∧ (((ur_57.2.1) 24).toInt < 1 ∨ 3 < ((ur_57.2.1) 24).toInt ∨ (0 ≤ ((ur_57.2.2.2.2.1) 24).toInt ∧ ((ur_57.2.2.2.2.1) 24).toInt ≤ 5)) ∧ -1 ≤ ((ur_57.2.2.2.2.2.1) 24).toInt ∧ ((ur_57.2.2.2.2.2.1) 24).toInt ≤ 60 := hpr_68_0 24 (by omega)
              refine lv_icmp_ge (tgt := 81) hx hb dX10_reads_10 (by decide) (fun c_71 => ?_) (fun c_71 => by exfalso; simp only [lt_I, le_I, eq_I, i_0, i_1, i_2, i_3, i_4, i_5, i_6, i_7, i_8, i_10, i_12, i_16, i_20, i_23, i_24, i_31, i_32, i_63, i_64, i_m1, i_9, i_11, i_13, i_25, i_60, i_75, i_79, i_80, i_96, i_100] at c_71; omega)
              simp only [lt_I, le_I, eq_I, i_0, i_1, i_2, i_3, i_4, i_5, i_6, i_7, i_8, i_10, i_12, i_16, i_20, i_23, i_24, i_31, i_32, i_63, i_64, i_m1, i_9, i_11, i_13, i_25, i_60, i_75, i_79, i_80, i_96, i_100] at c_71
              exact W.vret hx hb hr (fun t ht hW => ⟨⟨((ur_57.1), (ur_57.2.1), (ur_57.2.2.1), (ur_68.1), (ur_57.2.2.2.2.1), (ur_57.2.2.2.2.2.1), (ur_57.2.2.2.2.2.2.1), (ur_68.2), ur_57.2.2.2.2.2.2.2), rfl, ⟨hpr_68_0, (by show 0 ≤ ur_57.2.2.2.2.2.2.2.toInt ∧ ur_57.2.2.2.2.2.2.2.toInt ≤ 24; omega)⟩, (by show MH E h0 rf t0 t1 t2 (uA (uA (uA (uA (uA (uA (uA (uA A 41 (ur_57.1)) 42 (ur_57.2.1)) 43 (ur_57.2.2.1)) 44 (ur_68.1)) 45 (ur_57.2.2.2.2.1)) 46 (ur_57.2.2.2.2.2.1)) 47 (ur_57.2.2.2.2.2.2.1)) 48 (ur_68.2)) cd ur_57.2.2.2.2.2.2.2 t.heap; rw [ht]; exact hM.cg (fun k => by simp only [uA]; (repeat' split) <;> first | rfl | (exfalso; omega) | (simp_all; done)))⟩, hS.F ht⟩) hS.2.2 dX10_reads_81
    · simp only [lt_I, le_I, eq_I, i_0, i_1, i_2, i_3, i_4, i_5, i_6, i_7, i_8, i_10, i_12, i_16, i_20, i_23, i_24, i_31, i_32, i_63, i_64, i_m1, i_9, i_11, i_13, i_25, i_60, i_75, i_79, i_80, i_96, i_100] at c_13
      refine lv_iload hx hb dX10_reads_66 (lv_at hl 0 rfl) ?_
      refine lv_goto (tgt := 72) hx hb dX10_reads_68 (by decide) ?_
      refine va_callv (rnV (fun H => MH E h0 rf t0 t1 t2 (uA (uA (uA (uA (uA (uA (uA A 41 (ur_7.1)) 42 (ur_7.2.1)) 43 (ur_7.2.2.1)) 44 (ur_7.2.2.2.1)) 45 (ur_7.2.2.2.2.1)) 46 (ur_7.2.2.2.2.2.1)) 47 (ur_7.2.2.2.2.2.2.1)) cd ur_7.2.2.2.2.2.2.2 H) (As := [.int r_7, .int p0, .int x_12, .int x_10]) (rest := []) ⟨hx, hb, hml, hown, hts⟩ (u_X10_load l E z0 G hGz h0 rf hR t0 t1 t2 (uA (uA (uA (uA (uA (uA (uA A 41 (ur_7.1)) 42 (ur_7.2.1)) 43 (ur_7.2.2.1)) 44 (ur_7.2.2.2.1)) 45 (ur_7.2.2.2.2.1)) 46 (ur_7.2.2.2.2.2.1)) 47 (ur_7.2.2.2.2.2.2.1)) cd ur_7.2.2.2.2.2.2.2 r_7 p0 x_12 x_10 hpr_7_0 (by first | omega | decide) (by first | omega | decide) (by first | omega | decide) (by first | omega | decide) (by first | omega | decide)) (cwV 4 hts (gdV ml_X10_203 im_X10_load se_X10_X10_load in_X10 co_X10_load rfl) rfl rfl rfl (by decide +kernel) ⟨Nat.le_of_ble_eq_true rfl, Nat.le_of_ble_eq_true rfl⟩) hM (fun U hU hW => hK.go hW hS hAz hU) (va_recv hK.1 (va_one hM.1) (ci := 10) (q0 := 0) rfl rfl) rfl rfl hl.1 rfl (lv_room (Nat.le_of_ble_eq_true rfl)) dX10_reads_72 ⟨Nat.le_of_ble_eq_true rfl, Nat.le_of_ble_eq_true rfl⟩) hS (fun q _ h => h) (fun q h => h) (fun ur_72 t H locs ht hvm hwr_72 hB hz hk hS => ?_)
      have hM : MH E h0 rf t0 t1 t2 (uA (uA (uA (uA (uA (uA (uA (uA (uA A 41 (ur_7.1)) 42 (ur_7.2.1)) 43 (ur_7.2.2.1)) 44 (ur_7.2.2.2.1)) 45 (ur_7.2.2.2.2.1)) 46 (ur_7.2.2.2.2.2.1)) 47 (ur_7.2.2.2.2.2.2.1)) 44 (ur_72.1)) 48 (ur_72.2)) cd ur_7.2.2.2.2.2.2.2 H := by rw [ht] at hB; exact hB
      have hpr_72_0 : I7 (ur_7.1) (ur_7.2.1) (ur_72.1) (ur_7.2.2.2.2.1) (ur_7.2.2.2.2.2.1) := hwr_72.1
      have hpr_72_1 : ((ur_72.1) 24).toInt = ((ur_7.2.2.2.1) 24).toInt ∧ ((ur_7.2.2.2.2.2.1) 24).toInt = ((ur_7.2.2.2.2.2.1) 24).toInt := hwr_72.2
      refine lv_iinc (v := 4) (lv' := [(2, .int 4), (4, .int x_10), (3, .int r_7), (0, .ref h0), (1, .int p0)]) hx hb dX10_reads_75 hl (k := 2) rfl (by decide) (by decide) rfl (fun ls hl => ?_)
      refine lv_goto (tgt := 2) hx hb dX10_reads_78 (by decide) ?_
      refine lv_iload_n hx hb dX10_reads_2 rfl (lv_at hl 0 rfl) ?_
      refine lv_aload_n hx hb dX10_reads_3 rfl (lv_at hl 3 rfl) ?_
      refine va_get (D := DG E) (ci := 10) (v := .ref (rf 44)) (C := RX10) (T := TX10) (N := 49) hx hb hts iw_X10 hown hK.1 (va_one hM.1) 0 rfl rfl 44 (by decide) (hts _ fl_X10_128) (fun _ h9 => h9) rfl dX10_reads_4 ?_
      refine lv_bipush (v := 24) hx hb dX10_reads_7 (by decide) ?_
      have ha_73 : va_at (DG E) vwCl (rf 44, .inl (E.2.2 0, 25, .inl (ur_72.1))) _ := hM.2 44 (by decide) (by decide) (by decide)
      refine va_iald (D := DG E) hx hb hK.1 (va_one ha_73) 0 0 rfl rfl (show vp_in (24) 25 from vp_in_iff.mpr ⟨by decide, by decide⟩) dX10_reads_9 ?_
      refine W.eq (g2 := F0 m 10 ls [.int ((ur_72.1) 24), .int 4]) (by rfl) ?_
      have q_74 : 0 ≤ ((ur_7.1) 24).toInt ∧ ((ur_7.1) 24).toInt ≤ 3 ∧ 0 ≤ ((ur_72.1) 24).toInt ∧ ((ur_72.1) 24).toInt ≤ 12 ∧ (((ur_7.2.1) 24).toInt ≠ 0 ∧ ((ur_7.2.1) 24).toInt ≠ 1 ∧ ((ur_7.2.1) 24).toInt ≠ 4 ∨ ((ur_72.1) 24).toInt ≤ 4) ∧ (((ur_7.2.1) 24).toInt < 1 ∨ 3 < ((ur_7.2.1) 24).toInt ∨ (0 ≤ ((ur_7.2.2.2.2.1) 24).toInt ∧ ((ur_7.2.2.2.2.1) 24).toInt ≤ 5)) ∧ -1 ≤ ((ur_7.2.2.2.2.2.1) 24).toInt ∧ ((ur_7.2.2.2.2.2.1) 24).toInt ≤ 60 := hpr_72_0 24 (by omega)
      refine lv_icmp_ge (tgt := 81) hx hb dX10_reads_10 (by decide) (fun c_75 => ?_) (fun c_75 => ?_)
      · simp only [lt_I, le_I, eq_I, i_0, i_1, i_2, i_3, i_4, i_5, i_6, i_7, i_8, i_10, i_12, i_16, i_20, i_23, i_24, i_31, i_32, i_63, i_64, i_m1, i_9, i_11, i_13, i_25, i_60, i_75, i_79, i_80, i_96, i_100] at c_75
        exact W.vret hx hb hr (fun t ht hW => ⟨⟨((ur_7.1), (ur_7.2.1), (ur_7.2.2.1), (ur_72.1), (ur_7.2.2.2.2.1), (ur_7.2.2.2.2.2.1), (ur_7.2.2.2.2.2.2.1), (ur_72.2), ur_7.2.2.2.2.2.2.2), rfl, ⟨hpr_72_0, (by show 0 ≤ ur_7.2.2.2.2.2.2.2.toInt ∧ ur_7.2.2.2.2.2.2.2.toInt ≤ 24; omega)⟩, (by show MH E h0 rf t0 t1 t2 (uA (uA (uA (uA (uA (uA (uA (uA A 41 (ur_7.1)) 42 (ur_7.2.1)) 43 (ur_7.2.2.1)) 44 (ur_72.1)) 45 (ur_7.2.2.2.2.1)) 46 (ur_7.2.2.2.2.2.1)) 47 (ur_7.2.2.2.2.2.2.1)) 48 (ur_72.2)) cd ur_7.2.2.2.2.2.2.2 t.heap; rw [ht]; exact hM.cg (fun k => by simp only [uA]; (repeat' split) <;> first | rfl | (exfalso; omega) | (simp_all; done)))⟩, hS.F ht⟩) hS.2.2 dX10_reads_81
      · simp only [lt_I, le_I, eq_I, i_0, i_1, i_2, i_3, i_4, i_5, i_6, i_7, i_8, i_10, i_12, i_16, i_20, i_23, i_24, i_31, i_32, i_63, i_64, i_m1, i_9, i_11, i_13, i_25, i_60, i_75, i_79, i_80, i_96, i_100] at c_75
        refine lv_aload_n hx hb dX10_reads_13 rfl (lv_at hl 3 rfl) ?_
        refine lv_iload_n hx hb dX10_reads_14 rfl (lv_at hl 4 rfl) ?_
        refine lv_iconst (v := 4) hx hb dX10_reads_15 (by decide) ?_
        refine lv_aload_n hx hb dX10_reads_16 rfl (lv_at hl 3 rfl) ?_
        refine va_get (D := DG E) (ci := 10) (v := .ref (rf 43)) (C := RX10) (T := TX10) (N := 49) hx hb hts iw_X10 hown hK.1 (va_one hM.1) 0 rfl rfl 43 (by decide) (hts _ fl_X10_125) (fun _ h9 => h9) rfl dX10_reads_17 ?_
        refine lv_bipush (v := 24) hx hb dX10_reads_20 (by decide) ?_
        have ha_76 : va_at (DG E) vwCl (rf 43, .inl (E.2.2 0, 25, .inl (ur_7.2.2.1))) _ := hM.2 43 (by decide) (by decide) (by decide)
        refine va_iald (D := DG E) hx hb hK.1 (va_one ha_76) 0 0 rfl rfl (show vp_in (24) 25 from vp_in_iff.mpr ⟨by decide, by decide⟩) dX10_reads_22 ?_
        refine W.eq (g2 := F0 m 23 ls [.int ((ur_7.2.2.1) 24), .int 4, .int p0, .ref h0]) (by rfl) ?_
        refine lv_iload_n hx hb dX10_reads_23 rfl (lv_at hl 0 rfl) ?_
        refine lv_iconst (v := 4) hx hb dX10_reads_24 (by decide) ?_
        refine lv_idiv hx hb dX10_reads_25 (by decide) ?_
        refine W.eq (g2 := F0 m 26 ls [.int 1, .int ((ur_7.2.2.1) 24), .int 4, .int p0, .ref h0]) (by rfl) ?_
        refine lv_iadd hx hb dX10_reads_26 ?_
        refine lv_topi (fun x_77 ex_77 => ?_)
        refine lv_bipush (v := 64) hx hb dX10_reads_27 (by decide) ?_
        refine lv_irem hx hb dX10_reads_29 (by decide) ?_
        refine lv_topi (fun x_78 ex_78 => ?_)
        refine lv_iconst (v := (-1)) hx hb dX10_reads_30 (by decide) ?_
        refine lv_iconst (v := (-1)) hx hb dX10_reads_31 (by decide) ?_
        refine lv_iconst (v := 0) hx hb dX10_reads_32 (by decide) ?_
        refine va_calli (rnV (fun H => MH E h0 rf t0 t1 t2 (uA (uA (uA (uA (uA (uA (uA (uA (uA A 41 (ur_7.1)) 42 (ur_7.2.1)) 43 (ur_7.2.2.1)) 44 (ur_7.2.2.2.1)) 45 (ur_7.2.2.2.2.1)) 46 (ur_7.2.2.2.2.2.1)) 47 (ur_7.2.2.2.2.2.2.1)) 44 (ur_72.1)) 48 (ur_72.2)) cd ur_7.2.2.2.2.2.2.2 H) (As := [.int p0, .int 4, .int x_78, .int (-1), .int (-1), .int 0]) (rest := []) ⟨hx, hb, hml, hown, hts⟩ (u_X10_emit l E z0 G hGz h0 rf hR t0 t1 t2 (uA (uA (uA (uA (uA (uA (uA (uA (uA A 41 (ur_7.1)) 42 (ur_7.2.1)) 43 (ur_7.2.2.1)) 44 (ur_7.2.2.2.1)) 45 (ur_7.2.2.2.2.1)) 46 (ur_7.2.2.2.2.2.1)) 47 (ur_7.2.2.2.2.2.2.1)) 44 (ur_72.1)) 48 (ur_72.2)) cd ur_7.2.2.2.2.2.2.2 p0 4 x_78 (-1) (-1) 0 hpr_72_0 (by have := i_m1; have := i_0; have := i_4; first | omega | decide) (by have := i_m1; have := i_0; have := i_4; first | omega | decide) (by have := i_m1; have := i_0; have := i_4; first | omega | decide) (by have := i_m1; have := i_0; have := i_4; first | omega | decide)) (cwV 6 hts (gdV ml_X10_199 im_X10_emit se_X10_X10_emit in_X10 co_X10_emit rfl) rfl rfl rfl (by decide +kernel) ⟨Nat.le_of_ble_eq_true rfl, Nat.le_of_ble_eq_true rfl⟩) hM (fun U hU hW => hK.go hW hS hAz hU) (va_recv hK.1 (va_one hM.1) (ci := 10) (q0 := 0) rfl rfl) rfl rfl hl.1 rfl (lv_room (Nat.le_of_ble_eq_true rfl)) dX10_reads_33 ⟨Nat.le_of_ble_eq_true rfl, Nat.le_of_ble_eq_true rfl⟩) hS (fun q _ h => h) (fun q h => h) (fun r_79 ur_79 t H locs ht hvm hwr_79 hB hz hk hS => ?_)
        have hM : MH E h0 rf t0 t1 t2 (uA (uA (uA (uA (uA (uA (uA (uA (uA (uA (uA (uA (uA (uA (uA (uA A 41 (ur_7.1)) 42 (ur_7.2.1)) 43 (ur_7.2.2.1)) 44 (ur_7.2.2.2.1)) 45 (ur_7.2.2.2.2.1)) 46 (ur_7.2.2.2.2.2.1)) 47 (ur_7.2.2.2.2.2.2.1)) 44 (ur_72.1)) 48 (ur_72.2)) 41 (ur_79.1)) 42 (ur_79.2.1)) 43 (ur_79.2.2.1)) 44 (ur_79.2.2.2.1)) 45 (ur_79.2.2.2.2.1)) 46 (ur_79.2.2.2.2.2.1)) 47 (ur_79.2.2.2.2.2.2.1)) cd ur_79.2.2.2.2.2.2.2 H := by rw [ht] at hB; exact hB
        have hpr_79_0 : I7 (ur_79.1) (ur_79.2.1) (ur_79.2.2.2.1) (ur_79.2.2.2.2.1) (ur_79.2.2.2.2.2.1) := hwr_79.1
        have hpr_79_1 : 0 ≤ ur_79.2.2.2.2.2.2.2.toInt ∧ ur_79.2.2.2.2.2.2.2.toInt ≤ 24 := hwr_79.2.1
        have hpr_79_2 : -1 ≤ r_79.toInt ∧ r_79.toInt ≤ 23 := hwr_79.2.2.1
        have hpr_79_3 : ∀ n : Nat, (n : Int) = r_79.toInt → (ur_79.2.1) n = (4 : Int32) := hwr_79.2.2.2.1
        have hpr_79_4 : ((ur_79.2.2.2.1) 24).toInt = ((ur_72.1) 24).toInt ∧ ((ur_79.2.2.2.2.2.1) 24).toInt = ((ur_7.2.2.2.2.2.1) 24).toInt := hwr_79.2.2.2.2
        have := i_m1
        have := i_0
        have := i_4
        refine lv_istore_n (lv' := [(3, .int r_79), (2, .int 4), (4, .int x_10), (0, .ref h0), (1, .int p0)]) hx hb dX10_reads_36 rfl hl (by decide) rfl (fun ls hl => ?_)
        refine lv_aload_n hx hb dX10_reads_37 rfl (lv_at hl 3 rfl) ?_
        refine va_get (D := DG E) (ci := 10) (v := .ref (rf 44)) (C := RX10) (T := TX10) (N := 49) hx hb hts iw_X10 hown hK.1 (va_one hM.1) 0 rfl rfl 44 (by decide) (hts _ fl_X10_128) (fun _ h9 => h9) rfl dX10_reads_38 ?_
        refine lv_bipush (v := 24) hx hb dX10_reads_41 (by decide) ?_
        have ha_80 : va_at (DG E) vwCl (rf 44, .inl (E.2.2 0, 25, .inl (ur_79.2.2.2.1))) _ := hM.2 44 (by decide) (by decide) (by decide)
        refine va_iald (D := DG E) hx hb hK.1 (va_one ha_80) 0 0 rfl rfl (show vp_in (24) 25 from vp_in_iff.mpr ⟨by decide, by decide⟩) dX10_reads_43 ?_
        refine W.eq (g2 := F0 m 44 ls [.int ((ur_79.2.2.2.1) 24)]) (by rfl) ?_
        have q_81 : 0 ≤ ((ur_79.1) 24).toInt ∧ ((ur_79.1) 24).toInt ≤ 3 ∧ 0 ≤ ((ur_79.2.2.2.1) 24).toInt ∧ ((ur_79.2.2.2.1) 24).toInt ≤ 12 ∧ (((ur_79.2.1) 24).toInt ≠ 0 ∧ ((ur_79.2.1) 24).toInt ≠ 1 ∧ ((ur_79.2.1) 24).toInt ≠ 4 ∨ ((ur_79.2.2.2.1) 24).toInt ≤ 4) ∧ (((ur_79.2.1) 24).toInt < 1 ∨ 3 < ((ur_79.2.1) 24).toInt ∨ (0 ≤ ((ur_79.2.2.2.2.1) 24).toInt ∧ ((ur_79.2.2.2.2.1) 24).toInt ≤ 5)) ∧ -1 ≤ ((ur_79.2.2.2.2.2.1) 24).toInt ∧ ((ur_79.2.2.2.2.2.1) 24).toInt ≤ 60 := hpr_79_0 24 (by omega)
        refine lv_iload_n hx hb dX10_reads_44 rfl (lv_at hl 1 rfl) ?_
        refine lv_isub hx hb dX10_reads_45 ?_
        refine lv_topi (fun x_82 ex_82 => ?_)
        have fx_82 : x_82.toInt = ((ur_79.2.2.2.1) 24).toInt - 4 := by have h9 := s_sub (x := ((ur_79.2.2.2.1) 24)) (y := 4) (by rw [i_4]; omega) (by rw [i_4]; omega); rw [i_4] at h9; rw [ex_82]; exact h9
        refine lv_istore (lv' := [(4, .int x_82), (3, .int r_79), (2, .int 4), (0, .ref h0), (1, .int p0)]) hx hb dX10_reads_46 hl (by decide) rfl (fun ls hl => ?_)
        refine lv_aload_n hx hb dX10_reads_48 rfl (lv_at hl 3 rfl) ?_
        refine lv_iload_n hx hb dX10_reads_49 rfl (lv_at hl 1 rfl) ?_
        refine lv_iload_n hx hb dX10_reads_50 rfl (lv_at hl 4 rfl) ?_
        refine lv_aload_n hx hb dX10_reads_51 rfl (lv_at hl 3 rfl) ?_
        refine va_get (D := DG E) (ci := 10) (v := .ref (rf 46)) (C := RX10) (T := TX10) (N := 49) hx hb hts iw_X10 hown hK.1 (va_one hM.1) 0 rfl rfl 46 (by decide) (hts _ fl_X10_134) (fun _ h9 => h9) rfl dX10_reads_52 ?_
        refine lv_bipush (v := 24) hx hb dX10_reads_55 (by decide) ?_
        have ha_83 : va_at (DG E) vwCl (rf 46, .inl (E.2.2 0, 25, .inl (ur_79.2.2.2.2.2.1))) _ := hM.2 46 (by decide) (by decide) (by decide)
        refine va_iald (D := DG E) hx hb hK.1 (va_one ha_83) 0 0 rfl rfl (show vp_in (24) 25 from vp_in_iff.mpr ⟨by decide, by decide⟩) dX10_reads_57 ?_
        refine W.eq (g2 := F0 m 58 ls [.int ((ur_79.2.2.2.2.2.1) 24), .int p0, .int r_79, .ref h0]) (by rfl) ?_
        refine lv_iload_n hx hb dX10_reads_58 rfl (lv_at hl 2 rfl) ?_
        refine lv_iadd hx hb dX10_reads_59 ?_
        refine lv_topi (fun x_84 ex_84 => ?_)
        have fx_84 : x_84.toInt = ((ur_79.2.2.2.2.2.1) 24).toInt + 4 := by have h9 := s_add (x := ((ur_79.2.2.2.2.2.1) 24)) (y := 4) (by rw [i_4]; omega) (by rw [i_4]; omega); rw [i_4] at h9; rw [ex_84]; exact h9
        refine lv_iload hx hb dX10_reads_60 (lv_at hl 0 rfl) ?_
        refine lv_iconst (v := 4) hx hb dX10_reads_62 (by decide) ?_
        refine lv_icmp_ge (tgt := 71) hx hb dX10_reads_63 (by decide) (fun c_85 => ?_) (fun c_85 => ?_)
        · simp only [lt_I, le_I, eq_I, i_0, i_1, i_2, i_3, i_4, i_5, i_6, i_7, i_8, i_10, i_12, i_16, i_20, i_23, i_24, i_31, i_32, i_63, i_64, i_m1, i_9, i_11, i_13, i_25, i_60, i_75, i_79, i_80, i_96, i_100] at c_85
          refine lv_iconst (v := 4) hx hb dX10_reads_71 (by decide) ?_
          refine va_callv (rnV (fun H => MH E h0 rf t0 t1 t2 (uA (uA (uA (uA (uA (uA (uA (uA (uA (uA (uA (uA (uA (uA (uA (uA A 41 (ur_7.1)) 42 (ur_7.2.1)) 43 (ur_7.2.2.1)) 44 (ur_7.2.2.2.1)) 45 (ur_7.2.2.2.2.1)) 46 (ur_7.2.2.2.2.2.1)) 47 (ur_7.2.2.2.2.2.2.1)) 44 (ur_72.1)) 48 (ur_72.2)) 41 (ur_79.1)) 42 (ur_79.2.1)) 43 (ur_79.2.2.1)) 44 (ur_79.2.2.2.1)) 45 (ur_79.2.2.2.2.1)) 46 (ur_79.2.2.2.2.2.1)) 47 (ur_79.2.2.2.2.2.2.1)) cd ur_79.2.2.2.2.2.2.2 H) (As := [.int r_79, .int p0, .int x_84, .int 4]) (rest := []) ⟨hx, hb, hml, hown, hts⟩ (u_X10_load l E z0 G hGz h0 rf hR t0 t1 t2 (uA (uA (uA (uA (uA (uA (uA (uA (uA (uA (uA (uA (uA (uA (uA (uA A 41 (ur_7.1)) 42 (ur_7.2.1)) 43 (ur_7.2.2.1)) 44 (ur_7.2.2.2.1)) 45 (ur_7.2.2.2.2.1)) 46 (ur_7.2.2.2.2.2.1)) 47 (ur_7.2.2.2.2.2.2.1)) 44 (ur_72.1)) 48 (ur_72.2)) 41 (ur_79.1)) 42 (ur_79.2.1)) 43 (ur_79.2.2.1)) 44 (ur_79.2.2.2.1)) 45 (ur_79.2.2.2.2.1)) 46 (ur_79.2.2.2.2.2.1)) 47 (ur_79.2.2.2.2.2.2.1)) cd ur_79.2.2.2.2.2.2.2 r_79 p0 x_84 4 hpr_79_0 (by have := i_4; first | omega | decide) (by have := i_4; first | omega | decide) (by have := i_4; first | omega | decide) (by have := i_4; first | omega | decide) (by have := i_4; first | omega | decide)) (cwV 4 hts (gdV ml_X10_203 im_X10_load se_X10_X10_load in_X10 co_X10_load rfl) rfl rfl rfl (by decide +kernel) ⟨Nat.le_of_ble_eq_true rfl, Nat.le_of_ble_eq_true rfl⟩) hM (fun U hU hW => hK.go hW hS hAz hU) (va_recv hK.1 (va_one hM.1) (ci := 10) (q0 := 0) rfl rfl) rfl rfl hl.1 rfl (lv_room (Nat.le_of_ble_eq_true rfl)) dX10_reads_72 ⟨Nat.le_of_ble_eq_true rfl, Nat.le_of_ble_eq_true rfl⟩) hS (fun q _ h => h) (fun q h => h) (fun ur_86 t H locs ht hvm hwr_86 hB hz hk hS => ?_)
          have hM : MH E h0 rf t0 t1 t2 (uA (uA (uA (uA (uA (uA (uA (uA (uA (uA (uA (uA (uA (uA (uA (uA (uA (uA A 41 (ur_7.1)) 42 (ur_7.2.1)) 43 (ur_7.2.2.1)) 44 (ur_7.2.2.2.1)) 45 (ur_7.2.2.2.2.1)) 46 (ur_7.2.2.2.2.2.1)) 47 (ur_7.2.2.2.2.2.2.1)) 44 (ur_72.1)) 48 (ur_72.2)) 41 (ur_79.1)) 42 (ur_79.2.1)) 43 (ur_79.2.2.1)) 44 (ur_79.2.2.2.1)) 45 (ur_79.2.2.2.2.1)) 46 (ur_79.2.2.2.2.2.1)) 47 (ur_79.2.2.2.2.2.2.1)) 44 (ur_86.1)) 48 (ur_86.2)) cd ur_79.2.2.2.2.2.2.2 H := by rw [ht] at hB; exact hB
          have hpr_86_0 : I7 (ur_79.1) (ur_79.2.1) (ur_86.1) (ur_79.2.2.2.2.1) (ur_79.2.2.2.2.2.1) := hwr_86.1
          have hpr_86_1 : ((ur_86.1) 24).toInt = ((ur_79.2.2.2.1) 24).toInt ∧ ((ur_79.2.2.2.2.2.1) 24).toInt = ((ur_79.2.2.2.2.2.1) 24).toInt := hwr_86.2
          have := i_4
          refine lv_iinc (v := 8) (lv' := [(2, .int 8), (4, .int x_82), (3, .int r_79), (0, .ref h0), (1, .int p0)]) hx hb dX10_reads_75 hl (k := 2) rfl (by decide) (by decide) rfl (fun ls hl => ?_)
          refine lv_goto (tgt := 2) hx hb dX10_reads_78 (by decide) ?_
          refine lv_iload_n hx hb dX10_reads_2 rfl (lv_at hl 0 rfl) ?_
          refine lv_aload_n hx hb dX10_reads_3 rfl (lv_at hl 3 rfl) ?_
          refine va_get (D := DG E) (ci := 10) (v := .ref (rf 44)) (C := RX10) (T := TX10) (N := 49) hx hb hts iw_X10 hown hK.1 (va_one hM.1) 0 rfl rfl 44 (by decide) (hts _ fl_X10_128) (fun _ h9 => h9) rfl dX10_reads_4 ?_
          refine lv_bipush (v := 24) hx hb dX10_reads_7 (by decide) ?_
          have ha_87 : va_at (DG E) vwCl (rf 44, .inl (E.2.2 0, 25, .inl (ur_86.1))) _ := hM.2 44 (by decide) (by decide) (by decide)
          refine va_iald (D := DG E) hx hb hK.1 (va_one ha_87) 0 0 rfl rfl (show vp_in (24) 25 from vp_in_iff.mpr ⟨by decide, by decide⟩) dX10_reads_9 ?_
          refine W.eq (g2 := F0 m 10 ls [.int ((ur_86.1) 24), .int 8]) (by rfl) ?_
          have q_88 : 0 ≤ ((ur_79.1) 24).toInt ∧ ((ur_79.1) 24).toInt ≤ 3 ∧ 0 ≤ ((ur_86.1) 24).toInt ∧ ((ur_86.1) 24).toInt ≤ 12 ∧ (((ur_79.2.1) 24).toInt ≠ 0 ∧ ((ur_79.2.1) 24).toInt ≠ 1 ∧ ((ur_79.2.1) 24).toInt ≠ 4 ∨ ((ur_86.1) 24).toInt ≤ 4) ∧ (((ur_79.2.1) 24).toInt < 1 ∨ 3 < ((ur_79.2.1) 24).toInt ∨ (0 ≤ ((ur_79.2.2.2.2.1) 24).toInt ∧ ((ur_79.2.2.2.2.1) 24).toInt ≤ 5)) ∧ -1 ≤ ((ur_79.2.2.2.2.2.1) 24).toInt ∧ ((ur_79.2.2.2.2.2.1) 24).toInt ≤ 60 := hpr_86_0 24 (by omega)
          refine lv_icmp_ge (tgt := 81) hx hb dX10_reads_10 (by decide) (fun c_89 => ?_) (fun c_89 => ?_)
          · simp only [lt_I, le_I, eq_I, i_0, i_1, i_2, i_3, i_4, i_5, i_6, i_7, i_8, i_10, i_12, i_16, i_20, i_23, i_24, i_31, i_32, i_63, i_64, i_m1, i_9, i_11, i_13, i_25, i_60, i_75, i_79, i_80, i_96, i_100] at c_89
            exact W.vret hx hb hr (fun t ht hW => ⟨⟨((ur_79.1), (ur_79.2.1), (ur_79.2.2.1), (ur_86.1), (ur_79.2.2.2.2.1), (ur_79.2.2.2.2.2.1), (ur_79.2.2.2.2.2.2.1), (ur_86.2), ur_79.2.2.2.2.2.2.2), rfl, ⟨hpr_86_0, (by show 0 ≤ ur_79.2.2.2.2.2.2.2.toInt ∧ ur_79.2.2.2.2.2.2.2.toInt ≤ 24; omega)⟩, (by show MH E h0 rf t0 t1 t2 (uA (uA (uA (uA (uA (uA (uA (uA A 41 (ur_79.1)) 42 (ur_79.2.1)) 43 (ur_79.2.2.1)) 44 (ur_86.1)) 45 (ur_79.2.2.2.2.1)) 46 (ur_79.2.2.2.2.2.1)) 47 (ur_79.2.2.2.2.2.2.1)) 48 (ur_86.2)) cd ur_79.2.2.2.2.2.2.2 t.heap; rw [ht]; exact hM.cg (fun k => by simp only [uA]; (repeat' split) <;> first | rfl | (exfalso; omega) | (simp_all; done)))⟩, hS.F ht⟩) hS.2.2 dX10_reads_81
          · simp only [lt_I, le_I, eq_I, i_0, i_1, i_2, i_3, i_4, i_5, i_6, i_7, i_8, i_10, i_12, i_16, i_20, i_23, i_24, i_31, i_32, i_63, i_64, i_m1, i_9, i_11, i_13, i_25, i_60, i_75, i_79, i_80, i_96, i_100] at c_89
            refine lv_aload_n hx hb dX10_reads_13 rfl (lv_at hl 3 rfl) ?_
            refine lv_iload_n hx hb dX10_reads_14 rfl (lv_at hl 4 rfl) ?_
            refine lv_iconst (v := 4) hx hb dX10_reads_15 (by decide) ?_
            refine lv_aload_n hx hb dX10_reads_16 rfl (lv_at hl 3 rfl) ?_
            refine va_get (D := DG E) (ci := 10) (v := .ref (rf 43)) (C := RX10) (T := TX10) (N := 49) hx hb hts iw_X10 hown hK.1 (va_one hM.1) 0 rfl rfl 43 (by decide) (hts _ fl_X10_125) (fun _ h9 => h9) rfl dX10_reads_17 ?_
            refine lv_bipush (v := 24) hx hb dX10_reads_20 (by decide) ?_
            have ha_90 : va_at (DG E) vwCl (rf 43, .inl (E.2.2 0, 25, .inl (ur_79.2.2.1))) _ := hM.2 43 (by decide) (by decide) (by decide)
            refine va_iald (D := DG E) hx hb hK.1 (va_one ha_90) 0 0 rfl rfl (show vp_in (24) 25 from vp_in_iff.mpr ⟨by decide, by decide⟩) dX10_reads_22 ?_
            refine W.eq (g2 := F0 m 23 ls [.int ((ur_79.2.2.1) 24), .int 4, .int p0, .ref h0]) (by rfl) ?_
            refine lv_iload_n hx hb dX10_reads_23 rfl (lv_at hl 0 rfl) ?_
            refine lv_iconst (v := 4) hx hb dX10_reads_24 (by decide) ?_
            refine lv_idiv hx hb dX10_reads_25 (by decide) ?_
            refine W.eq (g2 := F0 m 26 ls [.int 2, .int ((ur_79.2.2.1) 24), .int 4, .int p0, .ref h0]) (by rfl) ?_
            refine lv_iadd hx hb dX10_reads_26 ?_
            refine lv_topi (fun x_91 ex_91 => ?_)
            refine lv_bipush (v := 64) hx hb dX10_reads_27 (by decide) ?_
            refine lv_irem hx hb dX10_reads_29 (by decide) ?_
            refine lv_topi (fun x_92 ex_92 => ?_)
            refine lv_iconst (v := (-1)) hx hb dX10_reads_30 (by decide) ?_
            refine lv_iconst (v := (-1)) hx hb dX10_reads_31 (by decide) ?_
            refine lv_iconst (v := 0) hx hb dX10_reads_32 (by decide) ?_
            refine va_calli (rnV (fun H => MH E h0 rf t0 t1 t2 (uA (uA (uA (uA (uA (uA (uA (uA (uA (uA (uA (uA (uA (uA (uA (uA (uA (uA A 41 (ur_7.1)) 42 (ur_7.2.1)) 43 (ur_7.2.2.1)) 44 (ur_7.2.2.2.1)) 45 (ur_7.2.2.2.2.1)) 46 (ur_7.2.2.2.2.2.1)) 47 (ur_7.2.2.2.2.2.2.1)) 44 (ur_72.1)) 48 (ur_72.2)) 41 (ur_79.1)) 42 (ur_79.2.1)) 43 (ur_79.2.2.1)) 44 (ur_79.2.2.2.1)) 45 (ur_79.2.2.2.2.1)) 46 (ur_79.2.2.2.2.2.1)) 47 (ur_79.2.2.2.2.2.2.1)) 44 (ur_86.1)) 48 (ur_86.2)) cd ur_79.2.2.2.2.2.2.2 H) (As := [.int p0, .int 4, .int x_92, .int (-1), .int (-1), .int 0]) (rest := []) ⟨hx, hb, hml, hown, hts⟩ (u_X10_emit l E z0 G hGz h0 rf hR t0 t1 t2 (uA (uA (uA (uA (uA (uA (uA (uA (uA (uA (uA (uA (uA (uA (uA (uA (uA (uA A 41 (ur_7.1)) 42 (ur_7.2.1)) 43 (ur_7.2.2.1)) 44 (ur_7.2.2.2.1)) 45 (ur_7.2.2.2.2.1)) 46 (ur_7.2.2.2.2.2.1)) 47 (ur_7.2.2.2.2.2.2.1)) 44 (ur_72.1)) 48 (ur_72.2)) 41 (ur_79.1)) 42 (ur_79.2.1)) 43 (ur_79.2.2.1)) 44 (ur_79.2.2.2.1)) 45 (ur_79.2.2.2.2.1)) 46 (ur_79.2.2.2.2.2.1)) 47 (ur_79.2.2.2.2.2.2.1)) 44 (ur_86.1)) 48 (ur_86.2)) cd ur_79.2.2.2.2.2.2.2 p0 4 x_92 (-1) (-1) 0 hpr_86_0 (by have := i_m1; have := i_0; have := i_4; first | omega | decide) (by have := i_m1; have := i_0; have := i_4; first | omega | decide) (by have := i_m1; have := i_0; have := i_4; first | omega | decide) (by have := i_m1; have := i_0; have := i_4; first | omega | decide)) (cwV 6 hts (gdV ml_X10_199 im_X10_emit se_X10_X10_emit in_X10 co_X10_emit rfl) rfl rfl rfl (by decide +kernel) ⟨Nat.le_of_ble_eq_true rfl, Nat.le_of_ble_eq_true rfl⟩) hM (fun U hU hW => hK.go hW hS hAz hU) (va_recv hK.1 (va_one hM.1) (ci := 10) (q0 := 0) rfl rfl) rfl rfl hl.1 rfl (lv_room (Nat.le_of_ble_eq_true rfl)) dX10_reads_33 ⟨Nat.le_of_ble_eq_true rfl, Nat.le_of_ble_eq_true rfl⟩) hS (fun q _ h => h) (fun q h => h) (fun r_93 ur_93 t H locs ht hvm hwr_93 hB hz hk hS => ?_)
            have hM : MH E h0 rf t0 t1 t2 (uA (uA (uA (uA (uA (uA (uA (uA (uA (uA (uA (uA (uA (uA (uA (uA (uA (uA (uA (uA (uA (uA (uA (uA (uA A 41 (ur_7.1)) 42 (ur_7.2.1)) 43 (ur_7.2.2.1)) 44 (ur_7.2.2.2.1)) 45 (ur_7.2.2.2.2.1)) 46 (ur_7.2.2.2.2.2.1)) 47 (ur_7.2.2.2.2.2.2.1)) 44 (ur_72.1)) 48 (ur_72.2)) 41 (ur_79.1)) 42 (ur_79.2.1)) 43 (ur_79.2.2.1)) 44 (ur_79.2.2.2.1)) 45 (ur_79.2.2.2.2.1)) 46 (ur_79.2.2.2.2.2.1)) 47 (ur_79.2.2.2.2.2.2.1)) 44 (ur_86.1)) 48 (ur_86.2)) 41 (ur_93.1)) 42 (ur_93.2.1)) 43 (ur_93.2.2.1)) 44 (ur_93.2.2.2.1)) 45 (ur_93.2.2.2.2.1)) 46 (ur_93.2.2.2.2.2.1)) 47 (ur_93.2.2.2.2.2.2.1)) cd ur_93.2.2.2.2.2.2.2 H := by rw [ht] at hB; exact hB
            have hpr_93_0 : I7 (ur_93.1) (ur_93.2.1) (ur_93.2.2.2.1) (ur_93.2.2.2.2.1) (ur_93.2.2.2.2.2.1) := hwr_93.1
            have hpr_93_1 : 0 ≤ ur_93.2.2.2.2.2.2.2.toInt ∧ ur_93.2.2.2.2.2.2.2.toInt ≤ 24 := hwr_93.2.1
            have hpr_93_2 : -1 ≤ r_93.toInt ∧ r_93.toInt ≤ 23 := hwr_93.2.2.1
            have hpr_93_3 : ∀ n : Nat, (n : Int) = r_93.toInt → (ur_93.2.1) n = (4 : Int32) := hwr_93.2.2.2.1
            have hpr_93_4 : ((ur_93.2.2.2.1) 24).toInt = ((ur_86.1) 24).toInt ∧ ((ur_93.2.2.2.2.2.1) 24).toInt = ((ur_79.2.2.2.2.2.1) 24).toInt := hwr_93.2.2.2.2
            have := i_m1
            have := i_0
            have := i_4
            refine lv_istore_n (lv' := [(3, .int r_93), (2, .int 8), (4, .int x_82), (0, .ref h0), (1, .int p0)]) hx hb dX10_reads_36 rfl hl (by decide) rfl (fun ls hl => ?_)
            refine lv_aload_n hx hb dX10_reads_37 rfl (lv_at hl 3 rfl) ?_
            refine va_get (D := DG E) (ci := 10) (v := .ref (rf 44)) (C := RX10) (T := TX10) (N := 49) hx hb hts iw_X10 hown hK.1 (va_one hM.1) 0 rfl rfl 44 (by decide) (hts _ fl_X10_128) (fun _ h9 => h9) rfl dX10_reads_38 ?_
            refine lv_bipush (v := 24) hx hb dX10_reads_41 (by decide) ?_
            have ha_94 : va_at (DG E) vwCl (rf 44, .inl (E.2.2 0, 25, .inl (ur_93.2.2.2.1))) _ := hM.2 44 (by decide) (by decide) (by decide)
            refine va_iald (D := DG E) hx hb hK.1 (va_one ha_94) 0 0 rfl rfl (show vp_in (24) 25 from vp_in_iff.mpr ⟨by decide, by decide⟩) dX10_reads_43 ?_
            refine W.eq (g2 := F0 m 44 ls [.int ((ur_93.2.2.2.1) 24)]) (by rfl) ?_
            have q_95 : 0 ≤ ((ur_93.1) 24).toInt ∧ ((ur_93.1) 24).toInt ≤ 3 ∧ 0 ≤ ((ur_93.2.2.2.1) 24).toInt ∧ ((ur_93.2.2.2.1) 24).toInt ≤ 12 ∧ (((ur_93.2.1) 24).toInt ≠ 0 ∧ ((ur_93.2.1) 24).toInt ≠ 1 ∧ ((ur_93.2.1) 24).toInt ≠ 4 ∨ ((ur_93.2.2.2.1) 24).toInt ≤ 4) ∧ (((ur_93.2.1) 24).toInt < 1 ∨ 3 < ((ur_93.2.1) 24).toInt ∨ (0 ≤ ((ur_93.2.2.2.2.1) 24).toInt ∧ ((ur_93.2.2.2.2.1) 24).toInt ≤ 5)) ∧ -1 ≤ ((ur_93.2.2.2.2.2.1) 24).toInt ∧ ((ur_93.2.2.2.2.2.1) 24).toInt ≤ 60 := hpr_93_0 24 (by omega)
            refine lv_iload_n hx hb dX10_reads_44 rfl (lv_at hl 1 rfl) ?_
            refine lv_isub hx hb dX10_reads_45 ?_
            refine lv_topi (fun x_96 ex_96 => ?_)
            have fx_96 : x_96.toInt = ((ur_93.2.2.2.1) 24).toInt - 8 := by have h9 := s_sub (x := ((ur_93.2.2.2.1) 24)) (y := 8) (by rw [i_8]; omega) (by rw [i_8]; omega); rw [i_8] at h9; rw [ex_96]; exact h9
            refine lv_istore (lv' := [(4, .int x_96), (3, .int r_93), (2, .int 8), (0, .ref h0), (1, .int p0)]) hx hb dX10_reads_46 hl (by decide) rfl (fun ls hl => ?_)
            refine lv_aload_n hx hb dX10_reads_48 rfl (lv_at hl 3 rfl) ?_
            refine lv_iload_n hx hb dX10_reads_49 rfl (lv_at hl 1 rfl) ?_
            refine lv_iload_n hx hb dX10_reads_50 rfl (lv_at hl 4 rfl) ?_
            refine lv_aload_n hx hb dX10_reads_51 rfl (lv_at hl 3 rfl) ?_
            refine va_get (D := DG E) (ci := 10) (v := .ref (rf 46)) (C := RX10) (T := TX10) (N := 49) hx hb hts iw_X10 hown hK.1 (va_one hM.1) 0 rfl rfl 46 (by decide) (hts _ fl_X10_134) (fun _ h9 => h9) rfl dX10_reads_52 ?_
            refine lv_bipush (v := 24) hx hb dX10_reads_55 (by decide) ?_
            have ha_97 : va_at (DG E) vwCl (rf 46, .inl (E.2.2 0, 25, .inl (ur_93.2.2.2.2.2.1))) _ := hM.2 46 (by decide) (by decide) (by decide)
            refine va_iald (D := DG E) hx hb hK.1 (va_one ha_97) 0 0 rfl rfl (show vp_in (24) 25 from vp_in_iff.mpr ⟨by decide, by decide⟩) dX10_reads_57 ?_
            refine W.eq (g2 := F0 m 58 ls [.int ((ur_93.2.2.2.2.2.1) 24), .int p0, .int r_93, .ref h0]) (by rfl) ?_
            refine lv_iload_n hx hb dX10_reads_58 rfl (lv_at hl 2 rfl) ?_
            refine lv_iadd hx hb dX10_reads_59 ?_
            refine lv_topi (fun x_98 ex_98 => ?_)
            have fx_98 : x_98.toInt = ((ur_93.2.2.2.2.2.1) 24).toInt + 8 := by have h9 := s_add (x := ((ur_93.2.2.2.2.2.1) 24)) (y := 8) (by rw [i_8]; omega) (by rw [i_8]; omega); rw [i_8] at h9; rw [ex_98]; exact h9
            refine lv_iload hx hb dX10_reads_60 (lv_at hl 0 rfl) ?_
            refine lv_iconst (v := 4) hx hb dX10_reads_62 (by decide) ?_
            refine lv_icmp_ge (tgt := 71) hx hb dX10_reads_63 (by decide) (fun c_99 => ?_) (fun c_99 => ?_)
            · simp only [lt_I, le_I, eq_I, i_0, i_1, i_2, i_3, i_4, i_5, i_6, i_7, i_8, i_10, i_12, i_16, i_20, i_23, i_24, i_31, i_32, i_63, i_64, i_m1, i_9, i_11, i_13, i_25, i_60, i_75, i_79, i_80, i_96, i_100] at c_99
              refine lv_iconst (v := 4) hx hb dX10_reads_71 (by decide) ?_
              refine va_callv (rnV (fun H => MH E h0 rf t0 t1 t2 (uA (uA (uA (uA (uA (uA (uA (uA (uA (uA (uA (uA (uA (uA (uA (uA (uA (uA (uA (uA (uA (uA (uA (uA (uA A 41 (ur_7.1)) 42 (ur_7.2.1)) 43 (ur_7.2.2.1)) 44 (ur_7.2.2.2.1)) 45 (ur_7.2.2.2.2.1)) 46 (ur_7.2.2.2.2.2.1)) 47 (ur_7.2.2.2.2.2.2.1)) 44 (ur_72.1)) 48 (ur_72.2)) 41 (ur_79.1)) 42 (ur_79.2.1)) 43 (ur_79.2.2.1)) 44 (ur_79.2.2.2.1)) 45 (ur_79.2.2.2.2.1)) 46 (ur_79.2.2.2.2.2.1)) 47 (ur_79.2.2.2.2.2.2.1)) 44 (ur_86.1)) 48 (ur_86.2)) 41 (ur_93.1)) 42 (ur_93.2.1)) 43 (ur_93.2.2.1)) 44 (ur_93.2.2.2.1)) 45 (ur_93.2.2.2.2.1)) 46 (ur_93.2.2.2.2.2.1)) 47 (ur_93.2.2.2.2.2.2.1)) cd ur_93.2.2.2.2.2.2.2 H) (As := [.int r_93, .int p0, .int x_98, .int 4]) (rest := []) ⟨hx, hb, hml, hown, hts⟩ (u_X10_load l E z0 G hGz h0 rf hR t0 t1 t2 (uA (uA (uA (uA (uA (uA (uA (uA (uA (uA (uA (uA (uA (uA (uA (uA (uA (uA (uA (uA (uA (uA (uA (uA (uA A 41 (ur_7.1)) 42 (ur_7.2.1)) 43 (ur_7.2.2.1)) 44 (ur_7.2.2.2.1)) 45 (ur_7.2.2.2.2.1)) 46 (ur_7.2.2.2.2.2.1)) 47 (ur_7.2.2.2.2.2.2.1)) 44 (ur_72.1)) 48 (ur_72.2)) 41 (ur_79.1)) 42 (ur_79.2.1)) 43 (ur_79.2.2.1)) 44 (ur_79.2.2.2.1)) 45 (ur_79.2.2.2.2.1)) 46 (ur_79.2.2.2.2.2.1)) 47 (ur_79.2.2.2.2.2.2.1)) 44 (ur_86.1)) 48 (ur_86.2)) 41 (ur_93.1)) 42 (ur_93.2.1)) 43 (ur_93.2.2.1)) 44 (ur_93.2.2.2.1)) 45 (ur_93.2.2.2.2.1)) 46 (ur_93.2.2.2.2.2.1)) 47 (ur_93.2.2.2.2.2.2.1)) cd ur_93.2.2.2.2.2.2.2 r_93 p0 x_98 4 hpr_93_0 (by have := i_4; first | omega | decide) (by have := i_4; first | omega | decide) (by have := i_4; first | omega | decide) (by have := i_4; first | omega | decide) (by have := i_4; first | omega | decide)) (cwV 4 hts (gdV ml_X10_203 im_X10_load se_X10_X10_load in_X10 co_X10_load rfl) rfl rfl rfl (by decide +kernel) ⟨Nat.le_of_ble_eq_true rfl, Nat.le_of_ble_eq_true rfl⟩) hM (fun U hU hW => hK.go hW hS hAz hU) (va_recv hK.1 (va_one hM.1) (ci := 10) (q0 := 0) rfl rfl) rfl rfl hl.1 rfl (lv_room (Nat.le_of_ble_eq_true rfl)) dX10_reads_72 ⟨Nat.le_of_ble_eq_true rfl, Nat.le_of_ble_eq_true rfl⟩) hS (fun q _ h => h) (fun q h => h) (fun ur_100 t H locs ht hvm hwr_100 hB hz hk hS => ?_)
              have hM : MH E h0 rf t0 t1 t2 (uA (uA (uA (uA (uA (uA (uA (uA (uA (uA (uA (uA (uA (uA (uA (uA (uA (uA (uA (uA (uA (uA (uA (uA (uA (uA (uA A 41 (ur_7.1)) 42 (ur_7.2.1)) 43 (ur_7.2.2.1)) 44 (ur_7.2.2.2.1)) 45 (ur_7.2.2.2.2.1)) 46 (ur_7.2.2.2.2.2.1)) 47 (ur_7.2.2.2.2.2.2.1)) 44 (ur_72.1)) 48 (ur_72.2)) 41 (ur_79.1)) 42 (ur_79.2.1)) 43 (ur_79.2.2.1)) 44 (ur_79.2.2.2.1)) 45 (ur_79.2.2.2.2.1)) 46 (ur_79.2.2.2.2.2.1)) 47 (ur_79.2.2.2.2.2.2.1)) 44 (ur_86.1)) 48 (ur_86.2)) 41 (ur_93.1)) 42 (ur_93.2.1)) 43 (ur_93.2.2.1)) 44 (ur_93.2.2.2.1)) 45 (ur_93.2.2.2.2.1)) 46 (ur_93.2.2.2.2.2.1)) 47 (ur_93.2.2.2.2.2.2.1)) 44 (ur_100.1)) 48 (ur_100.2)) cd ur_93.2.2.2.2.2.2.2 H := by rw [ht] at hB; exact hB
              have hpr_100_0 : I7 (ur_93.1) (ur_93.2.1) (ur_100.1) (ur_93.2.2.2.2.1) (ur_93.2.2.2.2.2.1) := hwr_100.1
              have hpr_100_1 : ((ur_100.1) 24).toInt = ((ur_93.2.2.2.1) 24).toInt ∧ ((ur_93.2.2.2.2.2.1) 24).toInt = ((ur_93.2.2.2.2.2.1) 24).toInt := hwr_100.2
              have := i_4
              refine lv_iinc (v := 12) (lv' := [(2, .int 12), (4, .int x_96), (3, .int r_93), (0, .ref h0), (1, .int p0)]) hx hb dX10_reads_75 hl (k := 2) rfl (by decide) (by decide) rfl (fun ls hl => ?_)
              refine lv_goto (tgt := 2) hx hb dX10_reads_78 (by decide) ?_
              refine lv_iload_n hx hb dX10_reads_2 rfl (lv_at hl 0 rfl) ?_
              refine lv_aload_n hx hb dX10_reads_3 rfl (lv_at hl 3 rfl) ?_
              refine va_get (D := DG E) (ci := 10) (v := .ref (rf 44)) (C := RX10) (T := TX10) (N := 49) hx hb hts iw_X10 hown hK.1 (va_one hM.1) 0 rfl rfl 44 (by decide) (hts _ fl_X10_128) (fun _ h9 => h9) rfl dX10_reads_4 ?_
              refine lv_bipush (v := 24) hx hb dX10_reads_7 (by decide) ?_
              have ha_101 : va_at (DG E) vwCl (rf 44, .inl (E.2.2 0, 25, .inl (ur_100.1))) _ := hM.2 44 (by decide) (by decide) (by decide)
              refine va_iald (D := DG E) hx hb hK.1 (va_one ha_101) 0 0 rfl rfl (show vp_in (24) 25 from vp_in_iff.mpr ⟨by decide, by decide⟩) dX10_reads_9 ?_
              refine W.eq (g2 := F0 m 10 ls [.int ((ur_100.1) 24), .int 12]) (by rfl) ?_
              have q_102 : 0 ≤ ((ur_93.1) 24).toInt ∧ ((ur_93.1) 24).toInt ≤ 3 ∧ 0 ≤ ((ur_100.1) 24).toInt ∧ ((ur_100.1) 24).toInt ≤ 12 ∧ (((ur_93.2.1) 24).toInt ≠ 0 ∧ ((ur_93.2.1) 24).toInt ≠ 1 ∧ ((ur_93.2.1) 24).toInt ≠ 4 ∨ ((ur_100.1) 24).toInt ≤ 4) ∧ (((ur_93.2.1) 24).toInt < 1 ∨ 3 < ((ur_93.2.1) 24).toInt ∨ (0 ≤ ((ur_93.2.2.2.2.1) 24).toInt ∧ ((ur_93.2.2.2.2.1) 24).toInt ≤ 5)) ∧ -1 ≤ ((ur_93.2.2.2.2.2.1) 24).toInt ∧ ((ur_93.2.2.2.2.2.1) 24).toInt ≤ 60 := hpr_100_0 24 (by omega)
              refine lv_icmp_ge (tgt := 81) hx hb dX10_reads_10 (by decide) (fun c_103 => ?_) (fun c_103 => by exfalso; simp only [lt_I, le_I, eq_I, i_0, i_1, i_2, i_3, i_4, i_5, i_6, i_7, i_8, i_10, i_12, i_16, i_20, i_23, i_24, i_31, i_32, i_63, i_64, i_m1, i_9, i_11, i_13, i_25, i_60, i_75, i_79, i_80, i_96, i_100] at c_103; omega)
              simp only [lt_I, le_I, eq_I, i_0, i_1, i_2, i_3, i_4, i_5, i_6, i_7, i_8, i_10, i_12, i_16, i_20, i_23, i_24, i_31, i_32, i_63, i_64, i_m1, i_9, i_11, i_13, i_25, i_60, i_75, i_79, i_80, i_96, i_100] at c_103
              exact W.vret hx hb hr (fun t ht hW => ⟨⟨((ur_93.1), (ur_93.2.1), (ur_93.2.2.1), (ur_100.1), (ur_93.2.2.2.2.1), (ur_93.2.2.2.2.2.1), (ur_93.2.2.2.2.2.2.1), (ur_100.2), ur_93.2.2.2.2.2.2.2), rfl, ⟨hpr_100_0, (by show 0 ≤ ur_93.2.2.2.2.2.2.2.toInt ∧ ur_93.2.2.2.2.2.2.2.toInt ≤ 24; omega)⟩, (by show MH E h0 rf t0 t1 t2 (uA (uA (uA (uA (uA (uA (uA (uA A 41 (ur_93.1)) 42 (ur_93.2.1)) 43 (ur_93.2.2.1)) 44 (ur_100.1)) 45 (ur_93.2.2.2.2.1)) 46 (ur_93.2.2.2.2.2.1)) 47 (ur_93.2.2.2.2.2.2.1)) 48 (ur_100.2)) cd ur_93.2.2.2.2.2.2.2 t.heap; rw [ht]; exact hM.cg (fun k => by simp only [uA]; (repeat' split) <;> first | rfl | (exfalso; omega) | (simp_all; done)))⟩, hS.F ht⟩) hS.2.2 dX10_reads_81
            · simp only [lt_I, le_I, eq_I, i_0, i_1, i_2, i_3, i_4, i_5, i_6, i_7, i_8, i_10, i_12, i_16, i_20, i_23, i_24, i_31, i_32, i_63, i_64, i_m1, i_9, i_11, i_13, i_25, i_60, i_75, i_79, i_80, i_96, i_100] at c_99
              refine lv_iload hx hb dX10_reads_66 (lv_at hl 0 rfl) ?_
              refine lv_goto (tgt := 72) hx hb dX10_reads_68 (by decide) ?_
              refine va_callv (rnV (fun H => MH E h0 rf t0 t1 t2 (uA (uA (uA (uA (uA (uA (uA (uA (uA (uA (uA (uA (uA (uA (uA (uA (uA (uA (uA (uA (uA (uA (uA (uA (uA A 41 (ur_7.1)) 42 (ur_7.2.1)) 43 (ur_7.2.2.1)) 44 (ur_7.2.2.2.1)) 45 (ur_7.2.2.2.2.1)) 46 (ur_7.2.2.2.2.2.1)) 47 (ur_7.2.2.2.2.2.2.1)) 44 (ur_72.1)) 48 (ur_72.2)) 41 (ur_79.1)) 42 (ur_79.2.1)) 43 (ur_79.2.2.1)) 44 (ur_79.2.2.2.1)) 45 (ur_79.2.2.2.2.1)) 46 (ur_79.2.2.2.2.2.1)) 47 (ur_79.2.2.2.2.2.2.1)) 44 (ur_86.1)) 48 (ur_86.2)) 41 (ur_93.1)) 42 (ur_93.2.1)) 43 (ur_93.2.2.1)) 44 (ur_93.2.2.2.1)) 45 (ur_93.2.2.2.2.1)) 46 (ur_93.2.2.2.2.2.1)) 47 (ur_93.2.2.2.2.2.2.1)) cd ur_93.2.2.2.2.2.2.2 H) (As := [.int r_93, .int p0, .int x_98, .int x_96]) (rest := []) ⟨hx, hb, hml, hown, hts⟩ (u_X10_load l E z0 G hGz h0 rf hR t0 t1 t2 (uA (uA (uA (uA (uA (uA (uA (uA (uA (uA (uA (uA (uA (uA (uA (uA (uA (uA (uA (uA (uA (uA (uA (uA (uA A 41 (ur_7.1)) 42 (ur_7.2.1)) 43 (ur_7.2.2.1)) 44 (ur_7.2.2.2.1)) 45 (ur_7.2.2.2.2.1)) 46 (ur_7.2.2.2.2.2.1)) 47 (ur_7.2.2.2.2.2.2.1)) 44 (ur_72.1)) 48 (ur_72.2)) 41 (ur_79.1)) 42 (ur_79.2.1)) 43 (ur_79.2.2.1)) 44 (ur_79.2.2.2.1)) 45 (ur_79.2.2.2.2.1)) 46 (ur_79.2.2.2.2.2.1)) 47 (ur_79.2.2.2.2.2.2.1)) 44 (ur_86.1)) 48 (ur_86.2)) 41 (ur_93.1)) 42 (ur_93.2.1)) 43 (ur_93.2.2.1)) 44 (ur_93.2.2.2.1)) 45 (ur_93.2.2.2.2.1)) 46 (ur_93.2.2.2.2.2.1)) 47 (ur_93.2.2.2.2.2.2.1)) cd ur_93.2.2.2.2.2.2.2 r_93 p0 x_98 x_96 hpr_93_0 (by first | omega | decide) (by first | omega | decide) (by first | omega | decide) (by first | omega | decide) (by first | omega | decide)) (cwV 4 hts (gdV ml_X10_203 im_X10_load se_X10_X10_load in_X10 co_X10_load rfl) rfl rfl rfl (by decide +kernel) ⟨Nat.le_of_ble_eq_true rfl, Nat.le_of_ble_eq_true rfl⟩) hM (fun U hU hW => hK.go hW hS hAz hU) (va_recv hK.1 (va_one hM.1) (ci := 10) (q0 := 0) rfl rfl) rfl rfl hl.1 rfl (lv_room (Nat.le_of_ble_eq_true rfl)) dX10_reads_72 ⟨Nat.le_of_ble_eq_true rfl, Nat.le_of_ble_eq_true rfl⟩) hS (fun q _ h => h) (fun q h => h) (fun ur_104 t H locs ht hvm hwr_104 hB hz hk hS => ?_)
              have hM : MH E h0 rf t0 t1 t2 (uA (uA (uA (uA (uA (uA (uA (uA (uA (uA (uA (uA (uA (uA (uA (uA (uA (uA (uA (uA (uA (uA (uA (uA (uA (uA (uA A 41 (ur_7.1)) 42 (ur_7.2.1)) 43 (ur_7.2.2.1)) 44 (ur_7.2.2.2.1)) 45 (ur_7.2.2.2.2.1)) 46 (ur_7.2.2.2.2.2.1)) 47 (ur_7.2.2.2.2.2.2.1)) 44 (ur_72.1)) 48 (ur_72.2)) 41 (ur_79.1)) 42 (ur_79.2.1)) 43 (ur_79.2.2.1)) 44 (ur_79.2.2.2.1)) 45 (ur_79.2.2.2.2.1)) 46 (ur_79.2.2.2.2.2.1)) 47 (ur_79.2.2.2.2.2.2.1)) 44 (ur_86.1)) 48 (ur_86.2)) 41 (ur_93.1)) 42 (ur_93.2.1)) 43 (ur_93.2.2.1)) 44 (ur_93.2.2.2.1)) 45 (ur_93.2.2.2.2.1)) 46 (ur_93.2.2.2.2.2.1)) 47 (ur_93.2.2.2.2.2.2.1)) 44 (ur_104.1)) 48 (ur_104.2)) cd ur_93.2.2.2.2.2.2.2 H := by rw [ht] at hB; exact hB
              have hpr_104_0 : I7 (ur_93.1) (ur_93.2.1) (ur_104.1) (ur_93.2.2.2.2.1) (ur_93.2.2.2.2.2.1) := hwr_104.1
              have hpr_104_1 : ((ur_104.1) 24).toInt = ((ur_93.2.2.2.1) 24).toInt ∧ ((ur_93.2.2.2.2.2.1) 24).toInt = ((ur_93.2.2.2.2.2.1) 24).toInt := hwr_104.2
              refine lv_iinc (v := 12) (lv' := [(2, .int 12), (4, .int x_96), (3, .int r_93), (0, .ref h0), (1, .int p0)]) hx hb dX10_reads_75 hl (k := 2) rfl (by decide) (by decide) rfl (fun ls hl => ?_)
              refine lv_goto (tgt := 2) hx hb dX10_reads_78 (by decide) ?_
              refine lv_iload_n hx hb dX10_reads_2 rfl (lv_at hl 0 rfl) ?_
              refine lv_aload_n hx hb dX10_reads_3 rfl (lv_at hl 3 rfl) ?_
              refine va_get (D := DG E) (ci := 10) (v := .ref (rf 44)) (C := RX10) (T := TX10) (N := 49) hx hb hts iw_X10 hown hK.1 (va_one hM.1) 0 rfl rfl 44 (by decide) (hts _ fl_X10_128) (fun _ h9 => h9) rfl dX10_reads_4 ?_
              refine lv_bipush (v := 24) hx hb dX10_reads_7 (by decide) ?_
              have ha_105 : va_at (DG E) vwCl (rf 44, .inl (E.2.2 0, 25, .inl (ur_104.1))) _ := hM.2 44 (by decide) (by decide) (by decide)
              refine va_iald (D := DG E) hx hb hK.1 (va_one ha_105) 0 0 rfl rfl (show vp_in (24) 25 from vp_in_iff.mpr ⟨by decide, by decide⟩) dX10_reads_9 ?_
              refine W.eq (g2 := F0 m 10 ls [.int ((ur_104.1) 24), .int 12]) (by rfl) ?_
              have q_106 : 0 ≤ ((ur_93.1) 24).toInt ∧ ((ur_93.1) 24).toInt ≤ 3 ∧ 0 ≤ ((ur_104.1) 24).toInt ∧ ((ur_104.1) 24).toInt ≤ 12 ∧ (((ur_93.2.1) 24).toInt ≠ 0 ∧ ((ur_93.2.1) 24).toInt ≠ 1 ∧ ((ur_93.2.1) 24).toInt ≠ 4 ∨ ((ur_104.1) 24).toInt ≤ 4) ∧ (((ur_93.2.1) 24).toInt < 1 ∨ 3 < ((ur_93.2.1) 24).toInt ∨ (0 ≤ ((ur_93.2.2.2.2.1) 24).toInt ∧ ((ur_93.2.2.2.2.1) 24).toInt ≤ 5)) ∧ -1 ≤ ((ur_93.2.2.2.2.2.1) 24).toInt ∧ ((ur_93.2.2.2.2.2.1) 24).toInt ≤ 60 := hpr_104_0 24 (by omega)
              refine lv_icmp_ge (tgt := 81) hx hb dX10_reads_10 (by decide) (fun c_107 => ?_) (fun c_107 => by exfalso; simp only [lt_I, le_I, eq_I, i_0, i_1, i_2, i_3, i_4, i_5, i_6, i_7, i_8, i_10, i_12, i_16, i_20, i_23, i_24, i_31, i_32, i_63, i_64, i_m1, i_9, i_11, i_13, i_25, i_60, i_75, i_79, i_80, i_96, i_100] at c_107; omega)
              simp only [lt_I, le_I, eq_I, i_0, i_1, i_2, i_3, i_4, i_5, i_6, i_7, i_8, i_10, i_12, i_16, i_20, i_23, i_24, i_31, i_32, i_63, i_64, i_m1, i_9, i_11, i_13, i_25, i_60, i_75, i_79, i_80, i_96, i_100] at c_107
              exact W.vret hx hb hr (fun t ht hW => ⟨⟨((ur_93.1), (ur_93.2.1), (ur_93.2.2.1), (ur_104.1), (ur_93.2.2.2.2.1), (ur_93.2.2.2.2.2.1), (ur_93.2.2.2.2.2.2.1), (ur_104.2), ur_93.2.2.2.2.2.2.2), rfl, ⟨hpr_104_0, (by show 0 ≤ ur_93.2.2.2.2.2.2.2.toInt ∧ ur_93.2.2.2.2.2.2.2.toInt ≤ 24; omega)⟩, (by show MH E h0 rf t0 t1 t2 (uA (uA (uA (uA (uA (uA (uA (uA A 41 (ur_93.1)) 42 (ur_93.2.1)) 43 (ur_93.2.2.1)) 44 (ur_104.1)) 45 (ur_93.2.2.2.2.1)) 46 (ur_93.2.2.2.2.2.1)) 47 (ur_93.2.2.2.2.2.2.1)) 48 (ur_104.2)) cd ur_93.2.2.2.2.2.2.2 t.heap; rw [ht]; exact hM.cg (fun k => by simp only [uA]; (repeat' split) <;> first | rfl | (exfalso; omega) | (simp_all; done)))⟩, hS.F ht⟩) hS.2.2 dX10_reads_81
        · simp only [lt_I, le_I, eq_I, i_0, i_1, i_2, i_3, i_4, i_5, i_6, i_7, i_8, i_10, i_12, i_16, i_20, i_23, i_24, i_31, i_32, i_63, i_64, i_m1, i_9, i_11, i_13, i_25, i_60, i_75, i_79, i_80, i_96, i_100] at c_85
          refine lv_iload hx hb dX10_reads_66 (lv_at hl 0 rfl) ?_
          refine lv_goto (tgt := 72) hx hb dX10_reads_68 (by decide) ?_
          refine va_callv (rnV (fun H => MH E h0 rf t0 t1 t2 (uA (uA (uA (uA (uA (uA (uA (uA (uA (uA (uA (uA (uA (uA (uA (uA A 41 (ur_7.1)) 42 (ur_7.2.1)) 43 (ur_7.2.2.1)) 44 (ur_7.2.2.2.1)) 45 (ur_7.2.2.2.2.1)) 46 (ur_7.2.2.2.2.2.1)) 47 (ur_7.2.2.2.2.2.2.1)) 44 (ur_72.1)) 48 (ur_72.2)) 41 (ur_79.1)) 42 (ur_79.2.1)) 43 (ur_79.2.2.1)) 44 (ur_79.2.2.2.1)) 45 (ur_79.2.2.2.2.1)) 46 (ur_79.2.2.2.2.2.1)) 47 (ur_79.2.2.2.2.2.2.1)) cd ur_79.2.2.2.2.2.2.2 H) (As := [.int r_79, .int p0, .int x_84, .int x_82]) (rest := []) ⟨hx, hb, hml, hown, hts⟩ (u_X10_load l E z0 G hGz h0 rf hR t0 t1 t2 (uA (uA (uA (uA (uA (uA (uA (uA (uA (uA (uA (uA (uA (uA (uA (uA A 41 (ur_7.1)) 42 (ur_7.2.1)) 43 (ur_7.2.2.1)) 44 (ur_7.2.2.2.1)) 45 (ur_7.2.2.2.2.1)) 46 (ur_7.2.2.2.2.2.1)) 47 (ur_7.2.2.2.2.2.2.1)) 44 (ur_72.1)) 48 (ur_72.2)) 41 (ur_79.1)) 42 (ur_79.2.1)) 43 (ur_79.2.2.1)) 44 (ur_79.2.2.2.1)) 45 (ur_79.2.2.2.2.1)) 46 (ur_79.2.2.2.2.2.1)) 47 (ur_79.2.2.2.2.2.2.1)) cd ur_79.2.2.2.2.2.2.2 r_79 p0 x_84 x_82 hpr_79_0 (by first | omega | decide) (by first | omega | decide) (by first | omega | decide) (by first | omega | decide) (by first | omega | decide)) (cwV 4 hts (gdV ml_X10_203 im_X10_load se_X10_X10_load in_X10 co_X10_load rfl) rfl rfl rfl (by decide +kernel) ⟨Nat.le_of_ble_eq_true rfl, Nat.le_of_ble_eq_true rfl⟩) hM (fun U hU hW => hK.go hW hS hAz hU) (va_recv hK.1 (va_one hM.1) (ci := 10) (q0 := 0) rfl rfl) rfl rfl hl.1 rfl (lv_room (Nat.le_of_ble_eq_true rfl)) dX10_reads_72 ⟨Nat.le_of_ble_eq_true rfl, Nat.le_of_ble_eq_true rfl⟩) hS (fun q _ h => h) (fun q h => h) (fun ur_108 t H locs ht hvm hwr_108 hB hz hk hS => ?_)
          have hM : MH E h0 rf t0 t1 t2 (uA (uA (uA (uA (uA (uA (uA (uA (uA (uA (uA (uA (uA (uA (uA (uA (uA (uA A 41 (ur_7.1)) 42 (ur_7.2.1)) 43 (ur_7.2.2.1)) 44 (ur_7.2.2.2.1)) 45 (ur_7.2.2.2.2.1)) 46 (ur_7.2.2.2.2.2.1)) 47 (ur_7.2.2.2.2.2.2.1)) 44 (ur_72.1)) 48 (ur_72.2)) 41 (ur_79.1)) 42 (ur_79.2.1)) 43 (ur_79.2.2.1)) 44 (ur_79.2.2.2.1)) 45 (ur_79.2.2.2.2.1)) 46 (ur_79.2.2.2.2.2.1)) 47 (ur_79.2.2.2.2.2.2.1)) 44 (ur_108.1)) 48 (ur_108.2)) cd ur_79.2.2.2.2.2.2.2 H := by rw [ht] at hB; exact hB
          have hpr_108_0 : I7 (ur_79.1) (ur_79.2.1) (ur_108.1) (ur_79.2.2.2.2.1) (ur_79.2.2.2.2.2.1) := hwr_108.1
          have hpr_108_1 : ((ur_108.1) 24).toInt = ((ur_79.2.2.2.1) 24).toInt ∧ ((ur_79.2.2.2.2.2.1) 24).toInt = ((ur_79.2.2.2.2.2.1) 24).toInt := hwr_108.2
          refine lv_iinc (v := 8) (lv' := [(2, .int 8), (4, .int x_82), (3, .int r_79), (0, .ref h0), (1, .int p0)]) hx hb dX10_reads_75 hl (k := 2) rfl (by decide) (by decide) rfl (fun ls hl => ?_)
          refine lv_goto (tgt := 2) hx hb dX10_reads_78 (by decide) ?_
          refine lv_iload_n hx hb dX10_reads_2 rfl (lv_at hl 0 rfl) ?_
          refine lv_aload_n hx hb dX10_reads_3 rfl (lv_at hl 3 rfl) ?_
          refine va_get (D := DG E) (ci := 10) (v := .ref (rf 44)) (C := RX10) (T := TX10) (N := 49) hx hb hts iw_X10 hown hK.1 (va_one hM.1) 0 rfl rfl 44 (by decide) (hts _ fl_X10_128) (fun _ h9 => h9) rfl dX10_reads_4 ?_
          refine lv_bipush (v := 24) hx hb dX10_reads_7 (by decide) ?_
          have ha_109 : va_at (DG E) vwCl (rf 44, .inl (E.2.2 0, 25, .inl (ur_108.1))) _ := hM.2 44 (by decide) (by decide) (by decide)
          refine va_iald (D := DG E) hx hb hK.1 (va_one ha_109) 0 0 rfl rfl (show vp_in (24) 25 from vp_in_iff.mpr ⟨by decide, by decide⟩) dX10_reads_9 ?_
          refine W.eq (g2 := F0 m 10 ls [.int ((ur_108.1) 24), .int 8]) (by rfl) ?_
          have q_110 : 0 ≤ ((ur_79.1) 24).toInt ∧ ((ur_79.1) 24).toInt ≤ 3 ∧ 0 ≤ ((ur_108.1) 24).toInt ∧ ((ur_108.1) 24).toInt ≤ 12 ∧ (((ur_79.2.1) 24).toInt ≠ 0 ∧ ((ur_79.2.1) 24).toInt ≠ 1 ∧ ((ur_79.2.1) 24).toInt ≠ 4 ∨ ((ur_108.1) 24).toInt ≤ 4) ∧ (((ur_79.2.1) 24).toInt < 1 ∨ 3 < ((ur_79.2.1) 24).toInt ∨ (0 ≤ ((ur_79.2.2.2.2.1) 24).toInt ∧ ((ur_79.2.2.2.2.1) 24).toInt ≤ 5)) ∧ -1 ≤ ((ur_79.2.2.2.2.2.1) 24).toInt ∧ ((ur_79.2.2.2.2.2.1) 24).toInt ≤ 60 := hpr_108_0 24 (by omega)
          refine lv_icmp_ge (tgt := 81) hx hb dX10_reads_10 (by decide) (fun c_111 => ?_) (fun c_111 => ?_)
          · simp only [lt_I, le_I, eq_I, i_0, i_1, i_2, i_3, i_4, i_5, i_6, i_7, i_8, i_10, i_12, i_16, i_20, i_23, i_24, i_31, i_32, i_63, i_64, i_m1, i_9, i_11, i_13, i_25, i_60, i_75, i_79, i_80, i_96, i_100] at c_111
            exact W.vret hx hb hr (fun t ht hW => ⟨⟨((ur_79.1), (ur_79.2.1), (ur_79.2.2.1), (ur_108.1), (ur_79.2.2.2.2.1), (ur_79.2.2.2.2.2.1), (ur_79.2.2.2.2.2.2.1), (ur_108.2), ur_79.2.2.2.2.2.2.2), rfl, ⟨hpr_108_0, (by show 0 ≤ ur_79.2.2.2.2.2.2.2.toInt ∧ ur_79.2.2.2.2.2.2.2.toInt ≤ 24; omega)⟩, (by show MH E h0 rf t0 t1 t2 (uA (uA (uA (uA (uA (uA (uA (uA A 41 (ur_79.1)) 42 (ur_79.2.1)) 43 (ur_79.2.2.1)) 44 (ur_108.1)) 45 (ur_79.2.2.2.2.1)) 46 (ur_79.2.2.2.2.2.1)) 47 (ur_79.2.2.2.2.2.2.1)) 48 (ur_108.2)) cd ur_79.2.2.2.2.2.2.2 t.heap; rw [ht]; exact hM.cg (fun k => by simp only [uA]; (repeat' split) <;> first | rfl | (exfalso; omega) | (simp_all; done)))⟩, hS.F ht⟩) hS.2.2 dX10_reads_81
          · simp only [lt_I, le_I, eq_I, i_0, i_1, i_2, i_3, i_4, i_5, i_6, i_7, i_8, i_10, i_12, i_16, i_20, i_23, i_24, i_31, i_32, i_63, i_64, i_m1, i_9, i_11, i_13, i_25, i_60, i_75, i_79, i_80, i_96, i_100] at c_111
            refine lv_aload_n hx hb dX10_reads_13 rfl (lv_at hl 3 rfl) ?_
            refine lv_iload_n hx hb dX10_reads_14 rfl (lv_at hl 4 rfl) ?_
            refine lv_iconst (v := 4) hx hb dX10_reads_15 (by decide) ?_
            refine lv_aload_n hx hb dX10_reads_16 rfl (lv_at hl 3 rfl) ?_
            refine va_get (D := DG E) (ci := 10) (v := .ref (rf 43)) (C := RX10) (T := TX10) (N := 49) hx hb hts iw_X10 hown hK.1 (va_one hM.1) 0 rfl rfl 43 (by decide) (hts _ fl_X10_125) (fun _ h9 => h9) rfl dX10_reads_17 ?_
            refine lv_bipush (v := 24) hx hb dX10_reads_20 (by decide) ?_
            have ha_112 : va_at (DG E) vwCl (rf 43, .inl (E.2.2 0, 25, .inl (ur_79.2.2.1))) _ := hM.2 43 (by decide) (by decide) (by decide)
            refine va_iald (D := DG E) hx hb hK.1 (va_one ha_112) 0 0 rfl rfl (show vp_in (24) 25 from vp_in_iff.mpr ⟨by decide, by decide⟩) dX10_reads_22 ?_
            refine W.eq (g2 := F0 m 23 ls [.int ((ur_79.2.2.1) 24), .int 4, .int p0, .ref h0]) (by rfl) ?_
            refine lv_iload_n hx hb dX10_reads_23 rfl (lv_at hl 0 rfl) ?_
            refine lv_iconst (v := 4) hx hb dX10_reads_24 (by decide) ?_
            refine lv_idiv hx hb dX10_reads_25 (by decide) ?_
            refine W.eq (g2 := F0 m 26 ls [.int 2, .int ((ur_79.2.2.1) 24), .int 4, .int p0, .ref h0]) (by rfl) ?_
            refine lv_iadd hx hb dX10_reads_26 ?_
            refine lv_topi (fun x_113 ex_113 => ?_)
            refine lv_bipush (v := 64) hx hb dX10_reads_27 (by decide) ?_
            refine lv_irem hx hb dX10_reads_29 (by decide) ?_
            refine lv_topi (fun x_114 ex_114 => ?_)
            refine lv_iconst (v := (-1)) hx hb dX10_reads_30 (by decide) ?_
            refine lv_iconst (v := (-1)) hx hb dX10_reads_31 (by decide) ?_
            refine lv_iconst (v := 0) hx hb dX10_reads_32 (by decide) ?_
            refine va_calli (rnV (fun H => MH E h0 rf t0 t1 t2 (uA (uA (uA (uA (uA (uA (uA (uA (uA (uA (uA (uA (uA (uA (uA (uA (uA (uA A 41 (ur_7.1)) 42 (ur_7.2.1)) 43 (ur_7.2.2.1)) 44 (ur_7.2.2.2.1)) 45 (ur_7.2.2.2.2.1)) 46 (ur_7.2.2.2.2.2.1)) 47 (ur_7.2.2.2.2.2.2.1)) 44 (ur_72.1)) 48 (ur_72.2)) 41 (ur_79.1)) 42 (ur_79.2.1)) 43 (ur_79.2.2.1)) 44 (ur_79.2.2.2.1)) 45 (ur_79.2.2.2.2.1)) 46 (ur_79.2.2.2.2.2.1)) 47 (ur_79.2.2.2.2.2.2.1)) 44 (ur_108.1)) 48 (ur_108.2)) cd ur_79.2.2.2.2.2.2.2 H) (As := [.int p0, .int 4, .int x_114, .int (-1), .int (-1), .int 0]) (rest := []) ⟨hx, hb, hml, hown, hts⟩ (u_X10_emit l E z0 G hGz h0 rf hR t0 t1 t2 (uA (uA (uA (uA (uA (uA (uA (uA (uA (uA (uA (uA (uA (uA (uA (uA (uA (uA A 41 (ur_7.1)) 42 (ur_7.2.1)) 43 (ur_7.2.2.1)) 44 (ur_7.2.2.2.1)) 45 (ur_7.2.2.2.2.1)) 46 (ur_7.2.2.2.2.2.1)) 47 (ur_7.2.2.2.2.2.2.1)) 44 (ur_72.1)) 48 (ur_72.2)) 41 (ur_79.1)) 42 (ur_79.2.1)) 43 (ur_79.2.2.1)) 44 (ur_79.2.2.2.1)) 45 (ur_79.2.2.2.2.1)) 46 (ur_79.2.2.2.2.2.1)) 47 (ur_79.2.2.2.2.2.2.1)) 44 (ur_108.1)) 48 (ur_108.2)) cd ur_79.2.2.2.2.2.2.2 p0 4 x_114 (-1) (-1) 0 hpr_108_0 (by have := i_m1; have := i_0; have := i_4; first | omega | decide) (by have := i_m1; have := i_0; have := i_4; first | omega | decide) (by have := i_m1; have := i_0; have := i_4; first | omega | decide) (by have := i_m1; have := i_0; have := i_4; first | omega | decide)) (cwV 6 hts (gdV ml_X10_199 im_X10_emit se_X10_X10_emit in_X10 co_X10_emit rfl) rfl rfl rfl (by decide +kernel) ⟨Nat.le_of_ble_eq_true rfl, Nat.le_of_ble_eq_true rfl⟩) hM (fun U hU hW => hK.go hW hS hAz hU) (va_recv hK.1 (va_one hM.1) (ci := 10) (q0 := 0) rfl rfl) rfl rfl hl.1 rfl (lv_room (Nat.le_of_ble_eq_true rfl)) dX10_reads_33 ⟨Nat.le_of_ble_eq_true rfl, Nat.le_of_ble_eq_true rfl⟩) hS (fun q _ h => h) (fun q h => h) (fun r_115 ur_115 t H locs ht hvm hwr_115 hB hz hk hS => ?_)
            have hM : MH E h0 rf t0 t1 t2 (uA (uA (uA (uA (uA (uA (uA (uA (uA (uA (uA (uA (uA (uA (uA (uA (uA (uA (uA (uA (uA (uA (uA (uA (uA A 41 (ur_7.1)) 42 (ur_7.2.1)) 43 (ur_7.2.2.1)) 44 (ur_7.2.2.2.1)) 45 (ur_7.2.2.2.2.1)) 46 (ur_7.2.2.2.2.2.1)) 47 (ur_7.2.2.2.2.2.2.1)) 44 (ur_72.1)) 48 (ur_72.2)) 41 (ur_79.1)) 42 (ur_79.2.1)) 43 (ur_79.2.2.1)) 44 (ur_79.2.2.2.1)) 45 (ur_79.2.2.2.2.1)) 46 (ur_79.2.2.2.2.2.1)) 47 (ur_79.2.2.2.2.2.2.1)) 44 (ur_108.1)) 48 (ur_108.2)) 41 (ur_115.1)) 42 (ur_115.2.1)) 43 (ur_115.2.2.1)) 44 (ur_115.2.2.2.1)) 45 (ur_115.2.2.2.2.1)) 46 (ur_115.2.2.2.2.2.1)) 47 (ur_115.2.2.2.2.2.2.1)) cd ur_115.2.2.2.2.2.2.2 H := by rw [ht] at hB; exact hB
            have hpr_115_0 : I7 (ur_115.1) (ur_115.2.1) (ur_115.2.2.2.1) (ur_115.2.2.2.2.1) (ur_115.2.2.2.2.2.1) := hwr_115.1
            have hpr_115_1 : 0 ≤ ur_115.2.2.2.2.2.2.2.toInt ∧ ur_115.2.2.2.2.2.2.2.toInt ≤ 24 := hwr_115.2.1
            have hpr_115_2 : -1 ≤ r_115.toInt ∧ r_115.toInt ≤ 23 := hwr_115.2.2.1
            have hpr_115_3 : ∀ n : Nat, (n : Int) = r_115.toInt → (ur_115.2.1) n = (4 : Int32) := hwr_115.2.2.2.1
            have hpr_115_4 : ((ur_115.2.2.2.1) 24).toInt = ((ur_108.1) 24).toInt ∧ ((ur_115.2.2.2.2.2.1) 24).toInt = ((ur_79.2.2.2.2.2.1) 24).toInt := hwr_115.2.2.2.2
            have := i_m1
            have := i_0
            have := i_4
            refine lv_istore_n (lv' := [(3, .int r_115), (2, .int 8), (4, .int x_82), (0, .ref h0), (1, .int p0)]) hx hb dX10_reads_36 rfl hl (by decide) rfl (fun ls hl => ?_)
            refine lv_aload_n hx hb dX10_reads_37 rfl (lv_at hl 3 rfl) ?_
            refine va_get (D := DG E) (ci := 10) (v := .ref (rf 44)) (C := RX10) (T := TX10) (N := 49) hx hb hts iw_X10 hown hK.1 (va_one hM.1) 0 rfl rfl 44 (by decide) (hts _ fl_X10_128) (fun _ h9 => h9) rfl dX10_reads_38 ?_
            refine lv_bipush (v := 24) hx hb dX10_reads_41 (by decide) ?_
            have ha_116 : va_at (DG E) vwCl (rf 44, .inl (E.2.2 0, 25, .inl (ur_115.2.2.2.1))) _ := hM.2 44 (by decide) (by decide) (by decide)
            refine va_iald (D := DG E) hx hb hK.1 (va_one ha_116) 0 0 rfl rfl (show vp_in (24) 25 from vp_in_iff.mpr ⟨by decide, by decide⟩) dX10_reads_43 ?_
            refine W.eq (g2 := F0 m 44 ls [.int ((ur_115.2.2.2.1) 24)]) (by rfl) ?_
            have q_117 : 0 ≤ ((ur_115.1) 24).toInt ∧ ((ur_115.1) 24).toInt ≤ 3 ∧ 0 ≤ ((ur_115.2.2.2.1) 24).toInt ∧ ((ur_115.2.2.2.1) 24).toInt ≤ 12 ∧ (((ur_115.2.1) 24).toInt ≠ 0 ∧ ((ur_115.2.1) 24).toInt ≠ 1 ∧ ((ur_115.2.1) 24).toInt ≠ 4 ∨ ((ur_115.2.2.2.1) 24).toInt ≤ 4) ∧ (((ur_115.2.1) 24).toInt < 1 ∨ 3 < ((ur_115.2.1) 24).toInt ∨ (0 ≤ ((ur_115.2.2.2.2.1) 24).toInt ∧ ((ur_115.2.2.2.2.1) 24).toInt ≤ 5)) ∧ -1 ≤ ((ur_115.2.2.2.2.2.1) 24).toInt ∧ ((ur_115.2.2.2.2.2.1) 24).toInt ≤ 60 := hpr_115_0 24 (by omega)
            refine lv_iload_n hx hb dX10_reads_44 rfl (lv_at hl 1 rfl) ?_
            refine lv_isub hx hb dX10_reads_45 ?_
            refine lv_topi (fun x_118 ex_118 => ?_)
            have fx_118 : x_118.toInt = ((ur_115.2.2.2.1) 24).toInt - 8 := by have h9 := s_sub (x := ((ur_115.2.2.2.1) 24)) (y := 8) (by rw [i_8]; omega) (by rw [i_8]; omega); rw [i_8] at h9; rw [ex_118]; exact h9
            refine lv_istore (lv' := [(4, .int x_118), (3, .int r_115), (2, .int 8), (0, .ref h0), (1, .int p0)]) hx hb dX10_reads_46 hl (by decide) rfl (fun ls hl => ?_)
            refine lv_aload_n hx hb dX10_reads_48 rfl (lv_at hl 3 rfl) ?_
            refine lv_iload_n hx hb dX10_reads_49 rfl (lv_at hl 1 rfl) ?_
            refine lv_iload_n hx hb dX10_reads_50 rfl (lv_at hl 4 rfl) ?_
            refine lv_aload_n hx hb dX10_reads_51 rfl (lv_at hl 3 rfl) ?_
            refine va_get (D := DG E) (ci := 10) (v := .ref (rf 46)) (C := RX10) (T := TX10) (N := 49) hx hb hts iw_X10 hown hK.1 (va_one hM.1) 0 rfl rfl 46 (by decide) (hts _ fl_X10_134) (fun _ h9 => h9) rfl dX10_reads_52 ?_
            refine lv_bipush (v := 24) hx hb dX10_reads_55 (by decide) ?_
            have ha_119 : va_at (DG E) vwCl (rf 46, .inl (E.2.2 0, 25, .inl (ur_115.2.2.2.2.2.1))) _ := hM.2 46 (by decide) (by decide) (by decide)
            refine va_iald (D := DG E) hx hb hK.1 (va_one ha_119) 0 0 rfl rfl (show vp_in (24) 25 from vp_in_iff.mpr ⟨by decide, by decide⟩) dX10_reads_57 ?_
            refine W.eq (g2 := F0 m 58 ls [.int ((ur_115.2.2.2.2.2.1) 24), .int p0, .int r_115, .ref h0]) (by rfl) ?_
            refine lv_iload_n hx hb dX10_reads_58 rfl (lv_at hl 2 rfl) ?_
            refine lv_iadd hx hb dX10_reads_59 ?_
            refine lv_topi (fun x_120 ex_120 => ?_)
            have fx_120 : x_120.toInt = ((ur_115.2.2.2.2.2.1) 24).toInt + 8 := by have h9 := s_add (x := ((ur_115.2.2.2.2.2.1) 24)) (y := 8) (by rw [i_8]; omega) (by rw [i_8]; omega); rw [i_8] at h9; rw [ex_120]; exact h9
            refine lv_iload hx hb dX10_reads_60 (lv_at hl 0 rfl) ?_
            refine lv_iconst (v := 4) hx hb dX10_reads_62 (by decide) ?_
            refine lv_icmp_ge (tgt := 71) hx hb dX10_reads_63 (by decide) (fun c_121 => ?_) (fun c_121 => ?_)
            · simp only [lt_I, le_I, eq_I, i_0, i_1, i_2, i_3, i_4, i_5, i_6, i_7, i_8, i_10, i_12, i_16, i_20, i_23, i_24, i_31, i_32, i_63, i_64, i_m1, i_9, i_11, i_13, i_25, i_60, i_75, i_79, i_80, i_96, i_100] at c_121
              refine lv_iconst (v := 4) hx hb dX10_reads_71 (by decide) ?_
              refine va_callv (rnV (fun H => MH E h0 rf t0 t1 t2 (uA (uA (uA (uA (uA (uA (uA (uA (uA (uA (uA (uA (uA (uA (uA (uA (uA (uA (uA (uA (uA (uA (uA (uA (uA A 41 (ur_7.1)) 42 (ur_7.2.1)) 43 (ur_7.2.2.1)) 44 (ur_7.2.2.2.1)) 45 (ur_7.2.2.2.2.1)) 46 (ur_7.2.2.2.2.2.1)) 47 (ur_7.2.2.2.2.2.2.1)) 44 (ur_72.1)) 48 (ur_72.2)) 41 (ur_79.1)) 42 (ur_79.2.1)) 43 (ur_79.2.2.1)) 44 (ur_79.2.2.2.1)) 45 (ur_79.2.2.2.2.1)) 46 (ur_79.2.2.2.2.2.1)) 47 (ur_79.2.2.2.2.2.2.1)) 44 (ur_108.1)) 48 (ur_108.2)) 41 (ur_115.1)) 42 (ur_115.2.1)) 43 (ur_115.2.2.1)) 44 (ur_115.2.2.2.1)) 45 (ur_115.2.2.2.2.1)) 46 (ur_115.2.2.2.2.2.1)) 47 (ur_115.2.2.2.2.2.2.1)) cd ur_115.2.2.2.2.2.2.2 H) (As := [.int r_115, .int p0, .int x_120, .int 4]) (rest := []) ⟨hx, hb, hml, hown, hts⟩ (u_X10_load l E z0 G hGz h0 rf hR t0 t1 t2 (uA (uA (uA (uA (uA (uA (uA (uA (uA (uA (uA (uA (uA (uA (uA (uA (uA (uA (uA (uA (uA (uA (uA (uA (uA A 41 (ur_7.1)) 42 (ur_7.2.1)) 43 (ur_7.2.2.1)) 44 (ur_7.2.2.2.1)) 45 (ur_7.2.2.2.2.1)) 46 (ur_7.2.2.2.2.2.1)) 47 (ur_7.2.2.2.2.2.2.1)) 44 (ur_72.1)) 48 (ur_72.2)) 41 (ur_79.1)) 42 (ur_79.2.1)) 43 (ur_79.2.2.1)) 44 (ur_79.2.2.2.1)) 45 (ur_79.2.2.2.2.1)) 46 (ur_79.2.2.2.2.2.1)) 47 (ur_79.2.2.2.2.2.2.1)) 44 (ur_108.1)) 48 (ur_108.2)) 41 (ur_115.1)) 42 (ur_115.2.1)) 43 (ur_115.2.2.1)) 44 (ur_115.2.2.2.1)) 45 (ur_115.2.2.2.2.1)) 46 (ur_115.2.2.2.2.2.1)) 47 (ur_115.2.2.2.2.2.2.1)) cd ur_115.2.2.2.2.2.2.2 r_115 p0 x_120 4 hpr_115_0 (by have := i_4; first | omega | decide) (by have := i_4; first | omega | decide) (by have := i_4; first | omega | decide) (by have := i_4; first | omega | decide) (by have := i_4; first | omega | decide)) (cwV 4 hts (gdV ml_X10_203 im_X10_load se_X10_X10_load in_X10 co_X10_load rfl) rfl rfl rfl (by decide +kernel) ⟨Nat.le_of_ble_eq_true rfl, Nat.le_of_ble_eq_true rfl⟩) hM (fun U hU hW => hK.go hW hS hAz hU) (va_recv hK.1 (va_one hM.1) (ci := 10) (q0 := 0) rfl rfl) rfl rfl hl.1 rfl (lv_room (Nat.le_of_ble_eq_true rfl)) dX10_reads_72 ⟨Nat.le_of_ble_eq_true rfl, Nat.le_of_ble_eq_true rfl⟩) hS (fun q _ h => h) (fun q h => h) (fun ur_122 t H locs ht hvm hwr_122 hB hz hk hS => ?_)
              have hM : MH E h0 rf t0 t1 t2 (uA (uA (uA (uA (uA (uA (uA (uA (uA (uA (uA (uA (uA (uA (uA (uA (uA (uA (uA (uA (uA (uA (uA (uA (uA (uA (uA A 41 (ur_7.1)) 42 (ur_7.2.1)) 43 (ur_7.2.2.1)) 44 (ur_7.2.2.2.1)) 45 (ur_7.2.2.2.2.1)) 46 (ur_7.2.2.2.2.2.1)) 47 (ur_7.2.2.2.2.2.2.1)) 44 (ur_72.1)) 48 (ur_72.2)) 41 (ur_79.1)) 42 (ur_79.2.1)) 43 (ur_79.2.2.1)) 44 (ur_79.2.2.2.1)) 45 (ur_79.2.2.2.2.1)) 46 (ur_79.2.2.2.2.2.1)) 47 (ur_79.2.2.2.2.2.2.1)) 44 (ur_108.1)) 48 (ur_108.2)) 41 (ur_115.1)) 42 (ur_115.2.1)) 43 (ur_115.2.2.1)) 44 (ur_115.2.2.2.1)) 45 (ur_115.2.2.2.2.1)) 46 (ur_115.2.2.2.2.2.1)) 47 (ur_115.2.2.2.2.2.2.1)) 44 (ur_122.1)) 48 (ur_122.2)) cd ur_115.2.2.2.2.2.2.2 H := by rw [ht] at hB; exact hB
              have hpr_122_0 : I7 (ur_115.1) (ur_115.2.1) (ur_122.1) (ur_115.2.2.2.2.1) (ur_115.2.2.2.2.2.1) := hwr_122.1
              have hpr_122_1 : ((ur_122.1) 24).toInt = ((ur_115.2.2.2.1) 24).toInt ∧ ((ur_115.2.2.2.2.2.1) 24).toInt = ((ur_115.2.2.2.2.2.1) 24).toInt := hwr_122.2
              have := i_4
              refine lv_iinc (v := 12) (lv' := [(2, .int 12), (4, .int x_118), (3, .int r_115), (0, .ref h0), (1, .int p0)]) hx hb dX10_reads_75 hl (k := 2) rfl (by decide) (by decide) rfl (fun ls hl => ?_)
              refine lv_goto (tgt := 2) hx hb dX10_reads_78 (by decide) ?_
              refine lv_iload_n hx hb dX10_reads_2 rfl (lv_at hl 0 rfl) ?_
              refine lv_aload_n hx hb dX10_reads_3 rfl (lv_at hl 3 rfl) ?_
              refine va_get (D := DG E) (ci := 10) (v := .ref (rf 44)) (C := RX10) (T := TX10) (N := 49) hx hb hts iw_X10 hown hK.1 (va_one hM.1) 0 rfl rfl 44 (by decide) (hts _ fl_X10_128) (fun _ h9 => h9) rfl dX10_reads_4 ?_
              refine lv_bipush (v := 24) hx hb dX10_reads_7 (by decide) ?_
              have ha_123 : va_at (DG E) vwCl (rf 44, .inl (E.2.2 0, 25, .inl (ur_122.1))) _ := hM.2 44 (by decide) (by decide) (by decide)
              refine va_iald (D := DG E) hx hb hK.1 (va_one ha_123) 0 0 rfl rfl (show vp_in (24) 25 from vp_in_iff.mpr ⟨by decide, by decide⟩) dX10_reads_9 ?_
              refine W.eq (g2 := F0 m 10 ls [.int ((ur_122.1) 24), .int 12]) (by rfl) ?_
              have q_124 : 0 ≤ ((ur_115.1) 24).toInt ∧ ((ur_115.1) 24).toInt ≤ 3 ∧ 0 ≤ ((ur_122.1) 24).toInt ∧ ((ur_122.1) 24).toInt ≤ 12 ∧ (((ur_115.2.1) 24).toInt ≠ 0 ∧ ((ur_115.2.1) 24).toInt ≠ 1 ∧ ((ur_115.2.1) 24).toInt ≠ 4 ∨ ((ur_122.1) 24).toInt ≤ 4) ∧ (((ur_115.2.1) 24).toInt < 1 ∨ 3 < ((ur_115.2.1) 24).toInt ∨ (0 ≤ ((ur_115.2.2.2.2.1) 24).toInt ∧ ((ur_115.2.2.2.2.1) 24).toInt ≤ 5)) ∧ -1 ≤ ((ur_115.2.2.2.2.2.1) 24).toInt ∧ ((ur_115.2.2.2.2.2.1) 24).toInt ≤ 60 := hpr_122_0 24 (by omega)
              refine lv_icmp_ge (tgt := 81) hx hb dX10_reads_10 (by decide) (fun c_125 => ?_) (fun c_125 => by exfalso; simp only [lt_I, le_I, eq_I, i_0, i_1, i_2, i_3, i_4, i_5, i_6, i_7, i_8, i_10, i_12, i_16, i_20, i_23, i_24, i_31, i_32, i_63, i_64, i_m1, i_9, i_11, i_13, i_25, i_60, i_75, i_79, i_80, i_96, i_100] at c_125; omega)
              simp only [lt_I, le_I, eq_I, i_0, i_1, i_2, i_3, i_4, i_5, i_6, i_7, i_8, i_10, i_12, i_16, i_20, i_23, i_24, i_31, i_32, i_63, i_64, i_m1, i_9, i_11, i_13, i_25, i_60, i_75, i_79, i_80, i_96, i_100] at c_125
              exact W.vret hx hb hr (fun t ht hW => ⟨⟨((ur_115.1), (ur_115.2.1), (ur_115.2.2.1), (ur_122.1), (ur_115.2.2.2.2.1), (ur_115.2.2.2.2.2.1), (ur_115.2.2.2.2.2.2.1), (ur_122.2), ur_115.2.2.2.2.2.2.2), rfl, ⟨hpr_122_0, (by show 0 ≤ ur_115.2.2.2.2.2.2.2.toInt ∧ ur_115.2.2.2.2.2.2.2.toInt ≤ 24; omega)⟩, (by show MH E h0 rf t0 t1 t2 (uA (uA (uA (uA (uA (uA (uA (uA A 41 (ur_115.1)) 42 (ur_115.2.1)) 43 (ur_115.2.2.1)) 44 (ur_122.1)) 45 (ur_115.2.2.2.2.1)) 46 (ur_115.2.2.2.2.2.1)) 47 (ur_115.2.2.2.2.2.2.1)) 48 (ur_122.2)) cd ur_115.2.2.2.2.2.2.2 t.heap; rw [ht]; exact hM.cg (fun k => by simp only [uA]; (repeat' split) <;> first | rfl | (exfalso; omega) | (simp_all; done)))⟩, hS.F ht⟩) hS.2.2 dX10_reads_81
            · simp only [lt_I, le_I, eq_I, i_0, i_1, i_2, i_3, i_4, i_5, i_6, i_7, i_8, i_10, i_12, i_16, i_20, i_23, i_24, i_31, i_32, i_63, i_64, i_m1, i_9, i_11, i_13, i_25, i_60, i_75, i_79, i_80, i_96, i_100] at c_121
              refine lv_iload hx hb dX10_reads_66 (lv_at hl 0 rfl) ?_
              refine lv_goto (tgt := 72) hx hb dX10_reads_68 (by decide) ?_
              refine va_callv (rnV (fun H => MH E h0 rf t0 t1 t2 (uA (uA (uA (uA (uA (uA (uA (uA (uA (uA (uA (uA (uA (uA (uA (uA (uA (uA (uA (uA (uA (uA (uA (uA (uA A 41 (ur_7.1)) 42 (ur_7.2.1)) 43 (ur_7.2.2.1)) 44 (ur_7.2.2.2.1)) 45 (ur_7.2.2.2.2.1)) 46 (ur_7.2.2.2.2.2.1)) 47 (ur_7.2.2.2.2.2.2.1)) 44 (ur_72.1)) 48 (ur_72.2)) 41 (ur_79.1)) 42 (ur_79.2.1)) 43 (ur_79.2.2.1)) 44 (ur_79.2.2.2.1)) 45 (ur_79.2.2.2.2.1)) 46 (ur_79.2.2.2.2.2.1)) 47 (ur_79.2.2.2.2.2.2.1)) 44 (ur_108.1)) 48 (ur_108.2)) 41 (ur_115.1)) 42 (ur_115.2.1)) 43 (ur_115.2.2.1)) 44 (ur_115.2.2.2.1)) 45 (ur_115.2.2.2.2.1)) 46 (ur_115.2.2.2.2.2.1)) 47 (ur_115.2.2.2.2.2.2.1)) cd ur_115.2.2.2.2.2.2.2 H) (As := [.int r_115, .int p0, .int x_120, .int x_118]) (rest := []) ⟨hx, hb, hml, hown, hts⟩ (u_X10_load l E z0 G hGz h0 rf hR t0 t1 t2 (uA (uA (uA (uA (uA (uA (uA (uA (uA (uA (uA (uA (uA (uA (uA (uA (uA (uA (uA (uA (uA (uA (uA (uA (uA A 41 (ur_7.1)) 42 (ur_7.2.1)) 43 (ur_7.2.2.1)) 44 (ur_7.2.2.2.1)) 45 (ur_7.2.2.2.2.1)) 46 (ur_7.2.2.2.2.2.1)) 47 (ur_7.2.2.2.2.2.2.1)) 44 (ur_72.1)) 48 (ur_72.2)) 41 (ur_79.1)) 42 (ur_79.2.1)) 43 (ur_79.2.2.1)) 44 (ur_79.2.2.2.1)) 45 (ur_79.2.2.2.2.1)) 46 (ur_79.2.2.2.2.2.1)) 47 (ur_79.2.2.2.2.2.2.1)) 44 (ur_108.1)) 48 (ur_108.2)) 41 (ur_115.1)) 42 (ur_115.2.1)) 43 (ur_115.2.2.1)) 44 (ur_115.2.2.2.1)) 45 (ur_115.2.2.2.2.1)) 46 (ur_115.2.2.2.2.2.1)) 47 (ur_115.2.2.2.2.2.2.1)) cd ur_115.2.2.2.2.2.2.2 r_115 p0 x_120 x_118 hpr_115_0 (by first | omega | decide) (by first | omega | decide) (by first | omega | decide) (by first | omega | decide) (by first | omega | decide)) (cwV 4 hts (gdV ml_X10_203 im_X10_load se_X10_X10_load in_X10 co_X10_load rfl) rfl rfl rfl (by decide +kernel) ⟨Nat.le_of_ble_eq_true rfl, Nat.le_of_ble_eq_true rfl⟩) hM (fun U hU hW => hK.go hW hS hAz hU) (va_recv hK.1 (va_one hM.1) (ci := 10) (q0 := 0) rfl rfl) rfl rfl hl.1 rfl (lv_room (Nat.le_of_ble_eq_true rfl)) dX10_reads_72 ⟨Nat.le_of_ble_eq_true rfl, Nat.le_of_ble_eq_true rfl⟩) hS (fun q _ h => h) (fun q h => h) (fun ur_126 t H locs ht hvm hwr_126 hB hz hk hS => ?_)
              have hM : MH E h0 rf t0 t1 t2 (uA (uA (uA (uA (uA (uA (uA (uA (uA (uA (uA (uA (uA (uA (uA (uA (uA (uA (uA (uA (uA (uA (uA (uA (uA (uA (uA A 41 (ur_7.1)) 42 (ur_7.2.1)) 43 (ur_7.2.2.1)) 44 (ur_7.2.2.2.1)) 45 (ur_7.2.2.2.2.1)) 46 (ur_7.2.2.2.2.2.1)) 47 (ur_7.2.2.2.2.2.2.1)) 44 (ur_72.1)) 48 (ur_72.2)) 41 (ur_79.1)) 42 (ur_79.2.1)) 43 (ur_79.2.2.1)) 44 (ur_79.2.2.2.1)) 45 (ur_79.2.2.2.2.1)) 46 (ur_79.2.2.2.2.2.1)) 47 (ur_79.2.2.2.2.2.2.1)) 44 (ur_108.1)) 48 (ur_108.2)) 41 (ur_115.1)) 42 (ur_115.2.1)) 43 (ur_115.2.2.1)) 44 (ur_115.2.2.2.1)) 45 (ur_115.2.2.2.2.1)) 46 (ur_115.2.2.2.2.2.1)) 47 (ur_115.2.2.2.2.2.2.1)) 44 (ur_126.1)) 48 (ur_126.2)) cd ur_115.2.2.2.2.2.2.2 H := by rw [ht] at hB; exact hB
              have hpr_126_0 : I7 (ur_115.1) (ur_115.2.1) (ur_126.1) (ur_115.2.2.2.2.1) (ur_115.2.2.2.2.2.1) := hwr_126.1
              have hpr_126_1 : ((ur_126.1) 24).toInt = ((ur_115.2.2.2.1) 24).toInt ∧ ((ur_115.2.2.2.2.2.1) 24).toInt = ((ur_115.2.2.2.2.2.1) 24).toInt := hwr_126.2
              refine lv_iinc (v := 12) (lv' := [(2, .int 12), (4, .int x_118), (3, .int r_115), (0, .ref h0), (1, .int p0)]) hx hb dX10_reads_75 hl (k := 2) rfl (by decide) (by decide) rfl (fun ls hl => ?_)
              refine lv_goto (tgt := 2) hx hb dX10_reads_78 (by decide) ?_
              refine lv_iload_n hx hb dX10_reads_2 rfl (lv_at hl 0 rfl) ?_
              refine lv_aload_n hx hb dX10_reads_3 rfl (lv_at hl 3 rfl) ?_
              refine va_get (D := DG E) (ci := 10) (v := .ref (rf 44)) (C := RX10) (T := TX10) (N := 49) hx hb hts iw_X10 hown hK.1 (va_one hM.1) 0 rfl rfl 44 (by decide) (hts _ fl_X10_128) (fun _ h9 => h9) rfl dX10_reads_4 ?_
              refine lv_bipush (v := 24) hx hb dX10_reads_7 (by decide) ?_
              have ha_127 : va_at (DG E) vwCl (rf 44, .inl (E.2.2 0, 25, .inl (ur_126.1))) _ := hM.2 44 (by decide) (by decide) (by decide)
              refine va_iald (D := DG E) hx hb hK.1 (va_one ha_127) 0 0 rfl rfl (show vp_in (24) 25 from vp_in_iff.mpr ⟨by decide, by decide⟩) dX10_reads_9 ?_
              refine W.eq (g2 := F0 m 10 ls [.int ((ur_126.1) 24), .int 12]) (by rfl) ?_
              have q_128 : 0 ≤ ((ur_115.1) 24).toInt ∧ ((ur_115.1) 24).toInt ≤ 3 ∧ 0 ≤ ((ur_126.1) 24).toInt ∧ ((ur_126.1) 24).toInt ≤ 12 ∧ (((ur_115.2.1) 24).toInt ≠ 0 ∧ ((ur_115.2.1) 24).toInt ≠ 1 ∧ ((ur_115.2.1) 24).toInt ≠ 4 ∨ ((ur_126.1) 24).toInt ≤ 4) ∧ (((ur_115.2.1) 24).toInt < 1 ∨ 3 < ((ur_115.2.1) 24).toInt ∨ (0 ≤ ((ur_115.2.2.2.2.1) 24).toInt ∧ ((ur_115.2.2.2.2.1) 24).toInt ≤ 5)) ∧ -1 ≤ ((ur_115.2.2.2.2.2.1) 24).toInt ∧ ((ur_115.2.2.2.2.2.1) 24).toInt ≤ 60 := hpr_126_0 24 (by omega)
              refine lv_icmp_ge (tgt := 81) hx hb dX10_reads_10 (by decide) (fun c_129 => ?_) (fun c_129 => by exfalso; simp only [lt_I, le_I, eq_I, i_0, i_1, i_2, i_3, i_4, i_5, i_6, i_7, i_8, i_10, i_12, i_16, i_20, i_23, i_24, i_31, i_32, i_63, i_64, i_m1, i_9, i_11, i_13, i_25, i_60, i_75, i_79, i_80, i_96, i_100] at c_129; omega)
              simp only [lt_I, le_I, eq_I, i_0, i_1, i_2, i_3, i_4, i_5, i_6, i_7, i_8, i_10, i_12, i_16, i_20, i_23, i_24, i_31, i_32, i_63, i_64, i_m1, i_9, i_11, i_13, i_25, i_60, i_75, i_79, i_80, i_96, i_100] at c_129
              exact W.vret hx hb hr (fun t ht hW => ⟨⟨((ur_115.1), (ur_115.2.1), (ur_115.2.2.1), (ur_126.1), (ur_115.2.2.2.2.1), (ur_115.2.2.2.2.2.1), (ur_115.2.2.2.2.2.2.1), (ur_126.2), ur_115.2.2.2.2.2.2.2), rfl, ⟨hpr_126_0, (by show 0 ≤ ur_115.2.2.2.2.2.2.2.toInt ∧ ur_115.2.2.2.2.2.2.2.toInt ≤ 24; omega)⟩, (by show MH E h0 rf t0 t1 t2 (uA (uA (uA (uA (uA (uA (uA (uA A 41 (ur_115.1)) 42 (ur_115.2.1)) 43 (ur_115.2.2.1)) 44 (ur_126.1)) 45 (ur_115.2.2.2.2.1)) 46 (ur_115.2.2.2.2.2.1)) 47 (ur_115.2.2.2.2.2.2.1)) 48 (ur_126.2)) cd ur_115.2.2.2.2.2.2.2 t.heap; rw [ht]; exact hM.cg (fun k => by simp only [uA]; (repeat' split) <;> first | rfl | (exfalso; omega) | (simp_all; done)))⟩, hS.F ht⟩) hS.2.2 dX10_reads_81
theorem dX10_drop_0 : decode cX10_drop 0 = .ok (.aload_n 0, 1) := by decide +kernel
theorem dX10_drop_1 : decode cX10_drop 1 = .ok (.dup, 1) := by decide +kernel
theorem dX10_drop_2 : decode cX10_drop 2 = .ok (.getfield 164, 3) := by decide +kernel
theorem dX10_drop_5 : decode cX10_drop 5 = .ok (.iconst 1, 1) := by decide +kernel
theorem dX10_drop_6 : decode cX10_drop 6 = .ok (.isub, 1) := by decide +kernel
theorem dX10_drop_7 : decode cX10_drop 7 = .ok (.putfield 164, 3) := by decide +kernel
theorem dX10_drop_10 : decode cX10_drop 10 = .ok (.iload_n 1, 1) := by decide +kernel
theorem dX10_drop_11 : decode cX10_drop 11 = .ok (.istore_n 2, 1) := by decide +kernel
theorem dX10_drop_12 : decode cX10_drop 12 = .ok (.iload_n 2, 1) := by decide +kernel
theorem dX10_drop_13 : decode cX10_drop 13 = .ok (.aload_n 0, 1) := by decide +kernel
theorem dX10_drop_14 : decode cX10_drop 14 = .ok (.getfield 164, 3) := by decide +kernel
theorem dX10_drop_17 : decode cX10_drop 17 = .ok (.if_icmp .ge 17, 3) := by decide +kernel
theorem dX10_drop_20 : decode cX10_drop 20 = .ok (.aload_n 0, 1) := by decide +kernel
theorem dX10_drop_21 : decode cX10_drop 21 = .ok (.iload_n 2, 1) := by decide +kernel
theorem dX10_drop_22 : decode cX10_drop 22 = .ok (.iconst 1, 1) := by decide +kernel
theorem dX10_drop_23 : decode cX10_drop 23 = .ok (.iadd, 1) := by decide +kernel
theorem dX10_drop_24 : decode cX10_drop 24 = .ok (.iload_n 2, 1) := by decide +kernel
theorem dX10_drop_25 : decode cX10_drop 25 = .ok (.invokevirtual 170, 3) := by decide +kernel
theorem dX10_drop_28 : decode cX10_drop 28 = .ok (.iinc 2 1, 3) := by decide +kernel
theorem dX10_drop_31 : decode cX10_drop 31 = .ok (.goto (-19), 3) := by decide +kernel
theorem dX10_drop_34 : decode cX10_drop 34 = .ok (.return_, 1) := by decide +kernel
set_option maxHeartbeats 8000000 in
set_option maxRecDepth 100000 in
theorem u_X10_drop (l : Launch) (E : EE) (z0 : Nat) (G : Nat → Nat) (hGz : ∀ q, G q ≠ 0 → z0 ≤ q) (h0 : Nat) (rf : Nat → Nat) (hR : MG G h0 rf) (t0 t1 t2 : Int32) (A : AA) (cd pk : Int32) (p0 : Int32) (hI7 : I7 (A 41) (A 42) (A 44) (A 45) (A 46)) (hy0 : 0 ≤ p0.toInt ∧ p0.toInt ≤ 23) (hy1 : 0 ≤ pk.toInt ∧ pk.toInt ≤ 24) (hy2 : p0.toInt < pk.toInt) : Met l yX10_drop [Cond.code yX10_drop cX10_drop 3 none] ({ frames := 1, cells := 0, slots := 0, locals := 23 } : Room) (va_Pc [.ref h0, .int p0] (fun U => MH E h0 rf t0 t1 t2 A cd pk U.heap ∧ KS E z0 U)) (va_Qv (fun (u : (Nat → Int32) × (Nat → Int32) × (Nat → Int32) × (Nat → Int32) × (Nat → Int32) × (Nat → Int32) × (Nat → Int32) × (Nat → Int32) × Int32) => (I7 (u.1) (u.2.1) (u.2.2.2.1) (u.2.2.2.2.1) (u.2.2.2.2.2.1)) ∧ (0 ≤ (u.2.2.2.2.2.2.2.2).toInt ∧ (u.2.2.2.2.2.2.2.2).toInt ≤ 24)) (fun u t => MH E h0 rf t0 t1 t2 (uA (uA (uA (uA (uA (uA (uA (uA A 41 (u.1)) 42 (u.2.1)) 43 (u.2.2.1)) 44 (u.2.2.2.1)) 45 (u.2.2.2.2.1)) 46 (u.2.2.2.2.2.1)) 47 (u.2.2.2.2.2.2.1)) 48 (u.2.2.2.2.2.2.2.1)) cd (u.2.2.2.2.2.2.2.2) t.heap) (fun q : Nat => G q ≠ 0)) 0 0 (fun q : Nat => G q ≠ 0) := by
  refine Met.ofW (cc := cX10_drop) (maxL := 3) (ret := none) (by decide) rfl ?_
  intro p e s m args below meth c s₁ B hml hv
  obtain ⟨rfl, hM, hK⟩ := hv
  have hx := B.exec
  have hb := B.bytes
  have hr := B.returns
  have hts : ∀ w ∈ TS, w.before ([.ref h0, .int p0] : List Value).toArray s = true := fun w hw => hK.2.1 w hw _
  have hown : s.vm.findClass RX10 = some m.cls := findClass_of_methodNamed B.named
  have hlocks := B.notSynchronized
  have hS : va_S (fun q : Nat => G q ≠ 0) s.heap s.heap [] := va_S.rf
  have hAz : ∀ q, (fun q : Nat => G q ≠ 0) q → z0 ≤ q := hGz
  have hl := lv_entry ([.ref h0, .int p0]) (n := 3) (Nat.le_of_ble_eq_true rfl)
  rw [lg_entry_eq]
  generalize (lg_sl ([.ref h0, .int p0]) ++ List.replicate (3 - (lg_sl ([.ref h0, .int p0])).length) Slot.unset).toArray = ls at hl ⊢
  have hl : lv_has ls 3 [(0, .ref h0), (1, .int p0)] := hl
  refine lv_aload_n hx hb dX10_drop_0 rfl (lv_at hl 0 rfl) ?_
  refine lv_dup hx hb dX10_drop_1 rfl ?_
  refine va_get (D := DG E) (ci := 10) (v := .int pk) (C := RX10) (T := TX10) (N := 49) hx hb hts iw_X10 hown hK.1 (va_one hM.1) 0 rfl rfl 40 (by decide) (hts _ fl_X10_164) (fun _ h9 => h9) rfl dX10_drop_2 ?_
  refine lv_iconst (v := 1) hx hb dX10_drop_5 (by decide) ?_
  refine lv_isub hx hb dX10_drop_6 ?_
  refine lv_topi (fun x_1 ex_1 => ?_)
  have fx_1 : x_1.toInt = pk.toInt - 1 := by have h9 := s_sub (x := pk) (y := 1) (by rw [i_1]; omega) (by rw [i_1]; omega); rw [i_1] at h9; rw [ex_1]; exact h9
  refine rr_put (D := DG E) (ci := 10) (v := .int x_1) (ty := .int) (C := RX10) (T := TX10) (N := 49) hx hb hts iw_X10 tyX10 tyX10_ok nmX10 hown hK.1 hM.1 hS (by show G h0 ≠ 0; rw [hR.1]; decide) rfl 40 (by decide) (hts _ fl_X10_164) (fun _ h9 => h9) rfl (by decide +kernel) rfl rfl (Nat.le_of_ble_eq_true rfl) dX10_drop_7 (fun H locs hn ho hz hS => ?_)
  have hM : MH E h0 rf t0 t1 t2 A cd x_1 H := hM.sc hR hn ho
  refine lv_iload_n hx hb dX10_drop_10 rfl (lv_at hl 1 rfl) ?_
  refine lv_istore_n (lv' := [(2, .int p0), (0, .ref h0), (1, .int p0)]) hx hb dX10_drop_11 rfl hl (by decide) rfl (fun ls hl => ?_)
  refine lp_nat (fun n H locs ls => ∃ (i9 : Int32) (u : (Nat → Int32) × (Nat → Int32) × (Nat → Int32) × (Nat → Int32) × (Nat → Int32) × (Nat → Int32) × (Nat → Int32) × (Nat → Int32)), (0 ≤ i9.toInt ∧ i9.toInt ≤ 24) ∧ (x_1.toInt + 1 - i9.toInt).toNat = n ∧ MH E h0 rf t0 t1 t2 (uA (uA (uA (uA (uA (uA (uA (uA A 41 (u.1)) 42 (u.2.1)) 43 (u.2.2.1)) 44 (u.2.2.2.1)) 45 (u.2.2.2.2.1)) 46 (u.2.2.2.2.2.1)) 47 (u.2.2.2.2.2.2.1)) 48 (u.2.2.2.2.2.2.2)) cd x_1 H ∧ I7 (u.1) (u.2.1) (u.2.2.2.1) (u.2.2.2.2.1) (u.2.2.2.2.2.1) ∧ va_S (fun q : Nat => G q ≠ 0) s.heap H locs ∧ lv_has ls 3 [(2, .int i9), (0, .ref h0), (1, .int p0)]) (fun n H locs ls ih hI => ?_) ⟨p0, (A 41, A 42, A 43, A 44, A 45, A 46, A 47, A 48), by omega, rfl, hM.cg (fun k => by simp only [uA]; (repeat' split) <;> first | rfl | (exfalso; omega) | (simp_all; done)), hI7, hS, hl⟩
  obtain ⟨i9, u, hi9, hn9, hM, h7L, hS, hl⟩ := hI
  refine lv_iload_n hx hb dX10_drop_12 rfl (lv_at hl 0 rfl) ?_
  refine lv_aload_n hx hb dX10_drop_13 rfl (lv_at hl 1 rfl) ?_
  refine va_get (D := DG E) (ci := 10) (v := .int x_1) (C := RX10) (T := TX10) (N := 49) hx hb hts iw_X10 hown hK.1 (va_one hM.1) 0 rfl rfl 40 (by decide) (hts _ fl_X10_164) (fun _ h9 => h9) rfl dX10_drop_14 ?_
  refine lv_icmp_ge (tgt := 34) hx hb dX10_drop_17 (by decide) (fun c_2 => ?_) (fun c_2 => ?_)
  · simp only [lt_I, le_I, eq_I, i_0, i_1, i_2, i_3, i_4, i_5, i_6, i_7, i_8, i_10, i_12, i_16, i_20, i_23, i_24, i_31, i_32, i_63, i_64, i_m1, i_9, i_11, i_13, i_25, i_60, i_75, i_79, i_80, i_96, i_100] at c_2
    exact W.vret hx hb hr (fun t ht hW => ⟨⟨((u.1), (u.2.1), (u.2.2.1), (u.2.2.2.1), (u.2.2.2.2.1), (u.2.2.2.2.2.1), (u.2.2.2.2.2.2.1), (u.2.2.2.2.2.2.2), x_1), rfl, ⟨h7L, (by show 0 ≤ x_1.toInt ∧ x_1.toInt ≤ 24; omega)⟩, (by show MH E h0 rf t0 t1 t2 (uA (uA (uA (uA (uA (uA (uA (uA A 41 (u.1)) 42 (u.2.1)) 43 (u.2.2.1)) 44 (u.2.2.2.1)) 45 (u.2.2.2.2.1)) 46 (u.2.2.2.2.2.1)) 47 (u.2.2.2.2.2.2.1)) 48 (u.2.2.2.2.2.2.2)) cd x_1 t.heap; rw [ht]; exact hM)⟩, hS.F ht⟩) hS.2.2 dX10_drop_34
  · simp only [lt_I, le_I, eq_I, i_0, i_1, i_2, i_3, i_4, i_5, i_6, i_7, i_8, i_10, i_12, i_16, i_20, i_23, i_24, i_31, i_32, i_63, i_64, i_m1, i_9, i_11, i_13, i_25, i_60, i_75, i_79, i_80, i_96, i_100] at c_2
    refine lv_aload_n hx hb dX10_drop_20 rfl (lv_at hl 1 rfl) ?_
    refine lv_iload_n hx hb dX10_drop_21 rfl (lv_at hl 0 rfl) ?_
    refine lv_iconst (v := 1) hx hb dX10_drop_22 (by decide) ?_
    refine lv_iadd hx hb dX10_drop_23 ?_
    refine lv_topi (fun x_3 ex_3 => ?_)
    have fx_3 : x_3.toInt = i9.toInt + 1 := by have h9 := s_add (x := i9) (y := 1) (by rw [i_1]; omega) (by rw [i_1]; omega); rw [i_1] at h9; rw [ex_3]; exact h9
    refine lv_iload_n hx hb dX10_drop_24 rfl (lv_at hl 0 rfl) ?_
    refine va_callv (rnV (fun H => MH E h0 rf t0 t1 t2 (uA (uA (uA (uA (uA (uA (uA (uA A 41 (u.1)) 42 (u.2.1)) 43 (u.2.2.1)) 44 (u.2.2.2.1)) 45 (u.2.2.2.2.1)) 46 (u.2.2.2.2.2.1)) 47 (u.2.2.2.2.2.2.1)) 48 (u.2.2.2.2.2.2.2)) cd x_1 H) (As := [.int x_3, .int i9]) (rest := []) ⟨hx, hb, hml, hown, hts⟩ (u_X10_move1 l E z0 G hGz h0 rf hR t0 t1 t2 (uA (uA (uA (uA (uA (uA (uA (uA A 41 (u.1)) 42 (u.2.1)) 43 (u.2.2.1)) 44 (u.2.2.2.1)) 45 (u.2.2.2.2.1)) 46 (u.2.2.2.2.2.1)) 47 (u.2.2.2.2.2.2.1)) 48 (u.2.2.2.2.2.2.2)) cd x_1 x_3 i9 h7L (by first | omega | decide) (by first | omega | decide)) (cwV 2 hts (gdV ml_X10_170 im_X10_move1 se_X10_X10_move1 in_X10 co_X10_move1 rfl) rfl rfl rfl (by decide +kernel) ⟨Nat.le_of_ble_eq_true rfl, Nat.le_of_ble_eq_true rfl⟩) hM (fun U hU hW => hK.go hW hS hAz hU) (va_recv hK.1 (va_one hM.1) (ci := 10) (q0 := 0) rfl rfl) rfl rfl hl.1 rfl (lv_room (Nat.le_of_ble_eq_true rfl)) dX10_drop_25 ⟨Nat.le_of_ble_eq_true rfl, Nat.le_of_ble_eq_true rfl⟩) hS (fun q _ h => h) (fun q h => h) (fun ur_4 t H locs ht hvm hwr_4 hB hz hk hS => ?_)
    have hM : MH E h0 rf t0 t1 t2 (uA (uA (uA (uA (uA (uA (uA (uA (uA (uA (uA (uA (uA (uA (uA (uA A 41 (u.1)) 42 (u.2.1)) 43 (u.2.2.1)) 44 (u.2.2.2.1)) 45 (u.2.2.2.2.1)) 46 (u.2.2.2.2.2.1)) 47 (u.2.2.2.2.2.2.1)) 48 (u.2.2.2.2.2.2.2)) 41 (ur_4.1)) 42 (ur_4.2.1)) 43 (ur_4.2.2.1)) 44 (ur_4.2.2.2.1)) 45 (ur_4.2.2.2.2.1)) 46 (ur_4.2.2.2.2.2.1)) 47 (ur_4.2.2.2.2.2.2.1)) 48 (ur_4.2.2.2.2.2.2.2)) cd x_1 H := by rw [ht] at hB; exact hB
    have hpr_4_0 : I7 (ur_4.1) (ur_4.2.1) (ur_4.2.2.2.1) (ur_4.2.2.2.2.1) (ur_4.2.2.2.2.2.1) := hwr_4
    obtain ⟨x_5, ex_5⟩ : ∃ z : Int32, i9 + Int32.ofInt 1 = z := ⟨_, rfl⟩
    have fx_5 : x_5.toInt = i9.toInt + 1 := by have h9 := s_add (x := i9) (y := 1) (by rw [i_1]; omega) (by rw [i_1]; omega); rw [i_1] at h9; rw [← ex_5]; exact h9
    refine lv_iinc (v := x_5) (lv' := [(2, .int x_5), (0, .ref h0), (1, .int p0)]) hx hb dX10_drop_28 hl (k := 0) rfl ex_5 (by decide) rfl (fun ls hl => ?_)
    refine lv_goto (tgt := 12) hx hb dX10_drop_31 (by decide) ?_
    exact ih _ (by omega) _ _ _ ⟨x_5, ((ur_4.1), (ur_4.2.1), (ur_4.2.2.1), (ur_4.2.2.2.1), (ur_4.2.2.2.2.1), (ur_4.2.2.2.2.2.1), (ur_4.2.2.2.2.2.2.1), (ur_4.2.2.2.2.2.2.2)), by omega, rfl, hM.cg (fun k => by simp only [uA]; (repeat' split) <;> first | rfl | (exfalso; omega) | (simp_all; done)), hpr_4_0, hS, hl⟩
