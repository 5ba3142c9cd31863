theorem dX10_move1_0 : decode cX10_move1 0 = .ok (.aload_n 0, 1) := by decide +kernel
theorem dX10_move1_1 : decode cX10_move1 1 = .ok (.getfield 119, 3) := by decide +kernel
theorem dX10_move1_4 : decode cX10_move1 4 = .ok (.iload_n 2, 1) := by decide +kernel
theorem dX10_move1_5 : decode cX10_move1 5 = .ok (.aload_n 0, 1) := by decide +kernel
theorem dX10_move1_6 : decode cX10_move1 6 = .ok (.getfield 119, 3) := by decide +kernel
theorem dX10_move1_9 : decode cX10_move1 9 = .ok (.iload_n 1, 1) := by decide +kernel
theorem dX10_move1_10 : decode cX10_move1 10 = .ok (.iaload, 1) := by decide +kernel
theorem dX10_move1_11 : decode cX10_move1 11 = .ok (.iastore, 1) := by decide +kernel
theorem dX10_move1_12 : decode cX10_move1 12 = .ok (.aload_n 0, 1) := by decide +kernel
theorem dX10_move1_13 : decode cX10_move1 13 = .ok (.getfield 122, 3) := by decide +kernel
theorem dX10_move1_16 : decode cX10_move1 16 = .ok (.iload_n 2, 1) := by decide +kernel
theorem dX10_move1_17 : decode cX10_move1 17 = .ok (.aload_n 0, 1) := by decide +kernel
theorem dX10_move1_18 : decode cX10_move1 18 = .ok (.getfield 122, 3) := by decide +kernel
theorem dX10_move1_21 : decode cX10_move1 21 = .ok (.iload_n 1, 1) := by decide +kernel
theorem dX10_move1_22 : decode cX10_move1 22 = .ok (.iaload, 1) := by decide +kernel
theorem dX10_move1_23 : decode cX10_move1 23 = .ok (.iastore, 1) := by decide +kernel
theorem dX10_move1_24 : decode cX10_move1 24 = .ok (.aload_n 0, 1) := by decide +kernel
theorem dX10_move1_25 : decode cX10_move1 25 = .ok (.getfield 125, 3) := by decide +kernel
theorem dX10_move1_28 : decode cX10_move1 28 = .ok (.iload_n 2, 1) := by decide +kernel
theorem dX10_move1_29 : decode cX10_move1 29 = .ok (.aload_n 0, 1) := by decide +kernel
theorem dX10_move1_30 : decode cX10_move1 30 = .ok (.getfield 125, 3) := by decide +kernel
theorem dX10_move1_33 : decode cX10_move1 33 = .ok (.iload_n 1, 1) := by decide +kernel
theorem dX10_move1_34 : decode cX10_move1 34 = .ok (.iaload, 1) := by decide +kernel
theorem dX10_move1_35 : decode cX10_move1 35 = .ok (.iastore, 1) := by decide +kernel
theorem dX10_move1_36 : decode cX10_move1 36 = .ok (.aload_n 0, 1) := by decide +kernel
theorem dX10_move1_37 : decode cX10_move1 37 = .ok (.getfield 128, 3) := by decide +kernel
theorem dX10_move1_40 : decode cX10_move1 40 = .ok (.iload_n 2, 1) := by decide +kernel
theorem dX10_move1_41 : decode cX10_move1 41 = .ok (.aload_n 0, 1) := by decide +kernel
theorem dX10_move1_42 : decode cX10_move1 42 = .ok (.getfield 128, 3) := by decide +kernel
theorem dX10_move1_45 : decode cX10_move1 45 = .ok (.iload_n 1, 1) := by decide +kernel
theorem dX10_move1_46 : decode cX10_move1 46 = .ok (.iaload, 1) := by decide +kernel
theorem dX10_move1_47 : decode cX10_move1 47 = .ok (.iastore, 1) := by decide +kernel
theorem dX10_move1_48 : decode cX10_move1 48 = .ok (.aload_n 0, 1) := by decide +kernel
theorem dX10_move1_49 : decode cX10_move1 49 = .ok (.getfield 131, 3) := by decide +kernel
theorem dX10_move1_52 : decode cX10_move1 52 = .ok (.iload_n 2, 1) := by decide +kernel
theorem dX10_move1_53 : decode cX10_move1 53 = .ok (.aload_n 0, 1) := by decide +kernel
theorem dX10_move1_54 : decode cX10_move1 54 = .ok (.getfield 131, 3) := by decide +kernel
theorem dX10_move1_57 : decode cX10_move1 57 = .ok (.iload_n 1, 1) := by decide +kernel
theorem dX10_move1_58 : decode cX10_move1 58 = .ok (.iaload, 1) := by decide +kernel
theorem dX10_move1_59 : decode cX10_move1 59 = .ok (.iastore, 1) := by decide +kernel
theorem dX10_move1_60 : decode cX10_move1 60 = .ok (.aload_n 0, 1) := by decide +kernel
theorem dX10_move1_61 : decode cX10_move1 61 = .ok (.getfield 134, 3) := by decide +kernel
theorem dX10_move1_64 : decode cX10_move1 64 = .ok (.iload_n 2, 1) := by decide +kernel
theorem dX10_move1_65 : decode cX10_move1 65 = .ok (.aload_n 0, 1) := by decide +kernel
theorem dX10_move1_66 : decode cX10_move1 66 = .ok (.getfield 134, 3) := by decide +kernel
theorem dX10_move1_69 : decode cX10_move1 69 = .ok (.iload_n 1, 1) := by decide +kernel
theorem dX10_move1_70 : decode cX10_move1 70 = .ok (.iaload, 1) := by decide +kernel
theorem dX10_move1_71 : decode cX10_move1 71 = .ok (.iastore, 1) := by decide +kernel
theorem dX10_move1_72 : decode cX10_move1 72 = .ok (.aload_n 0, 1) := by decide +kernel
theorem dX10_move1_73 : decode cX10_move1 73 = .ok (.getfield 137, 3) := by decide +kernel
theorem dX10_move1_76 : decode cX10_move1 76 = .ok (.iload_n 2, 1) := by decide +kernel
theorem dX10_move1_77 : decode cX10_move1 77 = .ok (.aload_n 0, 1) := by decide +kernel
theorem dX10_move1_78 : decode cX10_move1 78 = .ok (.getfield 137, 3) := by decide +kernel
theorem dX10_move1_81 : decode cX10_move1 81 = .ok (.iload_n 1, 1) := by decide +kernel
theorem dX10_move1_82 : decode cX10_move1 82 = .ok (.iaload, 1) := by decide +kernel
theorem dX10_move1_83 : decode cX10_move1 83 = .ok (.iastore, 1) := by decide +kernel
theorem dX10_move1_84 : decode cX10_move1 84 = .ok (.iconst 0, 1) := by decide +kernel
theorem dX10_move1_85 : decode cX10_move1 85 = .ok (.istore_n 3, 1) := by decide +kernel
theorem dX10_move1_86 : decode cX10_move1 86 = .ok (.iload_n 3, 1) := by decide +kernel
theorem dX10_move1_87 : decode cX10_move1 87 = .ok (.iconst 4, 1) := by decide +kernel
theorem dX10_move1_88 : decode cX10_move1 88 = .ok (.if_icmp .ge 29, 3) := by decide +kernel
theorem dX10_move1_91 : decode cX10_move1 91 = .ok (.aload_n 0, 1) := by decide +kernel
theorem dX10_move1_92 : decode cX10_move1 92 = .ok (.getfield 140, 3) := by decide +kernel
theorem dX10_move1_95 : decode cX10_move1 95 = .ok (.iconst 4, 1) := by decide +kernel
theorem dX10_move1_96 : decode cX10_move1 96 = .ok (.iload_n 2, 1) := by decide +kernel
theorem dX10_move1_97 : decode cX10_move1 97 = .ok (.imul, 1) := by decide +kernel
theorem dX10_move1_98 : decode cX10_move1 98 = .ok (.iload_n 3, 1) := by decide +kernel
theorem dX10_move1_99 : decode cX10_move1 99 = .ok (.iadd, 1) := by decide +kernel
theorem dX10_move1_100 : decode cX10_move1 100 = .ok (.aload_n 0, 1) := by decide +kernel
theorem dX10_move1_101 : decode cX10_move1 101 = .ok (.getfield 140, 3) := by decide +kernel
theorem dX10_move1_104 : decode cX10_move1 104 = .ok (.iconst 4, 1) := by decide +kernel
theorem dX10_move1_105 : decode cX10_move1 105 = .ok (.iload_n 1, 1) := by decide +kernel
theorem dX10_move1_106 : decode cX10_move1 106 = .ok (.imul, 1) := by decide +kernel
theorem dX10_move1_107 : decode cX10_move1 107 = .ok (.iload_n 3, 1) := by decide +kernel
theorem dX10_move1_108 : decode cX10_move1 108 = .ok (.iadd, 1) := by decide +kernel
theorem dX10_move1_109 : decode cX10_move1 109 = .ok (.iaload, 1) := by decide +kernel
theorem dX10_move1_110 : decode cX10_move1 110 = .ok (.iastore, 1) := by decide +kernel
theorem dX10_move1_111 : decode cX10_move1 111 = .ok (.iinc 3 1, 3) := by decide +kernel
theorem dX10_move1_114 : decode cX10_move1 114 = .ok (.goto (-28), 3) := by decide +kernel
theorem dX10_move1_117 : decode cX10_move1 117 = .ok (.return_, 1) := by decide +kernel
set_option maxHeartbeats 8000000 in
set_option maxRecDepth 100000 in
theorem u_X10_move1 (l : Launch) (E : EE) (z0 : Nat) (G : Nat → Nat) (hGz : ∀ q, G q ≠ 0 → z0 ≤ q) (h0 : Nat) (rf : Nat → Nat) (hR : MG G h0 rf) (t0 t1 t2 : Int32) (A : AA) (cd pk : Int32) (p0 : Int32) (p1 : Int32) (hI7 : I7 (A 41) (A 42) (A 44) (A 45) (A 46)) (hy0 : 0 ≤ p0.toInt ∧ p0.toInt ≤ 24) (hy1 : 0 ≤ p1.toInt ∧ p1.toInt ≤ 24) : Met l yX10_move1 [Cond.code yX10_move1 cX10_move1 4 none] ({ frames := 0, cells := 0, slots := 0, locals := 0 } : Room) (va_Pc [.ref h0, .int p0, .int p1] (fun U => MH E h0 rf t0 t1 t2 A cd pk U.heap ∧ KS E z0 U)) (va_Qv (fun (u : (Nat → Int32) × (Nat → Int32) × (Nat → Int32) × (Nat → Int32) × (Nat → Int32) × (Nat → Int32) × (Nat → Int32) × (Nat → Int32)) => I7 (u.1) (u.2.1) (u.2.2.2.1) (u.2.2.2.2.1) (u.2.2.2.2.2.1)) (fun u t => MH E h0 rf t0 t1 t2 (uA (uA (uA (uA (uA (uA (uA (uA A 41 (u.1)) 42 (u.2.1)) 43 (u.2.2.1)) 44 (u.2.2.2.1)) 45 (u.2.2.2.2.1)) 46 (u.2.2.2.2.2.1)) 47 (u.2.2.2.2.2.2.1)) 48 (u.2.2.2.2.2.2.2)) cd pk t.heap) (fun q : Nat => G q ≠ 0)) 0 0 (fun q : Nat => G q ≠ 0) := by
  refine Met.ofW (cc := cX10_move1) (maxL := 4) (ret := none) (by decide) rfl ?_
  intro p e s m args below meth c s₁ B hml hv
  obtain ⟨rfl, hM, hK⟩ := hv
  have hx := B.exec
  have hb := B.bytes
  have hr := B.returns
  have hts : ∀ w ∈ TS, w.before ([.ref h0, .int p0, .int p1] : List Value).toArray s = true := fun w hw => hK.2.1 w hw _
  have hown : s.vm.findClass RX10 = some m.cls := findClass_of_methodNamed B.named
  have hlocks := B.notSynchronized
  have hS : va_S (fun q : Nat => G q ≠ 0) s.heap s.heap [] := va_S.rf
  have hAz : ∀ q, (fun q : Nat => G q ≠ 0) q → z0 ≤ q := hGz
  have hl := lv_entry ([.ref h0, .int p0, .int p1]) (n := 4) (Nat.le_of_ble_eq_true rfl)
  rw [lg_entry_eq]
  generalize (lg_sl ([.ref h0, .int p0, .int p1]) ++ List.replicate (4 - (lg_sl ([.ref h0, .int p0, .int p1])).length) Slot.unset).toArray = ls at hl ⊢
  have hl : lv_has ls 4 [(0, .ref h0), (1, .int p0), (2, .int p1)] := hl
  refine lv_aload_n hx hb dX10_move1_0 rfl (lv_at hl 0 rfl) ?_
  refine va_get (D := DG E) (ci := 10) (v := .ref (rf 41)) (C := RX10) (T := TX10) (N := 49) hx hb hts iw_X10 hown hK.1 (va_one hM.1) 0 rfl rfl 41 (by decide) (hts _ fl_X10_119) (fun _ h9 => h9) rfl dX10_move1_1 ?_
  refine lv_iload_n hx hb dX10_move1_4 rfl (lv_at hl 2 rfl) ?_
  refine lv_aload_n hx hb dX10_move1_5 rfl (lv_at hl 0 rfl) ?_
  refine va_get (D := DG E) (ci := 10) (v := .ref (rf 41)) (C := RX10) (T := TX10) (N := 49) hx hb hts iw_X10 hown hK.1 (va_one hM.1) 0 rfl rfl 41 (by decide) (hts _ fl_X10_119) (fun _ h9 => h9) rfl dX10_move1_6 ?_
  refine lv_iload_n hx hb dX10_move1_9 rfl (lv_at hl 1 rfl) ?_
  have ha_1 : va_at (DG E) vwCl (rf 41, .inl (E.2.2 0, 25, .inl (A 41))) _ := hM.2 41 (by decide) (by decide) (by decide)
  obtain ⟨n_2, hn_2, en_2⟩ := s_nat (x := p0) (by omega)
  refine va_iald (D := DG E) hx hb hK.1 (va_one ha_1) 0 0 rfl rfl (show vp_in p0 25 from vp_in_iff.mpr (by omega)) dX10_move1_10 ?_
  refine W.eq (g2 := F0 m 11 ls [.int ((A 41) n_2), .int p1, .ref (rf 41)]) (by rw [en_2]) ?_
  have q_3 : 0 ≤ ((A 41) n_2).toInt ∧ ((A 41) n_2).toInt ≤ 3 ∧ 0 ≤ ((A 44) n_2).toInt ∧ ((A 44) n_2).toInt ≤ 12 ∧ (((A 42) n_2).toInt ≠ 0 ∧ ((A 42) n_2).toInt ≠ 1 ∧ ((A 42) n_2).toInt ≠ 4 ∨ ((A 44) n_2).toInt ≤ 4) ∧ (((A 42) n_2).toInt < 1 ∨ 3 < ((A 42) n_2).toInt ∨ (0 ≤ ((A 45) n_2).toInt ∧ ((A 45) n_2).toInt ≤ 5)) ∧ -1 ≤ ((A 46) n_2).toInt ∧ ((A 46) n_2).toInt ≤ 60 := hI7 n_2 (by omega)
  have ha_4 : va_at (DG E) vwCl (rf 41, .inl (E.2.2 0, 25, .inl (A 41))) _ := hM.2 41 (by decide) (by decide) (by decide)
  obtain ⟨n_5, hn_5, en_5⟩ := s_nat (x := p1) (by omega)
  refine rr_iast (D := DG E) hx hb hK.1 0 ha_4 hS (by show G (rf 41) ≠ 0; rw [hR.2 41 (by decide) (by decide) (by decide)]; decide) rfl (show vp_in p1 25 from vp_in_iff.mpr (by omega)) dX10_move1_11 (fun H locs hn ho hz hS => ?_)
  rw [en_5] at hn
  obtain ⟨g_4, eg_4⟩ : ∃ z : Nat → Int32, z = upd (A 41) n_5 ((A 41) n_2) := ⟨_, rfl⟩
  have sg_4 : g_4 n_5 = ((A 41) n_2) := by rw [eg_4]; exact upd_s
  have ng_4 : ∀ k, k ≠ n_5 → g_4 k = (A 41) k := fun k hk => by rw [eg_4]; exact upd_n hk
  have hn : va_at (DG E) vwCl (rf 41, .inl (E.2.2 0, 25, .inl g_4)) H := by rw [eg_4]; exact hn
  have hM : MH E h0 rf t0 t1 t2 (uA A 41 g_4) cd pk H := hM.w hR 41 (by decide) (by decide) (by decide) hn ho
  refine lv_aload_n hx hb dX10_move1_12 rfl (lv_at hl 0 rfl) ?_
  refine va_get (D := DG E) (ci := 10) (v := .ref (rf 42)) (C := RX10) (T := TX10) (N := 49) hx hb hts iw_X10 hown hK.1 (va_one hM.1) 0 rfl rfl 42 (by decide) (hts _ fl_X10_122) (fun _ h9 => h9) rfl dX10_move1_13 ?_
  refine lv_iload_n hx hb dX10_move1_16 rfl (lv_at hl 2 rfl) ?_
  refine lv_aload_n hx hb dX10_move1_17 rfl (lv_at hl 0 rfl) ?_
  refine va_get (D := DG E) (ci := 10) (v := .ref (rf 42)) (C := RX10) (T := TX10) (N := 49) hx hb hts iw_X10 hown hK.1 (va_one hM.1) 0 rfl rfl 42 (by decide) (hts _ fl_X10_122) (fun _ h9 => h9) rfl dX10_move1_18 ?_
  refine lv_iload_n hx hb dX10_move1_21 rfl (lv_at hl 1 rfl) ?_
  have ha_6 : va_at (DG E) vwCl (rf 42, .inl (E.2.2 0, 25, .inl (A 42))) _ := hM.2 42 (by decide) (by decide) (by decide)
  refine va_iald (D := DG E) hx hb hK.1 (va_one ha_6) 0 0 rfl rfl (show vp_in p0 25 from vp_in_iff.mpr (by omega)) dX10_move1_22 ?_
  refine W.eq (g2 := F0 m 23 ls [.int ((A 42) n_2), .int p1, .ref (rf 42)]) (by rw [en_2]) ?_
  have ha_7 : va_at (DG E) vwCl (rf 42, .inl (E.2.2 0, 25, .inl (A 42))) _ := hM.2 42 (by decide) (by decide) (by decide)
  refine rr_iast (D := DG E) hx hb hK.1 0 ha_7 hS (by show G (rf 42) ≠ 0; rw [hR.2 42 (by decide) (by decide) (by decide)]; decide) rfl (show vp_in p1 25 from vp_in_iff.mpr (by omega)) dX10_move1_23 (fun H locs hn ho hz hS => ?_)
  rw [en_5] at hn
  obtain ⟨g_7, eg_7⟩ : ∃ z : Nat → Int32, z = upd (A 42) n_5 ((A 42) n_2) := ⟨_, rfl⟩
  have sg_7 : g_7 n_5 = ((A 42) n_2) := by rw [eg_7]; exact upd_s
  have ng_7 : ∀ k, k ≠ n_5 → g_7 k = (A 42) k := fun k hk => by rw [eg_7]; exact upd_n hk
  have hn : va_at (DG E) vwCl (rf 42, .inl (E.2.2 0, 25, .inl g_7)) H := by rw [eg_7]; exact hn
  have hM : MH E h0 rf t0 t1 t2 (uA (uA A 41 g_4) 42 g_7) cd pk H := hM.w hR 42 (by decide) (by decide) (by decide) hn ho
  refine lv_aload_n hx hb dX10_move1_24 rfl (lv_at hl 0 rfl) ?_
  refine va_get (D := DG E) (ci := 10) (v := .ref (rf 43)) (C := RX10) (T := TX10) (N := 49) hx hb hts iw_X10 hown hK.1 (va_one hM.1) 0 rfl rfl 43 (by decide) (hts _ fl_X10_125) (fun _ h9 => h9) rfl dX10_move1_25 ?_
  refine lv_iload_n hx hb dX10_move1_28 rfl (lv_at hl 2 rfl) ?_
  refine lv_aload_n hx hb dX10_move1_29 rfl (lv_at hl 0 rfl) ?_
  refine va_get (D := DG E) (ci := 10) (v := .ref (rf 43)) (C := RX10) (T := TX10) (N := 49) hx hb hts iw_X10 hown hK.1 (va_one hM.1) 0 rfl rfl 43 (by decide) (hts _ fl_X10_125) (fun _ h9 => h9) rfl dX10_move1_30 ?_
  refine lv_iload_n hx hb dX10_move1_33 rfl (lv_at hl 1 rfl) ?_
  have ha_8 : va_at (DG E) vwCl (rf 43, .inl (E.2.2 0, 25, .inl (A 43))) _ := hM.2 43 (by decide) (by decide) (by decide)
  refine va_iald (D := DG E) hx hb hK.1 (va_one ha_8) 0 0 rfl rfl (show vp_in p0 25 from vp_in_iff.mpr (by omega)) dX10_move1_34 ?_
  refine W.eq (g2 := F0 m 35 ls [.int ((A 43) n_2), .int p1, .ref (rf 43)]) (by rw [en_2]) ?_
  have ha_9 : va_at (DG E) vwCl (rf 43, .inl (E.2.2 0, 25, .inl (A 43))) _ := hM.2 43 (by decide) (by decide) (by decide)
  refine rr_iast (D := DG E) hx hb hK.1 0 ha_9 hS (by show G (rf 43) ≠ 0; rw [hR.2 43 (by decide) (by decide) (by decide)]; decide) rfl (show vp_in p1 25 from vp_in_iff.mpr (by omega)) dX10_move1_35 (fun H locs hn ho hz hS => ?_)
  rw [en_5] at hn
  obtain ⟨g_9, eg_9⟩ : ∃ z : Nat → Int32, z = upd (A 43) n_5 ((A 43) n_2) := ⟨_, rfl⟩
  have sg_9 : g_9 n_5 = ((A 43) n_2) := by rw [eg_9]; exact upd_s
  have ng_9 : ∀ k, k ≠ n_5 → g_9 k = (A 43) k := fun k hk => by rw [eg_9]; exact upd_n hk
  have hn : va_at (DG E) vwCl (rf 43, .inl (E.2.2 0, 25, .inl g_9)) H := by rw [eg_9]; exact hn
  have hM : MH E h0 rf t0 t1 t2 (uA (uA (uA A 41 g_4) 42 g_7) 43 g_9) cd pk H := hM.w hR 43 (by decide) (by decide) (by decide) hn ho
  refine lv_aload_n hx hb dX10_move1_36 rfl (lv_at hl 0 rfl) ?_
  refine va_get (D := DG E) (ci := 10) (v := .ref (rf 44)) (C := RX10) (T := TX10) (N := 49) hx hb hts iw_X10 hown hK.1 (va_one hM.1) 0 rfl rfl 44 (by decide) (hts _ fl_X10_128) (fun _ h9 => h9) rfl dX10_move1_37 ?_
  refine lv_iload_n hx hb dX10_move1_40 rfl (lv_at hl 2 rfl) ?_
  refine lv_aload_n hx hb dX10_move1_41 rfl (lv_at hl 0 rfl) ?_
  refine va_get (D := DG E) (ci := 10) (v := .ref (rf 44)) (C := RX10) (T := TX10) (N := 49) hx hb hts iw_X10 hown hK.1 (va_one hM.1) 0 rfl rfl 44 (by decide) (hts _ fl_X10_128) (fun _ h9 => h9) rfl dX10_move1_42 ?_
  refine lv_iload_n hx hb dX10_move1_45 rfl (lv_at hl 1 rfl) ?_
  have ha_10 : va_at (DG E) vwCl (rf 44, .inl (E.2.2 0, 25, .inl (A 44))) _ := hM.2 44 (by decide) (by decide) (by decide)
  refine va_iald (D := DG E) hx hb hK.1 (va_one ha_10) 0 0 rfl rfl (show vp_in p0 25 from vp_in_iff.mpr (by omega)) dX10_move1_46 ?_
  refine W.eq (g2 := F0 m 47 ls [.int ((A 44) n_2), .int p1, .ref (rf 44)]) (by rw [en_2]) ?_
  have ha_11 : va_at (DG E) vwCl (rf 44, .inl (E.2.2 0, 25, .inl (A 44))) _ := hM.2 44 (by decide) (by decide) (by decide)
  refine rr_iast (D := DG E) hx hb hK.1 0 ha_11 hS (by show G (rf 44) ≠ 0; rw [hR.2 44 (by decide) (by decide) (by decide)]; decide) rfl (show vp_in p1 25 from vp_in_iff.mpr (by omega)) dX10_move1_47 (fun H locs hn ho hz hS => ?_)
  rw [en_5] at hn
  obtain ⟨g_11, eg_11⟩ : ∃ z : Nat → Int32, z = upd (A 44) n_5 ((A 44) n_2) := ⟨_, rfl⟩
  have sg_11 : g_11 n_5 = ((A 44) n_2) := by rw [eg_11]; exact upd_s
  have ng_11 : ∀ k, k ≠ n_5 → g_11 k = (A 44) k := fun k hk => by rw [eg_11]; exact upd_n hk
  have hn : va_at (DG E) vwCl (rf 44, .inl (E.2.2 0, 25, .inl g_11)) H := by rw [eg_11]; exact hn
  have hM : MH E h0 rf t0 t1 t2 (uA (uA (uA (uA A 41 g_4) 42 g_7) 43 g_9) 44 g_11) cd pk H := hM.w hR 44 (by decide) (by decide) (by decide) hn ho
  refine lv_aload_n hx hb dX10_move1_48 rfl (lv_at hl 0 rfl) ?_
  refine va_get (D := DG E) (ci := 10) (v := .ref (rf 45)) (C := RX10) (T := TX10) (N := 49) hx hb hts iw_X10 hown hK.1 (va_one hM.1) 0 rfl rfl 45 (by decide) (hts _ fl_X10_131) (fun _ h9 => h9) rfl dX10_move1_49 ?_
  refine lv_iload_n hx hb dX10_move1_52 rfl (lv_at hl 2 rfl) ?_
  refine lv_aload_n hx hb dX10_move1_53 rfl (lv_at hl 0 rfl) ?_
  refine va_get (D := DG E) (ci := 10) (v := .ref (rf 45)) (C := RX10) (T := TX10) (N := 49) hx hb hts iw_X10 hown hK.1 (va_one hM.1) 0 rfl rfl 45 (by decide) (hts _ fl_X10_131) (fun _ h9 => h9) rfl dX10_move1_54 ?_
  refine lv_iload_n hx hb dX10_move1_57 rfl (lv_at hl 1 rfl) ?_
  have ha_12 : va_at (DG E) vwCl (rf 45, .inl (E.2.2 0, 25, .inl (A 45))) _ := hM.2 45 (by decide) (by decide) (by decide)
  refine va_iald (D := DG E) hx hb hK.1 (va_one ha_12) 0 0 rfl rfl (show vp_in p0 25 from vp_in_iff.mpr (by omega)) dX10_move1_58 ?_
  refine W.eq (g2 := F0 m 59 ls [.int ((A 45) n_2), .int p1, .ref (rf 45)]) (by rw [en_2]) ?_
  have ha_13 : va_at (DG E) vwCl (rf 45, .inl (E.2.2 0, 25, .inl (A 45))) _ := hM.2 45 (by decide) (by decide) (by decide)
  refine rr_iast (D := DG E) hx hb hK.1 0 ha_13 hS (by show G (rf 45) ≠ 0; rw [hR.2 45 (by decide) (by decide) (by decide)]; decide) rfl (show vp_in p1 25 from vp_in_iff.mpr (by omega)) dX10_move1_59 (fun H locs hn ho hz hS => ?_)
  rw [en_5] at hn
  obtain ⟨g_13, eg_13⟩ : ∃ z : Nat → Int32, z = upd (A 45) n_5 ((A 45) n_2) := ⟨_, rfl⟩
  have sg_13 : g_13 n_5 = ((A 45) n_2) := by rw [eg_13]; exact upd_s
  have ng_13 : ∀ k, k ≠ n_5 → g_13 k = (A 45) k := fun k hk => by rw [eg_13]; exact upd_n hk
  have hn : va_at (DG E) vwCl (rf 45, .inl (E.2.2 0, 25, .inl g_13)) H := by rw [eg_13]; exact hn
  have hM : MH E h0 rf t0 t1 t2 (uA (uA (uA (uA (uA A 41 g_4) 42 g_7) 43 g_9) 44 g_11) 45 g_13) cd pk H := hM.w hR 45 (by decide) (by decide) (by decide) hn ho
  refine lv_aload_n hx hb dX10_move1_60 rfl (lv_at hl 0 rfl) ?_
  refine va_get (D := DG E) (ci := 10) (v := .ref (rf 46)) (C := RX10) (T := TX10) (N := 49) hx hb hts iw_X10 hown hK.1 (va_one hM.1) 0 rfl rfl 46 (by decide) (hts _ fl_X10_134) (fun _ h9 => h9) rfl dX10_move1_61 ?_
  refine lv_iload_n hx hb dX10_move1_64 rfl (lv_at hl 2 rfl) ?_
  refine lv_aload_n hx hb dX10_move1_65 rfl (lv_at hl 0 rfl) ?_
  refine va_get (D := DG E) (ci := 10) (v := .ref (rf 46)) (C := RX10) (T := TX10) (N := 49) hx hb hts iw_X10 hown hK.1 (va_one hM.1) 0 rfl rfl 46 (by decide) (hts _ fl_X10_134) (fun _ h9 => h9) rfl dX10_move1_66 ?_
  refine lv_iload_n hx hb dX10_move1_69 rfl (lv_at hl 1 rfl) ?_
  have ha_14 : va_at (DG E) vwCl (rf 46, .inl (E.2.2 0, 25, .inl (A 46))) _ := hM.2 46 (by decide) (by decide) (by decide)
  refine va_iald (D := DG E) hx hb hK.1 (va_one ha_14) 0 0 rfl rfl (show vp_in p0 25 from vp_in_iff.mpr (by omega)) dX10_move1_70 ?_
  refine W.eq (g2 := F0 m 71 ls [.int ((A 46) n_2), .int p1, .ref (rf 46)]) (by rw [en_2]) ?_
  have ha_15 : va_at (DG E) vwCl (rf 46, .inl (E.2.2 0, 25, .inl (A 46))) _ := hM.2 46 (by decide) (by decide) (by decide)
  refine rr_iast (D := DG E) hx hb hK.1 0 ha_15 hS (by show G (rf 46) ≠ 0; rw [hR.2 46 (by decide) (by decide) (by decide)]; decide) rfl (show vp_in p1 25 from vp_in_iff.mpr (by omega)) dX10_move1_71 (fun H locs hn ho hz hS => ?_)
  rw [en_5] at hn
  obtain ⟨g_15, eg_15⟩ : ∃ z : Nat → Int32, z = upd (A 46) n_5 ((A 46) n_2) := ⟨_, rfl⟩
  have sg_15 : g_15 n_5 = ((A 46) n_2) := by rw [eg_15]; exact upd_s
  have ng_15 : ∀ k, k ≠ n_5 → g_15 k = (A 46) k := fun k hk => by rw [eg_15]; exact upd_n hk
  have hn : va_at (DG E) vwCl (rf 46, .inl (E.2.2 0, 25, .inl g_15)) H := by rw [eg_15]; exact hn
  have hM : MH E h0 rf t0 t1 t2 (uA (uA (uA (uA (uA (uA A 41 g_4) 42 g_7) 43 g_9) 44 g_11) 45 g_13) 46 g_15) cd pk H := hM.w hR 46 (by decide) (by decide) (by decide) hn ho
  refine lv_aload_n hx hb dX10_move1_72 rfl (lv_at hl 0 rfl) ?_
  refine va_get (D := DG E) (ci := 10) (v := .ref (rf 47)) (C := RX10) (T := TX10) (N := 49) hx hb hts iw_X10 hown hK.1 (va_one hM.1) 0 rfl rfl 47 (by decide) (hts _ fl_X10_137) (fun _ h9 => h9) rfl dX10_move1_73 ?_
  refine lv_iload_n hx hb dX10_move1_76 rfl (lv_at hl 2 rfl) ?_
  refine lv_aload_n hx hb dX10_move1_77 rfl (lv_at hl 0 rfl) ?_
  refine va_get (D := DG E) (ci := 10) (v := .ref (rf 47)) (C := RX10) (T := TX10) (N := 49) hx hb hts iw_X10 hown hK.1 (va_one hM.1) 0 rfl rfl 47 (by decide) (hts _ fl_X10_137) (fun _ h9 => h9) rfl dX10_move1_78 ?_
  refine lv_iload_n hx hb dX10_move1_81 rfl (lv_at hl 1 rfl) ?_
  have ha_16 : va_at (DG E) vwCl (rf 47, .inl (E.2.2 0, 25, .inl (A 47))) _ := hM.2 47 (by decide) (by decide) (by decide)
  refine va_iald (D := DG E) hx hb hK.1 (va_one ha_16) 0 0 rfl rfl (show vp_in p0 25 from vp_in_iff.mpr (by omega)) dX10_move1_82 ?_
  refine W.eq (g2 := F0 m 83 ls [.int ((A 47) n_2), .int p1, .ref (rf 47)]) (by rw [en_2]) ?_
  have ha_17 : va_at (DG E) vwCl (rf 47, .inl (E.2.2 0, 25, .inl (A 47))) _ := hM.2 47 (by decide) (by decide) (by decide)
  refine rr_iast (D := DG E) hx hb hK.1 0 ha_17 hS (by show G (rf 47) ≠ 0; rw [hR.2 47 (by decide) (by decide) (by decide)]; decide) rfl (show vp_in p1 25 from vp_in_iff.mpr (by omega)) dX10_move1_83 (fun H locs hn ho hz hS => ?_)
  rw [en_5] at hn
  obtain ⟨g_17, eg_17⟩ : ∃ z : Nat → Int32, z = upd (A 47) n_5 ((A 47) n_2) := ⟨_, rfl⟩
  have sg_17 : g_17 n_5 = ((A 47) n_2) := by rw [eg_17]; exact upd_s
  have ng_17 : ∀ k, k ≠ n_5 → g_17 k = (A 47) k := fun k hk => by rw [eg_17]; exact upd_n hk
  have hn : va_at (DG E) vwCl (rf 47, .inl (E.2.2 0, 25, .inl g_17)) H := by rw [eg_17]; exact hn
  have hM : MH E h0 rf t0 t1 t2 (uA (uA (uA (uA (uA (uA (uA A 41 g_4) 42 g_7) 43 g_9) 44 g_11) 45 g_13) 46 g_15) 47 g_17) cd pk H := hM.w hR 47 (by decide) (by decide) (by decide) hn ho
  refine lv_iconst (v := 0) hx hb dX10_move1_84 (by decide) ?_
  refine lv_istore_n (lv' := [(3, .int 0), (0, .ref h0), (1, .int p0), (2, .int p1)]) hx hb dX10_move1_85 rfl hl (by decide) rfl (fun ls hl => ?_)
  refine lv_iload_n hx hb dX10_move1_86 rfl (lv_at hl 0 rfl) ?_
  refine lv_iconst (v := 4) hx hb dX10_move1_87 (by decide) ?_
  refine lv_icmp_ge (tgt := 117) hx hb dX10_move1_88 (by decide) (fun c_18 => absurd c_18 (by decide)) (fun c_18 => ?_)
  refine lv_aload_n hx hb dX10_move1_91 rfl (lv_at hl 1 rfl) ?_
  refine va_get (D := DG E) (ci := 10) (v := .ref (rf 48)) (C := RX10) (T := TX10) (N := 49) hx hb hts iw_X10 hown hK.1 (va_one hM.1) 0 rfl rfl 48 (by decide) (hts _ fl_X10_140) (fun _ h9 => h9) rfl dX10_move1_92 ?_
  refine lv_iconst (v := 4) hx hb dX10_move1_95 (by decide) ?_
  refine lv_iload_n hx hb dX10_move1_96 rfl (lv_at hl 3 rfl) ?_
  refine lv_imul hx hb dX10_move1_97 ?_
  refine lv_topi (fun x_19 ex_19 => ?_)
  have fx_19 : x_19.toInt = 4 * p1.toInt := by rw [ex_19]; exact s_mulK i_4 (by omega) (by omega)
  refine lv_iload_n hx hb dX10_move1_98 rfl (lv_at hl 0 rfl) ?_
  refine lv_iadd hx hb dX10_move1_99 ?_
  refine lv_topi (fun x_20 ex_20 => ?_)
  have fx_20 : x_20.toInt = x_19.toInt + 0 := by have h9 := s_add (x := x_19) (y := 0) (by rw [i_0]; omega) (by rw [i_0]; omega); rw [i_0] at h9; rw [ex_20]; exact h9
  refine lv_aload_n hx hb dX10_move1_100 rfl (lv_at hl 1 rfl) ?_
  refine va_get (D := DG E) (ci := 10) (v := .ref (rf 48)) (C := RX10) (T := TX10) (N := 49) hx hb hts iw_X10 hown hK.1 (va_one hM.1) 0 rfl rfl 48 (by decide) (hts _ fl_X10_140) (fun _ h9 => h9) rfl dX10_move1_101 ?_
  refine lv_iconst (v := 4) hx hb dX10_move1_104 (by decide) ?_
  refine lv_iload_n hx hb dX10_move1_105 rfl (lv_at hl 2 rfl) ?_
  refine lv_imul hx hb dX10_move1_106 ?_
  refine lv_topi (fun x_21 ex_21 => ?_)
  have fx_21 : x_21.toInt = 4 * p0.toInt := by rw [ex_21]; exact s_mulK i_4 (by omega) (by omega)
  refine lv_iload_n hx hb dX10_move1_107 rfl (lv_at hl 0 rfl) ?_
  refine lv_iadd hx hb dX10_move1_108 ?_
  refine lv_topi (fun x_22 ex_22 => ?_)
  have fx_22 : x_22.toInt = x_21.toInt + 0 := by have h9 := s_add (x := x_21) (y := 0) (by rw [i_0]; omega) (by rw [i_0]; omega); rw [i_0] at h9; rw [ex_22]; exact h9
  have ha_23 : va_at (DG E) vwCl (rf 48, .inl (E.2.2 0, 100, .inl (A 48))) _ := hM.2 48 (by decide) (by decide) (by decide)
  obtain ⟨n_24, hn_24, en_24⟩ := s_nat (x := x_22) (by omega)
  refine va_iald (D := DG E) hx hb hK.1 (va_one ha_23) 0 0 rfl rfl (show vp_in x_22 100 from vp_in_iff.mpr (by omega)) dX10_move1_109 ?_
  refine W.eq (g2 := F0 m 110 ls [.int ((A 48) n_24), .int x_20, .ref (rf 48)]) (by rw [en_24]) ?_
  have ha_25 : va_at (DG E) vwCl (rf 48, .inl (E.2.2 0, 100, .inl (A 48))) _ := hM.2 48 (by decide) (by decide) (by decide)
  obtain ⟨n_26, hn_26, en_26⟩ := s_nat (x := x_20) (by omega)
  refine rr_iast (D := DG E) hx hb hK.1 0 ha_25 hS (by show G (rf 48) ≠ 0; rw [hR.2 48 (by decide) (by decide) (by decide)]; decide) rfl (show vp_in x_20 100 from vp_in_iff.mpr (by omega)) dX10_move1_110 (fun H locs hn ho hz hS => ?_)
  rw [en_26] at hn
  obtain ⟨g_25, eg_25⟩ : ∃ z : Nat → Int32, z = upd (A 48) n_26 ((A 48) n_24) := ⟨_, rfl⟩
  have sg_25 : g_25 n_26 = ((A 48) n_24) := by rw [eg_25]; exact upd_s
  have ng_25 : ∀ k, k ≠ n_26 → g_25 k = (A 48) k := fun k hk => by rw [eg_25]; exact upd_n hk
  have hn : va_at (DG E) vwCl (rf 48, .inl (E.2.2 0, 100, .inl g_25)) H := by rw [eg_25]; exact hn
  have hM : MH E h0 rf t0 t1 t2 (uA (uA (uA (uA (uA (uA (uA (uA A 41 g_4) 42 g_7) 43 g_9) 44 g_11) 45 g_13) 46 g_15) 47 g_17) 48 g_25) cd pk H := hM.w hR 48 (by decide) (by decide) (by decide) hn ho
  refine lv_iinc (v := 1) (lv' := [(3, .int 1), (0, .ref h0), (1, .int p0), (2, .int p1)]) hx hb dX10_move1_111 hl (k := 0) rfl (by decide) (by decide) rfl (fun ls hl => ?_)
  refine lv_goto (tgt := 86) hx hb dX10_move1_114 (by decide) ?_
  refine lv_iload_n hx hb dX10_move1_86 rfl (lv_at hl 0 rfl) ?_
  refine lv_iconst (v := 4) hx hb dX10_move1_87 (by decide) ?_
  refine lv_icmp_ge (tgt := 117) hx hb dX10_move1_88 (by decide) (fun c_27 => absurd c_27 (by decide)) (fun c_27 => ?_)
  refine lv_aload_n hx hb dX10_move1_91 rfl (lv_at hl 1 rfl) ?_
  refine va_get (D := DG E) (ci := 10) (v := .ref (rf 48)) (C := RX10) (T := TX10) (N := 49) hx hb hts iw_X10 hown hK.1 (va_one hM.1) 0 rfl rfl 48 (by decide) (hts _ fl_X10_140) (fun _ h9 => h9) rfl dX10_move1_92 ?_
  refine lv_iconst (v := 4) hx hb dX10_move1_95 (by decide) ?_
  refine lv_iload_n hx hb dX10_move1_96 rfl (lv_at hl 3 rfl) ?_
  refine lv_imul hx hb dX10_move1_97 ?_
  refine lv_topi (fun x_28 ex_28 => ?_)
  have fx_28 : x_28.toInt = 4 * p1.toInt := by rw [ex_28]; exact s_mulK i_4 (by omega) (by omega)
  refine lv_iload_n hx hb dX10_move1_98 rfl (lv_at hl 0 rfl) ?_
  refine lv_iadd hx hb dX10_move1_99 ?_
  refine lv_topi (fun x_29 ex_29 => ?_)
  have fx_29 : x_29.toInt = x_28.toInt + 1 := by have h9 := s_add (x := x_28) (y := 1) (by rw [i_1]; omega) (by rw [i_1]; omega); rw [i_1] at h9; rw [ex_29]; exact h9
  refine lv_aload_n hx hb dX10_move1_100 rfl (lv_at hl 1 rfl) ?_
  refine va_get (D := DG E) (ci := 10) (v := .ref (rf 48)) (C := RX10) (T := TX10) (N := 49) hx hb hts iw_X10 hown hK.1 (va_one hM.1) 0 rfl rfl 48 (by decide) (hts _ fl_X10_140) (fun _ h9 => h9) rfl dX10_move1_101 ?_
  refine lv_iconst (v := 4) hx hb dX10_move1_104 (by decide) ?_
  refine lv_iload_n hx hb dX10_move1_105 rfl (lv_at hl 2 rfl) ?_
  refine lv_imul hx hb dX10_move1_106 ?_
  refine lv_topi (fun x_30 ex_30 => ?_)
  have fx_30 : x_30.toInt = 4 * p0.toInt := by rw [ex_30]; exact s_mulK i_4 (by omega) (by omega)
  refine lv_iload_n hx hb dX10_move1_107 rfl (lv_at hl 0 rfl) ?_
  refine lv_iadd hx hb dX10_move1_108 ?_
  refine lv_topi (fun x_31 ex_31 => ?_)
  have fx_31 : x_31.toInt = x_30.toInt + 1 := by have h9 := s_add (x := x_30) (y := 1) (by rw [i_1]; omega) (by rw [i_1]; omega); rw [i_1] at h9; rw [ex_31]; exact h9
  have ha_32 : va_at (DG E) vwCl (rf 48, .inl (E.2.2 0, 100, .inl g_25)) _ := hM.2 48 (by decide) (by decide) (by decide)
  obtain ⟨n_33, hn_33, en_33⟩ := s_nat (x := x_31) (by omega)
  refine va_iald (D := DG E) hx hb hK.1 (va_one ha_32) 0 0 rfl rfl (show vp_in x_31 100 from vp_in_iff.mpr (by omega)) dX10_move1_109 ?_
  refine W.eq (g2 := F0 m 110 ls [.int (g_25 n_33), .int x_29, .ref (rf 48)]) (by rw [en_33]) ?_
  have ha_34 : va_at (DG E) vwCl (rf 48, .inl (E.2.2 0, 100, .inl g_25)) _ := hM.2 48 (by decide) (by decide) (by decide)
  obtain ⟨n_35, hn_35, en_35⟩ := s_nat (x := x_29) (by omega)
  refine rr_iast (D := DG E) hx hb hK.1 0 ha_34 hS (by show G (rf 48) ≠ 0; rw [hR.2 48 (by decide) (by decide) (by decide)]; decide) rfl (show vp_in x_29 100 from vp_in_iff.mpr (by omega)) dX10_move1_110 (fun H locs hn ho hz hS => ?_)
  rw [en_35] at hn
  obtain ⟨g_34, eg_34⟩ : ∃ z : Nat → Int32, z = upd g_25 n_35 (g_25 n_33) := ⟨_, rfl⟩
  have sg_34 : g_34 n_35 = (g_25 n_33) := by rw [eg_34]; exact upd_s
  have ng_34 : ∀ k, k ≠ n_35 → g_34 k = g_25 k := fun k hk => by rw [eg_34]; exact upd_n hk
  have hn : va_at (DG E) vwCl (rf 48, .inl (E.2.2 0, 100, .inl g_34)) H := by rw [eg_34]; exact hn
  have hM : MH E h0 rf t0 t1 t2 (uA (uA (uA (uA (uA (uA (uA (uA (uA A 41 g_4) 42 g_7) 43 g_9) 44 g_11) 45 g_13) 46 g_15) 47 g_17) 48 g_25) 48 g_34) cd pk H := hM.w hR 48 (by decide) (by decide) (by decide) hn ho
  refine lv_iinc (v := 2) (lv' := [(3, .int 2), (0, .ref h0), (1, .int p0), (2, .int p1)]) hx hb dX10_move1_111 hl (k := 0) rfl (by decide) (by decide) rfl (fun ls hl => ?_)
  refine lv_goto (tgt := 86) hx hb dX10_move1_114 (by decide) ?_
  refine lv_iload_n hx hb dX10_move1_86 rfl (lv_at hl 0 rfl) ?_
  refine lv_iconst (v := 4) hx hb dX10_move1_87 (by decide) ?_
  refine lv_icmp_ge (tgt := 117) hx hb dX10_move1_88 (by decide) (fun c_36 => absurd c_36 (by decide)) (fun c_36 => ?_)
  refine lv_aload_n hx hb dX10_move1_91 rfl (lv_at hl 1 rfl) ?_
  refine va_get (D := DG E) (ci := 10) (v := .ref (rf 48)) (C := RX10) (T := TX10) (N := 49) hx hb hts iw_X10 hown hK.1 (va_one hM.1) 0 rfl rfl 48 (by decide) (hts _ fl_X10_140) (fun _ h9 => h9) rfl dX10_move1_92 ?_
  refine lv_iconst (v := 4) hx hb dX10_move1_95 (by decide) ?_
  refine lv_iload_n hx hb dX10_move1_96 rfl (lv_at hl 3 rfl) ?_
  refine lv_imul hx hb dX10_move1_97 ?_
  refine lv_topi (fun x_37 ex_37 => ?_)
  have fx_37 : x_37.toInt = 4 * p1.toInt := by rw [ex_37]; exact s_mulK i_4 (by omega) (by omega)
  refine lv_iload_n hx hb dX10_move1_98 rfl (lv_at hl 0 rfl) ?_
  refine lv_iadd hx hb dX10_move1_99 ?_
  refine lv_topi (fun x_38 ex_38 => ?_)
  have fx_38 : x_38.toInt = x_37.toInt + 2 := by have h9 := s_add (x := x_37) (y := 2) (by rw [i_2]; omega) (by rw [i_2]; omega); rw [i_2] at h9; rw [ex_38]; exact h9
  refine lv_aload_n hx hb dX10_move1_100 rfl (lv_at hl 1 rfl) ?_
  refine va_get (D := DG E) (ci := 10) (v := .ref (rf 48)) (C := RX10) (T := TX10) (N := 49) hx hb hts iw_X10 hown hK.1 (va_one hM.1) 0 rfl rfl 48 (by decide) (hts _ fl_X10_140) (fun _ h9 => h9) rfl dX10_move1_101 ?_
  refine lv_iconst (v := 4) hx hb dX10_move1_104 (by decide) ?_
  refine lv_iload_n hx hb dX10_move1_105 rfl (lv_at hl 2 rfl) ?_
  refine lv_imul hx hb dX10_move1_106 ?_
  refine lv_topi (fun x_39 ex_39 => ?_)
  have fx_39 : x_39.toInt = 4 * p0.toInt := by rw [ex_39]; exact s_mulK i_4 (by omega) (by omega)
  refine lv_iload_n hx hb dX10_move1_107 rfl (lv_at hl 0 rfl) ?_
  refine lv_iadd hx hb dX10_move1_108 ?_
  refine lv_topi (fun x_40 ex_40 => ?_)
  have fx_40 : x_40.toInt = x_39.toInt + 2 := by have h9 := s_add (x := x_39) (y := 2) (by rw [i_2]; omega) (by rw [i_2]; omega); rw [i_2] at h9; rw [ex_40]; exact h9
  have ha_41 : va_at (DG E) vwCl (rf 48, .inl (E.2.2 0, 100, .inl g_34)) _ := hM.2 48 (by decide) (by decide) (by decide)
  obtain ⟨n_42, hn_42, en_42⟩ := s_nat (x := x_40) (by omega)
  refine va_iald (D := DG E) hx hb hK.1 (va_one ha_41) 0 0 rfl rfl (show vp_in x_40 100 from vp_in_iff.mpr (by omega)) dX10_move1_109 ?_
  refine W.eq (g2 := F0 m 110 ls [.int (g_34 n_42), .int x_38, .ref (rf 48)]) (by rw [en_42]) ?_
  have ha_43 : va_at (DG E) vwCl (rf 48, .inl (E.2.2 0, 100, .inl g_34)) _ := hM.2 48 (by decide) (by decide) (by decide)
  obtain ⟨n_44, hn_44, en_44⟩ := s_nat (x := x_38) (by omega)
  refine rr_iast (D := DG E) hx hb hK.1 0 ha_43 hS (by show G (rf 48) ≠ 0; rw [hR.2 48 (by decide) (by decide) (by decide)]; decide) rfl (show vp_in x_38 100 from vp_in_iff.mpr (by omega)) dX10_move1_110 (fun H locs hn ho hz hS => ?_)
  rw [en_44] at hn
  obtain ⟨g_43, eg_43⟩ : ∃ z : Nat → Int32, z = upd g_34 n_44 (g_34 n_42) := ⟨_, rfl⟩
  have sg_43 : g_43 n_44 = (g_34 n_42) := by rw [eg_43]; exact upd_s
  have ng_43 : ∀ k, k ≠ n_44 → g_43 k = g_34 k := fun k hk => by rw [eg_43]; exact upd_n hk
  have hn : va_at (DG E) vwCl (rf 48, .inl (E.2.2 0, 100, .inl g_43)) H := by rw [eg_43]; exact hn
  have hM : MH E h0 rf t0 t1 t2 (uA (uA (uA (uA (uA (uA (uA (uA (uA (uA A 41 g_4) 42 g_7) 43 g_9) 44 g_11) 45 g_13) 46 g_15) 47 g_17) 48 g_25) 48 g_34) 48 g_43) cd pk H := hM.w hR 48 (by decide) (by decide) (by decide) hn ho
  refine lv_iinc (v := 3) (lv' := [(3, .int 3), (0, .ref h0), (1, .int p0), (2, .int p1)]) hx hb dX10_move1_111 hl (k := 0) rfl (by decide) (by decide) rfl (fun ls hl => ?_)
  refine lv_goto (tgt := 86) hx hb dX10_move1_114 (by decide) ?_
  refine lv_iload_n hx hb dX10_move1_86 rfl (lv_at hl 0 rfl) ?_
  refine lv_iconst (v := 4) hx hb dX10_move1_87 (by decide) ?_
  refine lv_icmp_ge (tgt := 117) hx hb dX10_move1_88 (by decide) (fun c_45 => absurd c_45 (by decide)) (fun c_45 => ?_)
  refine lv_aload_n hx hb dX10_move1_91 rfl (lv_at hl 1 rfl) ?_
  refine va_get (D := DG E) (ci := 10) (v := .ref (rf 48)) (C := RX10) (T := TX10) (N := 49) hx hb hts iw_X10 hown hK.1 (va_one hM.1) 0 rfl rfl 48 (by decide) (hts _ fl_X10_140) (fun _ h9 => h9) rfl dX10_move1_92 ?_
  refine lv_iconst (v := 4) hx hb dX10_move1_95 (by decide) ?_
  refine lv_iload_n hx hb dX10_move1_96 rfl (lv_at hl 3 rfl) ?_
  refine lv_imul hx hb dX10_move1_97 ?_
  refine lv_topi (fun x_46 ex_46 => ?_)
  have fx_46 : x_46.toInt = 4 * p1.toInt := by rw [ex_46]; exact s_mulK i_4 (by omega) (by omega)
  refine lv_iload_n hx hb dX10_move1_98 rfl (lv_at hl 0 rfl) ?_
  refine lv_iadd hx hb dX10_move1_99 ?_
  refine lv_topi (fun x_47 ex_47 => ?_)
  have fx_47 : x_47.toInt = x_46.toInt + 3 := by have h9 := s_add (x := x_46) (y := 3) (by rw [i_3]; omega) (by rw [i_3]; omega); rw [i_3] at h9; rw [ex_47]; exact h9
  refine lv_aload_n hx hb dX10_move1_100 rfl (lv_at hl 1 rfl) ?_
  refine va_get (D := DG E) (ci := 10) (v := .ref (rf 48)) (C := RX10) (T := TX10) (N := 49) hx hb hts iw_X10 hown hK.1 (va_one hM.1) 0 rfl rfl 48 (by decide) (hts _ fl_X10_140) (fun _ h9 => h9) rfl dX10_move1_101 ?_
  refine lv_iconst (v := 4) hx hb dX10_move1_104 (by decide) ?_
  refine lv_iload_n hx hb dX10_move1_105 rfl (lv_at hl 2 rfl) ?_
  refine lv_imul hx hb dX10_move1_106 ?_
  refine lv_topi (fun x_48 ex_48 => ?_)
  have fx_48 : x_48.toInt = 4 * p0.toInt := by rw [ex_48]; exact s_mulK i_4 (by omega) (by omega)
  refine lv_iload_n hx hb dX10_move1_107 rfl (lv_at hl 0 rfl) ?_
  refine lv_iadd hx hb dX10_move1_108 ?_
  refine lv_topi (fun x_49 ex_49 => ?_)
  have fx_49 : x_49.toInt = x_48.toInt + 3 := by have h9 := s_add (x := x_48) (y := 3) (by rw [i_3]; omega) (by rw [i_3]; omega); rw [i_3] at h9; rw [ex_49]; exact h9
  have ha_50 : va_at (DG E) vwCl (rf 48, .inl (E.2.2 0, 100, .inl g_43)) _ := hM.2 48 (by decide) (by decide) (by decide)
  obtain ⟨n_51, hn_51, en_51⟩ := s_nat (x := x_49) (by omega)
  refine va_iald (D := DG E) hx hb hK.1 (va_one ha_50) 0 0 rfl rfl (show vp_in x_49 100 from vp_in_iff.mpr (by omega)) dX10_move1_109 ?_
  refine W.eq (g2 := F0 m 110 ls [.int (g_43 n_51), .int x_47, .ref (rf 48)]) (by rw [en_51]) ?_
  have ha_52 : va_at (DG E) vwCl (rf 48, .inl (E.2.2 0, 100, .inl g_43)) _ := hM.2 48 (by decide) (by decide) (by decide)
  obtain ⟨n_53, hn_53, en_53⟩ := s_nat (x := x_47) (by omega)
  refine rr_iast (D := DG E) hx hb hK.1 0 ha_52 hS (by show G (rf 48) ≠ 0; rw [hR.2 48 (by decide) (by decide) (by decide)]; decide) rfl (show vp_in x_47 100 from vp_in_iff.mpr (by omega)) dX10_move1_110 (fun H locs hn ho hz hS => ?_)
  rw [en_53] at hn
  obtain ⟨g_52, eg_52⟩ : ∃ z : Nat → Int32, z = upd g_43 n_53 (g_43 n_51) := ⟨_, rfl⟩
  have sg_52 : g_52 n_53 = (g_43 n_51) := by rw [eg_52]; exact upd_s
  have ng_52 : ∀ k, k ≠ n_53 → g_52 k = g_43 k := fun k hk => by rw [eg_52]; exact upd_n hk
  have hn : va_at (DG E) vwCl (rf 48, .inl (E.2.2 0, 100, .inl g_52)) H := by rw [eg_52]; exact hn
  have hM : MH E h0 rf t0 t1 t2 (uA (uA (uA (uA (uA (uA (uA (uA (uA (uA (uA A 41 g_4) 42 g_7) 43 g_9) 44 g_11) 45 g_13) 46 g_15) 47 g_17) 48 g_25) 48 g_34) 48 g_43) 48 g_52) cd pk H := hM.w hR 48 (by decide) (by decide) (by decide) hn ho
  refine lv_iinc (v := 4) (lv' := [(3, .int 4), (0, .ref h0), (1, .int p0), (2, .int p1)]) hx hb dX10_move1_111 hl (k := 0) rfl (by decide) (by decide) rfl (fun ls hl => ?_)
  refine lv_goto (tgt := 86) hx hb dX10_move1_114 (by decide) ?_
  refine lv_iload_n hx hb dX10_move1_86 rfl (lv_at hl 0 rfl) ?_
  refine lv_iconst (v := 4) hx hb dX10_move1_87 (by decide) ?_
  refine lv_icmp_ge (tgt := 117) hx hb dX10_move1_88 (by decide) (fun c_54 => ?_) (fun c_54 => absurd c_54 (by decide))
  have hI7_55 : I7 g_4 g_7 g_11 g_13 g_15 := by
    intro n9 hn9
    have h9 : 0 ≤ ((A 41) n9).toInt ∧ ((A 41) n9).toInt ≤ 3 ∧ 0 ≤ ((A 44) n9).toInt ∧ ((A 44) n9).toInt ≤ 12 ∧ (((A 42) n9).toInt ≠ 0 ∧ ((A 42) n9).toInt ≠ 1 ∧ ((A 42) n9).toInt ≠ 4 ∨ ((A 44) n9).toInt ≤ 4) ∧ (((A 42) n9).toInt < 1 ∨ 3 < ((A 42) n9).toInt ∨ (0 ≤ ((A 45) n9).toInt ∧ ((A 45) n9).toInt ≤ 5)) ∧ -1 ≤ ((A 46) n9).toInt ∧ ((A 46) n9).toInt ≤ 60 := hI7 n9 hn9
    show 0 ≤ (g_4 n9).toInt ∧ (g_4 n9).toInt ≤ 3 ∧ 0 ≤ (g_11 n9).toInt ∧ (g_11 n9).toInt ≤ 12 ∧ ((g_7 n9).toInt ≠ 0 ∧ (g_7 n9).toInt ≠ 1 ∧ (g_7 n9).toInt ≠ 4 ∨ (g_11 n9).toInt ≤ 4) ∧ ((g_7 n9).toInt < 1 ∨ 3 < (g_7 n9).toInt ∨ (0 ≤ (g_13 n9).toInt ∧ (g_13 n9).toInt ≤ 5)) ∧ -1 ≤ (g_15 n9).toInt ∧ (g_15 n9).toInt ≤ 60
    by_cases ez_5 : n9 = n_5
    · rw [ez_5] at h9 ⊢
      rw [sg_4]
      rw [sg_7]
      rw [sg_11]
      rw [sg_13]
      rw [sg_15]
      clear h9
      exact ⟨by omega, by omega, by omega, by omega, by omega, by omega, by omega, by omega⟩
    · rw [ng_4 n9 ez_5]
      rw [ng_7 n9 ez_5]
      rw [ng_11 n9 ez_5]
      rw [ng_13 n9 ez_5]
      rw [ng_15 n9 ez_5]
      exact h9
  exact W.vret hx hb hr (fun t ht hW => ⟨⟨(g_4, g_7, g_9, g_11, g_13, g_15, g_17, g_52), rfl, hI7_55, (by show MH E h0 rf t0 t1 t2 (uA (uA (uA (uA (uA (uA (uA (uA A 41 g_4) 42 g_7) 43 g_9) 44 g_11) 45 g_13) 46 g_15) 47 g_17) 48 g_52) cd pk t.heap; rw [ht]; exact hM.cg (fun k => by simp only [uA]; (repeat' split) <;> first | rfl | (rename_i h; subst h; rfl) | contradiction | (exfalso; omega)))⟩, hS.F ht⟩) hS.2.2 dX10_move1_117
