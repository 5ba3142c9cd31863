theorem dX10_failPair_0 : decode cX10_failPair 0 = .ok (.aload_n 0, 1) := by decide +kernel
theorem dX10_failPair_1 : decode cX10_failPair 1 = .ok (.getfield 28, 3) := by decide +kernel
theorem dX10_failPair_4 : decode cX10_failPair 4 = .ok (.iload_n 1, 1) := by decide +kernel
theorem dX10_failPair_5 : decode cX10_failPair 5 = .ok (.iconst 2, 1) := by decide +kernel
theorem dX10_failPair_6 : decode cX10_failPair 6 = .ok (.iastore, 1) := by decide +kernel
theorem dX10_failPair_7 : decode cX10_failPair 7 = .ok (.iconst 0, 1) := by decide +kernel
theorem dX10_failPair_8 : decode cX10_failPair 8 = .ok (.istore 4, 2) := by decide +kernel
theorem dX10_failPair_10 : decode cX10_failPair 10 = .ok (.iload 4, 2) := by decide +kernel
theorem dX10_failPair_12 : decode cX10_failPair 12 = .ok (.aload_n 0, 1) := by decide +kernel
theorem dX10_failPair_13 : decode cX10_failPair 13 = .ok (.getfield 59, 3) := by decide +kernel
theorem dX10_failPair_16 : decode cX10_failPair 16 = .ok (.iload_n 1, 1) := by decide +kernel
theorem dX10_failPair_17 : decode cX10_failPair 17 = .ok (.iaload, 1) := by decide +kernel
theorem dX10_failPair_18 : decode cX10_failPair 18 = .ok (.if_icmp .ge 57, 3) := by decide +kernel
theorem dX10_failPair_21 : decode cX10_failPair 21 = .ok (.iconst 4, 1) := by decide +kernel
theorem dX10_failPair_22 : decode cX10_failPair 22 = .ok (.iload_n 1, 1) := by decide +kernel
theorem dX10_failPair_23 : decode cX10_failPair 23 = .ok (.imul, 1) := by decide +kernel
theorem dX10_failPair_24 : decode cX10_failPair 24 = .ok (.iload 4, 2) := by decide +kernel
theorem dX10_failPair_26 : decode cX10_failPair 26 = .ok (.iadd, 1) := by decide +kernel
theorem dX10_failPair_27 : decode cX10_failPair 27 = .ok (.istore 5, 2) := by decide +kernel
theorem dX10_failPair_29 : decode cX10_failPair 29 = .ok (.aload_n 0, 1) := by decide +kernel
theorem dX10_failPair_30 : decode cX10_failPair 30 = .ok (.iload_n 1, 1) := by decide +kernel
theorem dX10_failPair_31 : decode cX10_failPair 31 = .ok (.aload_n 0, 1) := by decide +kernel
theorem dX10_failPair_32 : decode cX10_failPair 32 = .ok (.getfield 65, 3) := by decide +kernel
theorem dX10_failPair_35 : decode cX10_failPair 35 = .ok (.iload 5, 2) := by decide +kernel
theorem dX10_failPair_37 : decode cX10_failPair 37 = .ok (.iaload, 1) := by decide +kernel
theorem dX10_failPair_38 : decode cX10_failPair 38 = .ok (.aload_n 0, 1) := by decide +kernel
theorem dX10_failPair_39 : decode cX10_failPair 39 = .ok (.getfield 83, 3) := by decide +kernel
theorem dX10_failPair_42 : decode cX10_failPair 42 = .ok (.iload 5, 2) := by decide +kernel
theorem dX10_failPair_44 : decode cX10_failPair 44 = .ok (.iaload, 1) := by decide +kernel
theorem dX10_failPair_45 : decode cX10_failPair 45 = .ok (.iload 4, 2) := by decide +kernel
theorem dX10_failPair_47 : decode cX10_failPair 47 = .ok (.ifCond .ne 11, 3) := by decide +kernel
theorem dX10_failPair_50 : decode cX10_failPair 50 = .ok (.iload_n 2, 1) := by decide +kernel
theorem dX10_failPair_51 : decode cX10_failPair 51 = .ok (.ifCond .le 7, 3) := by decide +kernel
theorem dX10_failPair_54 : decode cX10_failPair 54 = .ok (.iload_n 2, 1) := by decide +kernel
theorem dX10_failPair_55 : decode cX10_failPair 55 = .ok (.goto 4, 3) := by decide +kernel
theorem dX10_failPair_58 : decode cX10_failPair 58 = .ok (.iconst 5, 1) := by decide +kernel
theorem dX10_failPair_59 : decode cX10_failPair 59 = .ok (.aload_n 0, 1) := by decide +kernel
theorem dX10_failPair_60 : decode cX10_failPair 60 = .ok (.getfield 71, 3) := by decide +kernel
theorem dX10_failPair_63 : decode cX10_failPair 63 = .ok (.iload 5, 2) := by decide +kernel
theorem dX10_failPair_65 : decode cX10_failPair 65 = .ok (.iaload, 1) := by decide +kernel
theorem dX10_failPair_66 : decode cX10_failPair 66 = .ok (.invokevirtual 207, 3) := by decide +kernel
theorem dX10_failPair_69 : decode cX10_failPair 69 = .ok (.iinc 4 1, 3) := by decide +kernel
theorem dX10_failPair_72 : decode cX10_failPair 72 = .ok (.goto (-62), 3) := by decide +kernel
theorem dX10_failPair_75 : decode cX10_failPair 75 = .ok (.iconst 0, 1) := by decide +kernel
theorem dX10_failPair_76 : decode cX10_failPair 76 = .ok (.istore 4, 2) := by decide +kernel
theorem dX10_failPair_78 : decode cX10_failPair 78 = .ok (.iload 4, 2) := by decide +kernel
theorem dX10_failPair_80 : decode cX10_failPair 80 = .ok (.aload_n 0, 1) := by decide +kernel
theorem dX10_failPair_81 : decode cX10_failPair 81 = .ok (.getfield 89, 3) := by decide +kernel
theorem dX10_failPair_84 : decode cX10_failPair 84 = .ok (.iload_n 1, 1) := by decide +kernel
theorem dX10_failPair_85 : decode cX10_failPair 85 = .ok (.iaload, 1) := by decide +kernel
theorem dX10_failPair_86 : decode cX10_failPair 86 = .ok (.if_icmp .ge 60, 3) := by decide +kernel
theorem dX10_failPair_89 : decode cX10_failPair 89 = .ok (.iconst 4, 1) := by decide +kernel
theorem dX10_failPair_90 : decode cX10_failPair 90 = .ok (.iload_n 1, 1) := by decide +kernel
theorem dX10_failPair_91 : decode cX10_failPair 91 = .ok (.imul, 1) := by decide +kernel
theorem dX10_failPair_92 : decode cX10_failPair 92 = .ok (.iload 4, 2) := by decide +kernel
theorem dX10_failPair_94 : decode cX10_failPair 94 = .ok (.iadd, 1) := by decide +kernel
theorem dX10_failPair_95 : decode cX10_failPair 95 = .ok (.istore 5, 2) := by decide +kernel
theorem dX10_failPair_97 : decode cX10_failPair 97 = .ok (.aload_n 0, 1) := by decide +kernel
theorem dX10_failPair_98 : decode cX10_failPair 98 = .ok (.iload_n 1, 1) := by decide +kernel
theorem dX10_failPair_99 : decode cX10_failPair 99 = .ok (.iconst 4, 1) := by decide +kernel
theorem dX10_failPair_100 : decode cX10_failPair 100 = .ok (.aload_n 0, 1) := by decide +kernel
theorem dX10_failPair_101 : decode cX10_failPair 101 = .ok (.getfield 101, 3) := by decide +kernel
theorem dX10_failPair_104 : decode cX10_failPair 104 = .ok (.iload 5, 2) := by decide +kernel
theorem dX10_failPair_106 : decode cX10_failPair 106 = .ok (.iaload, 1) := by decide +kernel
theorem dX10_failPair_107 : decode cX10_failPair 107 = .ok (.iload 4, 2) := by decide +kernel
theorem dX10_failPair_109 : decode cX10_failPair 109 = .ok (.ifCond .ne 20, 3) := by decide +kernel
theorem dX10_failPair_112 : decode cX10_failPair 112 = .ok (.aload_n 0, 1) := by decide +kernel
theorem dX10_failPair_113 : decode cX10_failPair 113 = .ok (.getfield 107, 3) := by decide +kernel
theorem dX10_failPair_116 : decode cX10_failPair 116 = .ok (.iload_n 1, 1) := by decide +kernel
theorem dX10_failPair_117 : decode cX10_failPair 117 = .ok (.baload, 1) := by decide +kernel
theorem dX10_failPair_118 : decode cX10_failPair 118 = .ok (.ifCond .eq 11, 3) := by decide +kernel
theorem dX10_failPair_121 : decode cX10_failPair 121 = .ok (.iload_n 3, 1) := by decide +kernel
theorem dX10_failPair_122 : decode cX10_failPair 122 = .ok (.ifCond .le 7, 3) := by decide +kernel
theorem dX10_failPair_125 : decode cX10_failPair 125 = .ok (.iload_n 3, 1) := by decide +kernel
theorem dX10_failPair_126 : decode cX10_failPair 126 = .ok (.goto 4, 3) := by decide +kernel
theorem dX10_failPair_129 : decode cX10_failPair 129 = .ok (.iconst 5, 1) := by decide +kernel
theorem dX10_failPair_130 : decode cX10_failPair 130 = .ok (.aload_n 0, 1) := by decide +kernel
theorem dX10_failPair_131 : decode cX10_failPair 131 = .ok (.getfield 104, 3) := by decide +kernel
theorem dX10_failPair_134 : decode cX10_failPair 134 = .ok (.iload 5, 2) := by decide +kernel
theorem dX10_failPair_136 : decode cX10_failPair 136 = .ok (.iaload, 1) := by decide +kernel
theorem dX10_failPair_137 : decode cX10_failPair 137 = .ok (.invokevirtual 207, 3) := by decide +kernel
theorem dX10_failPair_140 : decode cX10_failPair 140 = .ok (.iinc 4 1, 3) := by decide +kernel
theorem dX10_failPair_143 : decode cX10_failPair 143 = .ok (.goto (-65), 3) := by decide +kernel
theorem dX10_failPair_146 : decode cX10_failPair 146 = .ok (.aload_n 0, 1) := by decide +kernel
theorem dX10_failPair_147 : decode cX10_failPair 147 = .ok (.getfield 59, 3) := by decide +kernel
theorem dX10_failPair_150 : decode cX10_failPair 150 = .ok (.iload_n 1, 1) := by decide +kernel
theorem dX10_failPair_151 : decode cX10_failPair 151 = .ok (.iconst 0, 1) := by decide +kernel
theorem dX10_failPair_152 : decode cX10_failPair 152 = .ok (.iastore, 1) := by decide +kernel
theorem dX10_failPair_153 : decode cX10_failPair 153 = .ok (.aload_n 0, 1) := by decide +kernel
theorem dX10_failPair_154 : decode cX10_failPair 154 = .ok (.getfield 89, 3) := by decide +kernel
theorem dX10_failPair_157 : decode cX10_failPair 157 = .ok (.iload_n 1, 1) := by decide +kernel
theorem dX10_failPair_158 : decode cX10_failPair 158 = .ok (.iconst 0, 1) := by decide +kernel
theorem dX10_failPair_159 : decode cX10_failPair 159 = .ok (.iastore, 1) := by decide +kernel
theorem dX10_failPair_160 : decode cX10_failPair 160 = .ok (.aload_n 0, 1) := by decide +kernel
theorem dX10_failPair_161 : decode cX10_failPair 161 = .ok (.getfield 107, 3) := by decide +kernel
theorem dX10_failPair_164 : decode cX10_failPair 164 = .ok (.iload_n 1, 1) := by decide +kernel
theorem dX10_failPair_165 : decode cX10_failPair 165 = .ok (.iconst 0, 1) := by decide +kernel
theorem dX10_failPair_166 : decode cX10_failPair 166 = .ok (.bastore, 1) := by decide +kernel
theorem dX10_failPair_167 : decode cX10_failPair 167 = .ok (.aload_n 0, 1) := by decide +kernel
theorem dX10_failPair_168 : decode cX10_failPair 168 = .ok (.getfield 52, 3) := by decide +kernel
theorem dX10_failPair_171 : decode cX10_failPair 171 = .ok (.iload_n 1, 1) := by decide +kernel
theorem dX10_failPair_172 : decode cX10_failPair 172 = .ok (.iconst 0, 1) := by decide +kernel
theorem dX10_failPair_173 : decode cX10_failPair 173 = .ok (.bastore, 1) := by decide +kernel
theorem dX10_failPair_174 : decode cX10_failPair 174 = .ok (.return_, 1) := by decide +kernel
set_option maxHeartbeats 8000000 in
set_option maxRecDepth 100000 in
theorem u_X10_failPair (l : Launch) (E : EE) (z0 : Nat) (G : Nat → Nat) (hGz : ∀ q, G q ≠ 0 → z0 ≤ q) (h0 : Nat) (rf : Nat → Nat) (hR : MG G h0 rf) (t0 t1 t2 : Int32) (A : AA) (cd pk : Int32) (p0 : Int32) (p1 : Int32) (p2 : Int32) (hI3 : I3 (A 8)) (hI4 : I4 (A 10) (A 20) (A 29) (A 24) (A 11) (A 12) (A 13)) (hI8 : I8 (A 20) (A 30) (A 37) (A 36)) (hy0 : 0 ≤ p0.toInt ∧ p0.toInt ≤ 3) : Met l yX10_failPair [Cond.code yX10_failPair cX10_failPair 6 none] ({ frames := 2, cells := 0, slots := 0, locals := 47 } : Room) (va_Pc [.ref h0, .int p0, .int p1, .int p2] (fun U => MH E h0 rf t0 t1 t2 A cd pk U.heap ∧ KS E z0 U)) (va_Qv (fun (u : (Nat → Int32) × (Nat → Int32) × (Nat → Int32) × (Nat → Int32) × (Nat → Int32) × (Nat → Int32) × (Nat → Int32)) => (I3 (u.1)) ∧ (I4 (u.2.2.1) (u.2.2.2.2.1) (A 29) (A 24) (A 11) (A 12) (A 13)) ∧ (I8 (u.2.2.2.2.1) (u.2.2.2.2.2.1) (A 37) (u.2.2.2.2.2.2)) ∧ (D_X10_failPair A cd pk p0 p1 p2 (uA (uA (uA (uA (uA (uA (uA A 8 (u.1)) 9 (u.2.1)) 10 (u.2.2.1)) 18 (u.2.2.2.1)) 20 (u.2.2.2.2.1)) 30 (u.2.2.2.2.2.1)) 36 (u.2.2.2.2.2.2)) cd pk)) (fun u t => MH E h0 rf t0 t1 t2 (uA (uA (uA (uA (uA (uA (uA A 8 (u.1)) 9 (u.2.1)) 10 (u.2.2.1)) 18 (u.2.2.2.1)) 20 (u.2.2.2.2.1)) 30 (u.2.2.2.2.2.1)) 36 (u.2.2.2.2.2.2)) cd pk t.heap) (fun q : Nat => G q ≠ 0)) 0 0 (fun q : Nat => G q ≠ 0) := by
  refine Met.ofW (cc := cX10_failPair) (maxL := 6) (ret := none) (by decide) rfl ?_
  intro p e s m args below meth c s₁ B hml hv
  obtain ⟨rfl, hM, hK⟩ := hv
  have hx := B.exec
  have hb := B.bytes
  have hr := B.returns
  have hts : ∀ w ∈ TS, w.before ([.ref h0, .int p0, .int p1, .int p2] : List Value).toArray s = true := fun w hw => hK.2.1 w hw _
  have hown : s.vm.findClass RX10 = some m.cls := findClass_of_methodNamed B.named
  have hlocks := B.notSynchronized
  have hS : va_S (fun q : Nat => G q ≠ 0) s.heap s.heap [] := va_S.rf
  have hAz : ∀ q, (fun q : Nat => G q ≠ 0) q → z0 ≤ q := hGz
  have hl := lv_entry ([.ref h0, .int p0, .int p1, .int p2]) (n := 6) (Nat.le_of_ble_eq_true rfl)
  rw [lg_entry_eq]
  generalize (lg_sl ([.ref h0, .int p0, .int p1, .int p2]) ++ List.replicate (6 - (lg_sl ([.ref h0, .int p0, .int p1, .int p2])).length) Slot.unset).toArray = ls at hl ⊢
  have hl : lv_has ls 6 [(0, .ref h0), (1, .int p0), (2, .int p1), (3, .int p2)] := hl
  obtain ⟨n_1, hn_1, en_1⟩ := s_nat (x := p0) (by omega)
  have h8a := (hI8 n_1 (by omega)).1
  have h8b := (hI8 n_1 (by omega)).2.2.1
  refine lv_aload_n hx hb dX10_failPair_0 rfl (lv_at hl 0 rfl) ?_
  refine va_get (D := DG E) (ci := 10) (v := .ref (rf 10)) (C := RX10) (T := TX10) (N := 49) hx hb hts iw_X10 hown hK.1 (va_one hM.1) 0 rfl rfl 10 (by decide) (hts _ fl_X10_28) (fun _ h9 => h9) rfl dX10_failPair_1 ?_
  refine lv_iload_n hx hb dX10_failPair_4 rfl (lv_at hl 1 rfl) ?_
  refine lv_iconst (v := 2) hx hb dX10_failPair_5 (by decide) ?_
  have hi_2 : vp_in p0 4 := vp_in_iff.mpr (by omega)
  have ha_3 : va_at (DG E) vwCl (rf 10, .inl (E.2.2 0, 4, .inl (A 10))) _ := hM.2 10 (by decide) (by decide) (by decide)
  refine rr_iast (D := DG E) hx hb hK.1 0 ha_3 hS (by show G (rf 10) ≠ 0; rw [hR.2 10 (by decide) (by decide) (by decide)]; decide) rfl hi_2 dX10_failPair_6 (fun H locs hn ho hz hS => ?_)
  rw [en_1] at hn
  obtain ⟨g_3, eg_3⟩ : ∃ z : Nat → Int32, z = upd (A 10) n_1 2 := ⟨_, rfl⟩
  have sg_3 : g_3 n_1 = 2 := by rw [eg_3]; exact upd_s
  have ng_3 : ∀ k, k ≠ n_1 → g_3 k = (A 10) k := fun k hk => by rw [eg_3]; exact upd_n hk
  have hn : va_at (DG E) vwCl (rf 10, .inl (E.2.2 0, 4, .inl g_3)) H := by rw [eg_3]; exact hn
  have hM : MH E h0 rf t0 t1 t2 (uA A 10 g_3) cd pk H := hM.w hR 10 (by decide) (by decide) (by decide) hn ho
  refine lv_iconst (v := 0) hx hb dX10_failPair_7 (by decide) ?_
  refine lv_istore (lv' := [(4, .int 0), (0, .ref h0), (1, .int p0), (2, .int p1), (3, .int p2)]) hx hb dX10_failPair_8 hl (by decide) rfl (fun ls hl => ?_)
  have hX_5 : ∃ b : Nat, (b : Int) = (0 : Int32).toInt ∧ FPQ (uA A 10 g_3) cd pk p0 p1 n_1 b (uA (uA (uA A 10 g_3) 8 (A 8)) 9 (A 9)) := ⟨0, by have := i_0; omega, (by show (uA (uA (uA A 10 g_3) 8 (A 8)) 9 (A 9)) = (uA A 10 g_3); exact uu_id)⟩
  refine lp_nat (fun n H locs ls => ∃ (ix_4 : Int32) (u_4 : (Nat → Int32) × (Nat → Int32)), (0 ≤ ix_4.toInt ∧ ix_4.toInt ≤ ((A 20) n_1).toInt ∧ ix_4.toInt ≤ 4) ∧ (4 - ix_4.toInt).toNat = n ∧ MH E h0 rf t0 t1 t2 (uA (uA (uA A 10 g_3) 8 (u_4.1)) 9 (u_4.2)) cd pk H ∧ (I3 (u_4.1)) ∧ (∃ b : Nat, (b : Int) = ix_4.toInt ∧ FPQ (uA A 10 g_3) cd pk p0 p1 n_1 b (uA (uA (uA A 10 g_3) 8 (u_4.1)) 9 (u_4.2))) ∧ va_S (fun q : Nat => G q ≠ 0) s.heap H locs ∧ lv_has ls 6 [(4, .int ix_4), (0, .ref h0), (1, .int p0), (2, .int p1), (3, .int p2)]) (fun n_4 H locs ls ih_4 hI => ?_) ⟨0, ((A 8), (A 9)), (by have := i_0; first | omega | decide), rfl, (by show MH E h0 rf t0 t1 t2 (uA (uA (uA A 10 g_3) 8 (A 8)) 9 (A 9)) cd pk _; exact hM.cg9 rfl rfl rfl rfl rfl rfl rfl rfl rfl rfl rfl rfl rfl rfl rfl rfl rfl rfl rfl rfl rfl rfl rfl rfl rfl rfl rfl rfl rfl rfl rfl rfl rfl rfl rfl rfl rfl rfl rfl rfl rfl rfl rfl rfl), hI3, hX_5, hS, hl⟩
  obtain ⟨ix_4, u_4, hb_4, hn_4, hM, hI3_4, hx_4, hS, hl⟩ := hI
  refine lv_iload hx hb dX10_failPair_10 (lv_at hl 0 rfl) ?_
  refine lv_aload_n hx hb dX10_failPair_12 rfl (lv_at hl 1 rfl) ?_
  refine va_get (D := DG E) (ci := 10) (v := .ref (rf 20)) (C := RX10) (T := TX10) (N := 49) hx hb hts iw_X10 hown hK.1 (va_one hM.1) 0 rfl rfl 20 (by decide) (hts _ fl_X10_59) (fun _ h9 => h9) rfl dX10_failPair_13 ?_
  refine lv_iload_n hx hb dX10_failPair_16 rfl (lv_at hl 2 rfl) ?_
  have ha_6 : va_at (DG E) vwCl (rf 20, .inl (E.2.2 0, 4, .inl (A 20))) _ := hM.2 20 (by decide) (by decide) (by decide)
  refine va_iald (D := DG E) hx hb hK.1 (va_one ha_6) 0 0 rfl rfl hi_2 dX10_failPair_17 ?_
  refine W.eq (g2 := F0 m 18 ls [.int ((A 20) n_1), .int ix_4]) (by rw [en_1]) ?_
  have hk_7 : n_1 < 4 := by omega
  have q_8 : 0 ≤ ((A 20) n_1).toInt := (hI8 n_1 hk_7).1
  have q_9 : ((A 20) n_1).toInt ≤ 4 := (hI8 n_1 hk_7).2.1
  refine lv_icmp_ge (tgt := 75) hx hb dX10_failPair_18 (by decide) (fun c_10 => ?_) (fun c_10 => ?_)
  · simp only [lt_I, le_I, eq_I, i_0, i_1, i_2, i_3, i_4, i_5, i_6, i_7, i_8, i_10, i_12, i_16, i_20, i_23, i_24, i_31, i_32, i_63, i_64, i_m1, i_9, i_11, i_13, i_25, i_60, i_75, i_79, i_80, i_96, i_100] at c_10
    refine lv_iconst (v := 0) hx hb dX10_failPair_75 (by decide) ?_
    refine lv_istore (lv' := [(4, .int 0), (0, .ref h0), (1, .int p0), (2, .int p1), (3, .int p2)]) hx hb dX10_failPair_76 hl (by decide) rfl (fun ls hl => ?_)
    have hX_12 : ∃ b : Nat, (b : Int) = (0 : Int32).toInt ∧ FPV (uA (uA (uA A 10 g_3) 8 (u_4.1)) 9 (u_4.2)) cd pk p0 p2 n_1 b (uA (uA (uA (uA (uA A 10 g_3) 8 (u_4.1)) 9 (u_4.2)) 8 (u_4.1)) 9 (u_4.2)) := ⟨0, by have := i_0; omega, (by show (uA (uA (uA (uA (uA A 10 g_3) 8 (u_4.1)) 9 (u_4.2)) 8 (u_4.1)) 9 (u_4.2)) = (uA (uA (uA A 10 g_3) 8 (u_4.1)) 9 (u_4.2)); exact uu_id)⟩
    refine lp_nat (fun n H locs ls => ∃ (ix_11 : Int32) (u_11 : (Nat → Int32) × (Nat → Int32)), (0 ≤ ix_11.toInt ∧ ix_11.toInt ≤ ((A 30) n_1).toInt ∧ ix_11.toInt ≤ 4) ∧ (4 - ix_11.toInt).toNat = n ∧ MH E h0 rf t0 t1 t2 (uA (uA (uA (uA (uA A 10 g_3) 8 (u_4.1)) 9 (u_4.2)) 8 (u_11.1)) 9 (u_11.2)) cd pk H ∧ (I3 (u_11.1)) ∧ (∃ b : Nat, (b : Int) = ix_11.toInt ∧ FPV (uA (uA (uA A 10 g_3) 8 (u_4.1)) 9 (u_4.2)) cd pk p0 p2 n_1 b (uA (uA (uA (uA (uA A 10 g_3) 8 (u_4.1)) 9 (u_4.2)) 8 (u_11.1)) 9 (u_11.2))) ∧ va_S (fun q : Nat => G q ≠ 0) s.heap H locs ∧ lv_has ls 6 [(4, .int ix_11), (0, .ref h0), (1, .int p0), (2, .int p1), (3, .int p2)]) (fun n_11 H locs ls ih_11 hI => ?_) ⟨0, ((u_4.1), (u_4.2)), (by have := i_0; first | omega | decide), rfl, (by show MH E h0 rf t0 t1 t2 (uA (uA (uA (uA (uA A 10 g_3) 8 (u_4.1)) 9 (u_4.2)) 8 (u_4.1)) 9 (u_4.2)) cd pk _; exact hM.cg9 rfl rfl rfl rfl rfl rfl rfl rfl rfl rfl rfl rfl rfl rfl rfl rfl rfl rfl rfl rfl rfl rfl rfl rfl rfl rfl rfl rfl rfl rfl rfl rfl rfl rfl rfl rfl rfl rfl rfl rfl rfl rfl rfl rfl), hI3_4, hX_12, hS, hl⟩
    obtain ⟨ix_11, u_11, hb_11, hn_11, hM, hI3_11, hx_11, hS, hl⟩ := hI
    refine lv_iload hx hb dX10_failPair_78 (lv_at hl 0 rfl) ?_
    refine lv_aload_n hx hb dX10_failPair_80 rfl (lv_at hl 1 rfl) ?_
    refine va_get (D := DG E) (ci := 10) (v := .ref (rf 30)) (C := RX10) (T := TX10) (N := 49) hx hb hts iw_X10 hown hK.1 (va_one hM.1) 0 rfl rfl 30 (by decide) (hts _ fl_X10_89) (fun _ h9 => h9) rfl dX10_failPair_81 ?_
    refine lv_iload_n hx hb dX10_failPair_84 rfl (lv_at hl 2 rfl) ?_
    have ha_13 : va_at (DG E) vwCl (rf 30, .inl (E.2.2 0, 4, .inl (A 30))) _ := hM.2 30 (by decide) (by decide) (by decide)
    refine va_iald (D := DG E) hx hb hK.1 (va_one ha_13) 0 0 rfl rfl hi_2 dX10_failPair_85 ?_
    refine W.eq (g2 := F0 m 86 ls [.int ((A 30) n_1), .int ix_11]) (by rw [en_1]) ?_
    have q_14 : 0 ≤ ((A 30) n_1).toInt := (hI8 n_1 hk_7).2.2.1
    have q_15 : ((A 30) n_1).toInt ≤ 4 := (hI8 n_1 hk_7).2.2.2.1
    refine lv_icmp_ge (tgt := 146) hx hb dX10_failPair_86 (by decide) (fun c_16 => ?_) (fun c_16 => ?_)
    · simp only [lt_I, le_I, eq_I, i_0, i_1, i_2, i_3, i_4, i_5, i_6, i_7, i_8, i_10, i_12, i_16, i_20, i_23, i_24, i_31, i_32, i_63, i_64, i_m1, i_9, i_11, i_13, i_25, i_60, i_75, i_79, i_80, i_96, i_100] at c_16
      refine lv_aload_n hx hb dX10_failPair_146 rfl (lv_at hl 1 rfl) ?_
      refine va_get (D := DG E) (ci := 10) (v := .ref (rf 20)) (C := RX10) (T := TX10) (N := 49) hx hb hts iw_X10 hown hK.1 (va_one hM.1) 0 rfl rfl 20 (by decide) (hts _ fl_X10_59) (fun _ h9 => h9) rfl dX10_failPair_147 ?_
      refine lv_iload_n hx hb dX10_failPair_150 rfl (lv_at hl 2 rfl) ?_
      refine lv_iconst (v := 0) hx hb dX10_failPair_151 (by decide) ?_
      have ha_17 : va_at (DG E) vwCl (rf 20, .inl (E.2.2 0, 4, .inl (A 20))) _ := hM.2 20 (by decide) (by decide) (by decide)
      refine rr_iast (D := DG E) hx hb hK.1 0 ha_17 hS (by show G (rf 20) ≠ 0; rw [hR.2 20 (by decide) (by decide) (by decide)]; decide) rfl hi_2 dX10_failPair_152 (fun H locs hn ho hz hS => ?_)
      rw [en_1] at hn
      obtain ⟨g_17, eg_17⟩ : ∃ z : Nat → Int32, z = upd (A 20) n_1 0 := ⟨_, rfl⟩
      have sg_17 : g_17 n_1 = 0 := by rw [eg_17]; exact upd_s
      have ng_17 : ∀ k, k ≠ n_1 → g_17 k = (A 20) k := fun k hk => by rw [eg_17]; exact upd_n hk
      have hn : va_at (DG E) vwCl (rf 20, .inl (E.2.2 0, 4, .inl g_17)) H := by rw [eg_17]; exact hn
      have hM : MH E h0 rf t0 t1 t2 (uA (uA (uA (uA (uA (uA A 10 g_3) 8 (u_4.1)) 9 (u_4.2)) 8 (u_11.1)) 9 (u_11.2)) 20 g_17) cd pk H := hM.w hR 20 (by decide) (by decide) (by decide) hn ho
      refine lv_aload_n hx hb dX10_failPair_153 rfl (lv_at hl 1 rfl) ?_
      refine va_get (D := DG E) (ci := 10) (v := .ref (rf 30)) (C := RX10) (T := TX10) (N := 49) hx hb hts iw_X10 hown hK.1 (va_one hM.1) 0 rfl rfl 30 (by decide) (hts _ fl_X10_89) (fun _ h9 => h9) rfl dX10_failPair_154 ?_
      refine lv_iload_n hx hb dX10_failPair_157 rfl (lv_at hl 2 rfl) ?_
      refine lv_iconst (v := 0) hx hb dX10_failPair_158 (by decide) ?_
      have ha_18 : va_at (DG E) vwCl (rf 30, .inl (E.2.2 0, 4, .inl (A 30))) _ := hM.2 30 (by decide) (by decide) (by decide)
      refine rr_iast (D := DG E) hx hb hK.1 0 ha_18 hS (by show G (rf 30) ≠ 0; rw [hR.2 30 (by decide) (by decide) (by decide)]; decide) rfl hi_2 dX10_failPair_159 (fun H locs hn ho hz hS => ?_)
      rw [en_1] at hn
      obtain ⟨g_18, eg_18⟩ : ∃ z : Nat → Int32, z = upd (A 30) n_1 0 := ⟨_, rfl⟩
      have sg_18 : g_18 n_1 = 0 := by rw [eg_18]; exact upd_s
      have ng_18 : ∀ k, k ≠ n_1 → g_18 k = (A 30) k := fun k hk => by rw [eg_18]; exact upd_n hk
      have hn : va_at (DG E) vwCl (rf 30, .inl (E.2.2 0, 4, .inl g_18)) H := by rw [eg_18]; exact hn
      have hM : MH E h0 rf t0 t1 t2 (uA (uA (uA (uA (uA (uA (uA A 10 g_3) 8 (u_4.1)) 9 (u_4.2)) 8 (u_11.1)) 9 (u_11.2)) 20 g_17) 30 g_18) cd pk H := hM.w hR 30 (by decide) (by decide) (by decide) hn ho
      refine lv_aload_n hx hb dX10_failPair_160 rfl (lv_at hl 1 rfl) ?_
      refine va_get (D := DG E) (ci := 10) (v := .ref (rf 36)) (C := RX10) (T := TX10) (N := 49) hx hb hts iw_X10 hown hK.1 (va_one hM.1) 0 rfl rfl 36 (by decide) (hts _ fl_X10_107) (fun _ h9 => h9) rfl dX10_failPair_161 ?_
      refine lv_iload_n hx hb dX10_failPair_164 rfl (lv_at hl 2 rfl) ?_
      refine lv_iconst (v := 0) hx hb dX10_failPair_165 (by decide) ?_
      have ha_19 : va_at (DG E) vwCl (rf 36, .inl (E.2.2 1, 4, .inl (A 36))) _ := hM.2 36 (by decide) (by decide) (by decide)
      refine rr_zast (D := DG E) hx hb hK.1 1 ha_19 hS (by show G (rf 36) ≠ 0; rw [hR.2 36 (by decide) (by decide) (by decide)]; decide) rfl hi_2 dX10_failPair_166 (fun H locs hn ho hz hS => ?_)
      rw [en_1] at hn
      obtain ⟨g_19, eg_19⟩ : ∃ z : Nat → Int32, z = upd (A 36) n_1 0 := ⟨_, rfl⟩
      have sg_19 : g_19 n_1 = 0 := by rw [eg_19]; exact upd_s
      have ng_19 : ∀ k, k ≠ n_1 → g_19 k = (A 36) k := fun k hk => by rw [eg_19]; exact upd_n hk
      have hn : va_at (DG E) vwCl (rf 36, .inl (E.2.2 1, 4, .inl g_19)) H := by rw [eg_19]; exact hn
      have hM : MH E h0 rf t0 t1 t2 (uA (uA (uA (uA (uA (uA (uA (uA A 10 g_3) 8 (u_4.1)) 9 (u_4.2)) 8 (u_11.1)) 9 (u_11.2)) 20 g_17) 30 g_18) 36 g_19) cd pk H := hM.w hR 36 (by decide) (by decide) (by decide) hn ho
      refine lv_aload_n hx hb dX10_failPair_167 rfl (lv_at hl 1 rfl) ?_
      refine va_get (D := DG E) (ci := 10) (v := .ref (rf 18)) (C := RX10) (T := TX10) (N := 49) hx hb hts iw_X10 hown hK.1 (va_one hM.1) 0 rfl rfl 18 (by decide) (hts _ fl_X10_52) (fun _ h9 => h9) rfl dX10_failPair_168 ?_
      refine lv_iload_n hx hb dX10_failPair_171 rfl (lv_at hl 2 rfl) ?_
      refine lv_iconst (v := 0) hx hb dX10_failPair_172 (by decide) ?_
      have ha_20 : va_at (DG E) vwCl (rf 18, .inl (E.2.2 1, 4, .inl (A 18))) _ := hM.2 18 (by decide) (by decide) (by decide)
      refine rr_zast (D := DG E) hx hb hK.1 1 ha_20 hS (by show G (rf 18) ≠ 0; rw [hR.2 18 (by decide) (by decide) (by decide)]; decide) rfl hi_2 dX10_failPair_173 (fun H locs hn ho hz hS => ?_)
      rw [en_1] at hn
      obtain ⟨g_20, eg_20⟩ : ∃ z : Nat → Int32, z = upd (A 18) n_1 0 := ⟨_, rfl⟩
      have sg_20 : g_20 n_1 = 0 := by rw [eg_20]; exact upd_s
      have ng_20 : ∀ k, k ≠ n_1 → g_20 k = (A 18) k := fun k hk => by rw [eg_20]; exact upd_n hk
      have hn : va_at (DG E) vwCl (rf 18, .inl (E.2.2 1, 4, .inl g_20)) H := by rw [eg_20]; exact hn
      have hM : MH E h0 rf t0 t1 t2 (uA (uA (uA (uA (uA (uA (uA (uA (uA A 10 g_3) 8 (u_4.1)) 9 (u_4.2)) 8 (u_11.1)) 9 (u_11.2)) 20 g_17) 30 g_18) 36 g_19) 18 g_20) cd pk H := hM.w hR 18 (by decide) (by decide) (by decide) hn ho
      have hI4_21 : I4 g_3 g_17 (A 29) (A 24) (A 11) (A 12) (A 13) := by
        intro k hk
        by_cases e : k = n_1
        · rw [e]
          refine ⟨fun hs => absurd hs (by rw [sg_3]; decide), Or.inr (by rw [sg_17]; decide)⟩
        · exact (hI4 k hk).cg (ng_3 k e) (ng_17 k e) (fun _ _ => rfl) (fun _ _ => rfl) rfl rfl rfl
      have hI8_22 : I8 g_17 g_18 (A 37) g_19 := by
        intro n9 hn9
        have h9 : 0 ≤ ((A 20) n9).toInt ∧ ((A 20) n9).toInt ≤ 4 ∧ 0 ≤ ((A 30) n9).toInt ∧ ((A 30) n9).toInt ≤ 4 ∧ 0 ≤ ((A 37) n9).toInt ∧ ((A 37) n9).toInt ≤ 2 ∧ (((A 36) n9).toInt = 0 ∨ 1 ≤ ((A 30) n9).toInt) := hI8 n9 hn9
        show 0 ≤ (g_17 n9).toInt ∧ (g_17 n9).toInt ≤ 4 ∧ 0 ≤ (g_18 n9).toInt ∧ (g_18 n9).toInt ≤ 4 ∧ 0 ≤ ((A 37) n9).toInt ∧ ((A 37) n9).toInt ≤ 2 ∧ ((g_19 n9).toInt = 0 ∨ 1 ≤ (g_18 n9).toInt)
        by_cases ezn_1 : n9 = n_1
        · rw [ezn_1] at h9 ⊢
          rw [sg_17]
          rw [sg_18]
          rw [sg_19]
          have := i_0
          exact ⟨by first | exact h9.1 | omega, by first | exact h9.2.1 | omega, by first | exact h9.2.2.1 | omega, by first | exact h9.2.2.2.1 | omega, by first | exact h9.2.2.2.2.1 | omega, by first | exact h9.2.2.2.2.2.1 | omega, by first | exact h9.2.2.2.2.2.2 | omega⟩
        · rw [ng_17 n9 ezn_1]
          rw [ng_18 n9 ezn_1]
          rw [ng_19 n9 ezn_1]
          exact h9
      exact W.vret hx hb hr (fun t ht hW => ⟨⟨((u_11.1), (u_11.2), g_3, g_20, g_17, g_18, g_19), rfl, ⟨hI3_11, hI4_21, hI8_22, ⟨n_1, hn_1, g_3, eg_3, ix_4, u_4, hb_4, hI3_4, hx_4, c_10, ix_11, u_11, hb_11, hI3_11, hx_11, c_16, g_17, eg_17, g_18, eg_18, g_19, eg_19, g_20, eg_20, rfl, rfl, rfl⟩⟩, (by show MH E h0 rf t0 t1 t2 (uA (uA (uA (uA (uA (uA (uA A 8 (u_11.1)) 9 (u_11.2)) 10 g_3) 18 g_20) 20 g_17) 30 g_18) 36 g_19) cd pk t.heap; rw [ht]; exact hM.cg9 rfl rfl rfl rfl rfl rfl rfl rfl rfl rfl rfl rfl rfl rfl rfl rfl rfl rfl rfl rfl rfl rfl rfl rfl rfl rfl rfl rfl rfl rfl rfl rfl rfl rfl rfl rfl rfl rfl rfl rfl rfl rfl rfl rfl)⟩, hS.F ht⟩) hS.2.2 dX10_failPair_174
    · simp only [lt_I, le_I, eq_I, i_0, i_1, i_2, i_3, i_4, i_5, i_6, i_7, i_8, i_10, i_12, i_16, i_20, i_23, i_24, i_31, i_32, i_63, i_64, i_m1, i_9, i_11, i_13, i_25, i_60, i_75, i_79, i_80, i_96, i_100] at c_16
      refine lv_iconst (v := 4) hx hb dX10_failPair_89 (by decide) ?_
      refine lv_iload_n hx hb dX10_failPair_90 rfl (lv_at hl 2 rfl) ?_
      refine lv_imul hx hb dX10_failPair_91 ?_
      refine lv_topi (fun x_23 ex_23 => ?_)
      have fx_23 : x_23.toInt = 4 * p0.toInt := by rw [ex_23]; exact s_mulK i_4 (by omega) (by omega)
      refine lv_iload hx hb dX10_failPair_92 (lv_at hl 0 rfl) ?_
      refine lv_iadd hx hb dX10_failPair_94 ?_
      refine lv_topi (fun x_24 ex_24 => ?_)
      have fx_24 : x_24.toInt = x_23.toInt + ix_11.toInt := by have h9 := s_add (x := x_23) (y := ix_11) (by omega) (by omega); rw [ex_24]; exact h9
      refine lv_istore (lv' := [(5, .int x_24), (4, .int ix_11), (0, .ref h0), (1, .int p0), (2, .int p1), (3, .int p2)]) hx hb dX10_failPair_95 hl (by decide) rfl (fun ls hl => ?_)
      refine lv_aload_n hx hb dX10_failPair_97 rfl (lv_at hl 2 rfl) ?_
      refine lv_iload_n hx hb dX10_failPair_98 rfl (lv_at hl 3 rfl) ?_
      refine lv_iconst (v := 4) hx hb dX10_failPair_99 (by decide) ?_
      refine lv_aload_n hx hb dX10_failPair_100 rfl (lv_at hl 2 rfl) ?_
      refine va_get (D := DG E) (ci := 10) (v := .ref (rf 34)) (C := RX10) (T := TX10) (N := 49) hx hb hts iw_X10 hown hK.1 (va_one hM.1) 0 rfl rfl 34 (by decide) (hts _ fl_X10_101) (fun _ h9 => h9) rfl dX10_failPair_101 ?_
      refine lv_iload hx hb dX10_failPair_104 (lv_at hl 0 rfl) ?_
      have hi_25 : vp_in x_24 16 := vp_in_iff.mpr (by omega)
      have ha_26 : va_at (DG E) vwCl (rf 34, .inl (E.2.2 0, 16, .inl (A 34))) _ := hM.2 34 (by decide) (by decide) (by decide)
      obtain ⟨n_27, hn_27, en_27⟩ := s_nat (x := x_24) (by omega)
      refine va_iald (D := DG E) hx hb hK.1 (va_one ha_26) 0 0 rfl rfl hi_25 dX10_failPair_106 ?_
      refine W.eq (g2 := F0 m 107 ls [.int ((A 34) n_27), .int 4, .int p0, .ref h0]) (by rw [en_27]) ?_
      refine W.jv (P := fun v_28 : Int32 => v_28 = if ix_11.toInt = 0 ∧ ((A 36) n_1).toInt ≠ 0 ∧ 0 < p2.toInt then p2 else 5) (f := fun v_28 => F0 m 130 ls ([.int v_28, .int ((A 34) n_27), .int 4, .int p0, .ref h0])) (fun v_28 hv_28 => ?_) (fun key_28 => ?_)
      · have hv_28 : v_28 = if ix_11.toInt = 0 ∧ ((A 36) n_1).toInt ≠ 0 ∧ 0 < p2.toInt then p2 else 5 := hv_28
        refine lv_aload_n hx hb dX10_failPair_130 rfl (lv_at hl 2 rfl) ?_
        refine va_get (D := DG E) (ci := 10) (v := .ref (rf 35)) (C := RX10) (T := TX10) (N := 49) hx hb hts iw_X10 hown hK.1 (va_one hM.1) 0 rfl rfl 35 (by decide) (hts _ fl_X10_104) (fun _ h9 => h9) rfl dX10_failPair_131 ?_
        refine lv_iload hx hb dX10_failPair_134 (lv_at hl 0 rfl) ?_
        have ha_29 : va_at (DG E) vwCl (rf 35, .inl (E.2.2 0, 16, .inl (A 35))) _ := hM.2 35 (by decide) (by decide) (by decide)
        refine va_iald (D := DG E) hx hb hK.1 (va_one ha_29) 0 0 rfl rfl hi_25 dX10_failPair_136 ?_
        refine W.eq (g2 := F0 m 137 ls [.int ((A 35) n_27), .int v_28, .int ((A 34) n_27), .int 4, .int p0, .ref h0]) (by rw [en_27]) ?_
        refine va_callv (rnV (fun H => MH E h0 rf t0 t1 t2 (uA (uA (uA (uA (uA A 10 g_3) 8 (u_4.1)) 9 (u_4.2)) 8 (u_11.1)) 9 (u_11.2)) cd pk H) (As := [.int p0, .int 4, .int ((A 34) n_27), .int v_28, .int ((A 35) n_27)]) (rest := []) ⟨hx, hb, hml, hown, hts⟩ (u_X10_complete l E z0 G hGz h0 rf hR t0 t1 t2 (uA (uA (uA (uA (uA A 10 g_3) 8 (u_4.1)) 9 (u_4.2)) 8 (u_11.1)) 9 (u_11.2)) cd pk p0 4 ((A 34) n_27) v_28 ((A 35) n_27) hI3_11 (show 0 ≤ p0.toInt ∧ p0.toInt ≤ 3 from by have := i_4; first | decide | omega)) (cwV 5 hts (gdV ml_X10_207 im_X10_complete se_X10_X10_complete in_X10 co_X10_complete rfl) rfl rfl rfl (by decide +kernel) ⟨Nat.le_of_ble_eq_true rfl, Nat.le_of_ble_eq_true rfl⟩) hM (fun U hU hW => hK.go hW hS hAz hU) (va_recv hK.1 (va_one hM.1) (ci := 10) (q0 := 0) rfl rfl) rfl rfl hl.1 rfl (lv_room (Nat.le_of_ble_eq_true rfl)) dX10_failPair_137 ⟨Nat.le_of_ble_eq_true rfl, Nat.le_of_ble_eq_true rfl⟩) hS (fun q _ h => h) (fun q h => h) (fun ur_30 t H locs ht hvm hwr_30 hB hz hk hS => ?_)
        have hM : MH E h0 rf t0 t1 t2 (uA (uA (uA (uA (uA (uA (uA A 10 g_3) 8 (u_4.1)) 9 (u_4.2)) 8 (u_11.1)) 9 (u_11.2)) 8 (ur_30.1)) 9 (ur_30.2)) cd pk H := by rw [ht] at hB; exact hB
        have hDr_30 : D_X10_complete (uA (uA (uA (uA (uA A 10 g_3) 8 (u_4.1)) 9 (u_4.2)) 8 (u_11.1)) 9 (u_11.2)) cd pk p0 (4 : Int32) ((A 34) n_27) v_28 ((A 35) n_27) (uA (uA (uA (uA (uA (uA (uA A 10 g_3) 8 (u_4.1)) 9 (u_4.2)) 8 (u_11.1)) 9 (u_11.2)) 8 (ur_30.1)) 9 (ur_30.2)) cd pk := hwr_30.2
        have hpr_30_0 : I3 (ur_30.1) := hwr_30.1
        have := i_4
        obtain ⟨x_31, ex_31⟩ : ∃ z : Int32, ix_11 + Int32.ofInt 1 = z := ⟨_, rfl⟩
        have fx_31 : x_31.toInt = ix_11.toInt + 1 := by have h9 := s_add (x := ix_11) (y := 1) (by rw [i_1]; omega) (by rw [i_1]; omega); rw [i_1] at h9; rw [← ex_31]; exact h9
        refine lv_iinc (v := x_31) (lv' := [(4, .int x_31), (5, .int x_24), (0, .ref h0), (1, .int p0), (2, .int p1), (3, .int p2)]) hx hb dX10_failPair_140 hl (k := 1) rfl ex_31 (by decide) rfl (fun ls hl => ?_)
        refine lv_goto (tgt := 78) hx hb dX10_failPair_143 (by decide) ?_
        obtain ⟨b9, hb9, f9⟩ := hx_11
        have e9 : n_27 = 4 * n_1 + b9 := by omega
        subst e9
        have v9 : v_28 = if ix_11.toInt = 0 ∧ ((uA (uA (uA A 10 g_3) 8 (u_4.1)) 9 (u_4.2)) 36 n_1).toInt ≠ 0 ∧ 0 < p2.toInt then p2 else 5 := hv_28
        rw [uu_89 (uA (uA (uA A 10 g_3) 8 (u_4.1)) 9 (u_4.2)) (u_11.1) (u_11.2) (ur_30.1) (ur_30.2)] at hDr_30
        have hX_32 : ∃ b : Nat, (b : Int) = x_31.toInt ∧ FPV (uA (uA (uA A 10 g_3) 8 (u_4.1)) 9 (u_4.2)) cd pk p0 p2 n_1 b (uA (uA (uA (uA (uA A 10 g_3) 8 (u_4.1)) 9 (u_4.2)) 8 (ur_30.1)) 9 (ur_30.2)) := ⟨b9 + 1, by omega, _, f9, _, (by rw [v9]; congr 1; apply propext; constructor <;> intro h9 <;> omega), hDr_30⟩
        exact ih_11 _ (by omega) _ _ _ ⟨x_31, ((ur_30.1), (ur_30.2)), (by first | omega | decide), rfl, (by show MH E h0 rf t0 t1 t2 (uA (uA (uA (uA (uA A 10 g_3) 8 (u_4.1)) 9 (u_4.2)) 8 (ur_30.1)) 9 (ur_30.2)) cd pk _; exact hM.cg9 rfl rfl rfl rfl rfl rfl rfl rfl rfl rfl rfl rfl rfl rfl rfl rfl rfl rfl rfl rfl rfl rfl rfl rfl rfl rfl rfl rfl rfl rfl rfl rfl rfl rfl rfl rfl rfl rfl rfl rfl rfl rfl rfl rfl), hpr_30_0, hX_32, hS, lv_sub hl [0, 2, 3, 4, 5] rfl⟩
      · refine lv_iload hx hb dX10_failPair_107 (lv_at hl 1 rfl) ?_
        refine lv_if_ne (tgt := 129) hx hb dX10_failPair_109 (by decide) (fun c_33 => ?_) (fun c_33 => ?_)
        · simp only [lt_I, le_I, eq_I, i_0, i_1, i_2, i_3, i_4, i_5, i_6, i_7, i_8, i_10, i_12, i_16, i_20, i_23, i_24, i_31, i_32, i_63, i_64, i_m1, i_9, i_11, i_13, i_25, i_60, i_75, i_79, i_80, i_96, i_100] at c_33
          refine lv_iconst (v := 5) hx hb dX10_failPair_129 (by decide) ?_
          exact key_28 5 (by first | rw [if_pos (by omega)] | rw [if_neg (by omega)])
        · simp only [lt_I, le_I, eq_I, i_0, i_1, i_2, i_3, i_4, i_5, i_6, i_7, i_8, i_10, i_12, i_16, i_20, i_23, i_24, i_31, i_32, i_63, i_64, i_m1, i_9, i_11, i_13, i_25, i_60, i_75, i_79, i_80, i_96, i_100] at c_33
          refine lv_aload_n hx hb dX10_failPair_112 rfl (lv_at hl 2 rfl) ?_
          refine va_get (D := DG E) (ci := 10) (v := .ref (rf 36)) (C := RX10) (T := TX10) (N := 49) hx hb hts iw_X10 hown hK.1 (va_one hM.1) 0 rfl rfl 36 (by decide) (hts _ fl_X10_107) (fun _ h9 => h9) rfl dX10_failPair_113 ?_
          refine lv_iload_n hx hb dX10_failPair_116 rfl (lv_at hl 3 rfl) ?_
          have ha_34 : va_at (DG E) vwCl (rf 36, .inl (E.2.2 1, 4, .inl (A 36))) _ := hM.2 36 (by decide) (by decide) (by decide)
          refine va_zald (D := DG E) hx hb hK.1 (va_one ha_34) 0 1 rfl rfl hi_2 dX10_failPair_117 ?_
          refine W.eq (g2 := F0 m 118 ls [.int ((A 36) n_1), .int ((A 34) n_27), .int 4, .int p0, .ref h0]) (by rw [en_1]) ?_
          refine lv_if_eq (tgt := 129) hx hb dX10_failPair_118 (by decide) (fun c_35 => ?_) (fun c_35 => ?_)
          · simp only [lt_I, le_I, eq_I, i_0, i_1, i_2, i_3, i_4, i_5, i_6, i_7, i_8, i_10, i_12, i_16, i_20, i_23, i_24, i_31, i_32, i_63, i_64, i_m1, i_9, i_11, i_13, i_25, i_60, i_75, i_79, i_80, i_96, i_100] at c_35
            refine lv_iconst (v := 5) hx hb dX10_failPair_129 (by decide) ?_
            exact key_28 5 (by first | rw [if_pos (by omega)] | rw [if_neg (by omega)])
          · simp only [lt_I, le_I, eq_I, i_0, i_1, i_2, i_3, i_4, i_5, i_6, i_7, i_8, i_10, i_12, i_16, i_20, i_23, i_24, i_31, i_32, i_63, i_64, i_m1, i_9, i_11, i_13, i_25, i_60, i_75, i_79, i_80, i_96, i_100] at c_35
            refine lv_iload_n hx hb dX10_failPair_121 rfl (lv_at hl 5 rfl) ?_
            refine lv_if_le (tgt := 129) hx hb dX10_failPair_122 (by decide) (fun c_36 => ?_) (fun c_36 => ?_)
            · simp only [lt_I, le_I, eq_I, i_0, i_1, i_2, i_3, i_4, i_5, i_6, i_7, i_8, i_10, i_12, i_16, i_20, i_23, i_24, i_31, i_32, i_63, i_64, i_m1, i_9, i_11, i_13, i_25, i_60, i_75, i_79, i_80, i_96, i_100] at c_36
              refine lv_iconst (v := 5) hx hb dX10_failPair_129 (by decide) ?_
              exact key_28 5 (by first | rw [if_pos (by omega)] | rw [if_neg (by omega)])
            · simp only [lt_I, le_I, eq_I, i_0, i_1, i_2, i_3, i_4, i_5, i_6, i_7, i_8, i_10, i_12, i_16, i_20, i_23, i_24, i_31, i_32, i_63, i_64, i_m1, i_9, i_11, i_13, i_25, i_60, i_75, i_79, i_80, i_96, i_100] at c_36
              refine lv_iload_n hx hb dX10_failPair_125 rfl (lv_at hl 5 rfl) ?_
              refine lv_goto (tgt := 130) hx hb dX10_failPair_126 (by decide) ?_
              exact key_28 p2 (by first | rw [if_pos (by omega)] | rw [if_neg (by omega)])
  · simp only [lt_I, le_I, eq_I, i_0, i_1, i_2, i_3, i_4, i_5, i_6, i_7, i_8, i_10, i_12, i_16, i_20, i_23, i_24, i_31, i_32, i_63, i_64, i_m1, i_9, i_11, i_13, i_25, i_60, i_75, i_79, i_80, i_96, i_100] at c_10
    refine lv_iconst (v := 4) hx hb dX10_failPair_21 (by decide) ?_
    refine lv_iload_n hx hb dX10_failPair_22 rfl (lv_at hl 2 rfl) ?_
    refine lv_imul hx hb dX10_failPair_23 ?_
    refine lv_topi (fun x_37 ex_37 => ?_)
    have fx_37 : x_37.toInt = 4 * p0.toInt := by rw [ex_37]; exact s_mulK i_4 (by omega) (by omega)
    refine lv_iload hx hb dX10_failPair_24 (lv_at hl 0 rfl) ?_
    refine lv_iadd hx hb dX10_failPair_26 ?_
    refine lv_topi (fun x_38 ex_38 => ?_)
    have fx_38 : x_38.toInt = x_37.toInt + ix_4.toInt := by have h9 := s_add (x := x_37) (y := ix_4) (by omega) (by omega); rw [ex_38]; exact h9
    refine lv_istore (lv' := [(5, .int x_38), (4, .int ix_4), (0, .ref h0), (1, .int p0), (2, .int p1), (3, .int p2)]) hx hb dX10_failPair_27 hl (by decide) rfl (fun ls hl => ?_)
    refine lv_aload_n hx hb dX10_failPair_29 rfl (lv_at hl 2 rfl) ?_
    refine lv_iload_n hx hb dX10_failPair_30 rfl (lv_at hl 3 rfl) ?_
    refine lv_aload_n hx hb dX10_failPair_31 rfl (lv_at hl 2 rfl) ?_
    refine va_get (D := DG E) (ci := 10) (v := .ref (rf 22)) (C := RX10) (T := TX10) (N := 49) hx hb hts iw_X10 hown hK.1 (va_one hM.1) 0 rfl rfl 22 (by decide) (hts _ fl_X10_65) (fun _ h9 => h9) rfl dX10_failPair_32 ?_
    refine lv_iload hx hb dX10_failPair_35 (lv_at hl 0 rfl) ?_
    have hi_39 : vp_in x_38 16 := vp_in_iff.mpr (by omega)
    have ha_40 : va_at (DG E) vwCl (rf 22, .inl (E.2.2 0, 16, .inl (A 22))) _ := hM.2 22 (by decide) (by decide) (by decide)
    obtain ⟨n_41, hn_41, en_41⟩ := s_nat (x := x_38) (by omega)
    refine va_iald (D := DG E) hx hb hK.1 (va_one ha_40) 0 0 rfl rfl hi_39 dX10_failPair_37 ?_
    refine W.eq (g2 := F0 m 38 ls [.int ((A 22) n_41), .int p0, .ref h0]) (by rw [en_41]) ?_
    refine lv_aload_n hx hb dX10_failPair_38 rfl (lv_at hl 2 rfl) ?_
    refine va_get (D := DG E) (ci := 10) (v := .ref (rf 28)) (C := RX10) (T := TX10) (N := 49) hx hb hts iw_X10 hown hK.1 (va_one hM.1) 0 rfl rfl 28 (by decide) (hts _ fl_X10_83) (fun _ h9 => h9) rfl dX10_failPair_39 ?_
    refine lv_iload hx hb dX10_failPair_42 (lv_at hl 0 rfl) ?_
    have ha_42 : va_at (DG E) vwCl (rf 28, .inl (E.2.2 0, 16, .inl (A 28))) _ := hM.2 28 (by decide) (by decide) (by decide)
    refine va_iald (D := DG E) hx hb hK.1 (va_one ha_42) 0 0 rfl rfl hi_39 dX10_failPair_44 ?_
    refine W.eq (g2 := F0 m 45 ls [.int ((A 28) n_41), .int ((A 22) n_41), .int p0, .ref h0]) (by rw [en_41]) ?_
    refine W.jv (P := fun v_43 : Int32 => v_43 = if ix_4.toInt = 0 ∧ 0 < p1.toInt then p1 else 5) (f := fun v_43 => F0 m 59 ls ([.int v_43, .int ((A 28) n_41), .int ((A 22) n_41), .int p0, .ref h0])) (fun v_43 hv_43 => ?_) (fun key_43 => ?_)
    · have hv_43 : v_43 = if ix_4.toInt = 0 ∧ 0 < p1.toInt then p1 else 5 := hv_43
      refine lv_aload_n hx hb dX10_failPair_59 rfl (lv_at hl 2 rfl) ?_
      refine va_get (D := DG E) (ci := 10) (v := .ref (rf 24)) (C := RX10) (T := TX10) (N := 49) hx hb hts iw_X10 hown hK.1 (va_one hM.1) 0 rfl rfl 24 (by decide) (hts _ fl_X10_71) (fun _ h9 => h9) rfl dX10_failPair_60 ?_
      refine lv_iload hx hb dX10_failPair_63 (lv_at hl 0 rfl) ?_
      have ha_44 : va_at (DG E) vwCl (rf 24, .inl (E.2.2 0, 16, .inl (A 24))) _ := hM.2 24 (by decide) (by decide) (by decide)
      refine va_iald (D := DG E) hx hb hK.1 (va_one ha_44) 0 0 rfl rfl hi_39 dX10_failPair_65 ?_
      refine W.eq (g2 := F0 m 66 ls [.int ((A 24) n_41), .int v_43, .int ((A 28) n_41), .int ((A 22) n_41), .int p0, .ref h0]) (by rw [en_41]) ?_
      refine va_callv (rnV (fun H => MH E h0 rf t0 t1 t2 (uA (uA (uA A 10 g_3) 8 (u_4.1)) 9 (u_4.2)) cd pk H) (As := [.int p0, .int ((A 22) n_41), .int ((A 28) n_41), .int v_43, .int ((A 24) n_41)]) (rest := []) ⟨hx, hb, hml, hown, hts⟩ (u_X10_complete l E z0 G hGz h0 rf hR t0 t1 t2 (uA (uA (uA A 10 g_3) 8 (u_4.1)) 9 (u_4.2)) cd pk p0 ((A 22) n_41) ((A 28) n_41) v_43 ((A 24) n_41) hI3_4 (show 0 ≤ p0.toInt ∧ p0.toInt ≤ 3 from by first | decide | omega)) (cwV 5 hts (gdV ml_X10_207 im_X10_complete se_X10_X10_complete in_X10 co_X10_complete rfl) rfl rfl rfl (by decide +kernel) ⟨Nat.le_of_ble_eq_true rfl, Nat.le_of_ble_eq_true rfl⟩) hM (fun U hU hW => hK.go hW hS hAz hU) (va_recv hK.1 (va_one hM.1) (ci := 10) (q0 := 0) rfl rfl) rfl rfl hl.1 rfl (lv_room (Nat.le_of_ble_eq_true rfl)) dX10_failPair_66 ⟨Nat.le_of_ble_eq_true rfl, Nat.le_of_ble_eq_true rfl⟩) hS (fun q _ h => h) (fun q h => h) (fun ur_45 t H locs ht hvm hwr_45 hB hz hk hS => ?_)
      have hM : MH E h0 rf t0 t1 t2 (uA (uA (uA (uA (uA A 10 g_3) 8 (u_4.1)) 9 (u_4.2)) 8 (ur_45.1)) 9 (ur_45.2)) cd pk H := by rw [ht] at hB; exact hB
      have hDr_45 : D_X10_complete (uA (uA (uA A 10 g_3) 8 (u_4.1)) 9 (u_4.2)) cd pk p0 ((A 22) n_41) ((A 28) n_41) v_43 ((A 24) n_41) (uA (uA (uA (uA (uA A 10 g_3) 8 (u_4.1)) 9 (u_4.2)) 8 (ur_45.1)) 9 (ur_45.2)) cd pk := hwr_45.2
      have hpr_45_0 : I3 (ur_45.1) := hwr_45.1
      obtain ⟨x_46, ex_46⟩ : ∃ z : Int32, ix_4 + Int32.ofInt 1 = z := ⟨_, rfl⟩
      have fx_46 : x_46.toInt = ix_4.toInt + 1 := by have h9 := s_add (x := ix_4) (y := 1) (by rw [i_1]; omega) (by rw [i_1]; omega); rw [i_1] at h9; rw [← ex_46]; exact h9
      refine lv_iinc (v := x_46) (lv' := [(4, .int x_46), (5, .int x_38), (0, .ref h0), (1, .int p0), (2, .int p1), (3, .int p2)]) hx hb dX10_failPair_69 hl (k := 1) rfl ex_46 (by decide) rfl (fun ls hl => ?_)
      refine lv_goto (tgt := 10) hx hb dX10_failPair_72 (by decide) ?_
      obtain ⟨b9, hb9, f9⟩ := hx_4
      have e9 : n_41 = 4 * n_1 + b9 := by omega
      subst e9
      have v9 : v_43 = if ix_4.toInt = 0 ∧ 0 < p1.toInt then p1 else 5 := hv_43
      rw [uu_89 (uA A 10 g_3) (u_4.1) (u_4.2) (ur_45.1) (ur_45.2)] at hDr_45
      have hX_47 : ∃ b : Nat, (b : Int) = x_46.toInt ∧ FPQ (uA A 10 g_3) cd pk p0 p1 n_1 b (uA (uA (uA A 10 g_3) 8 (ur_45.1)) 9 (ur_45.2)) := ⟨b9 + 1, by omega, _, f9, _, (by rw [v9]; congr 1; apply propext; constructor <;> intro h9 <;> omega), hDr_45⟩
      exact ih_4 _ (by omega) _ _ _ ⟨x_46, ((ur_45.1), (ur_45.2)), (by first | omega | decide), rfl, (by show MH E h0 rf t0 t1 t2 (uA (uA (uA A 10 g_3) 8 (ur_45.1)) 9 (ur_45.2)) cd pk _; exact hM.cg9 rfl rfl rfl rfl rfl rfl rfl rfl rfl rfl rfl rfl rfl rfl rfl rfl rfl rfl rfl rfl rfl rfl rfl rfl rfl rfl rfl rfl rfl rfl rfl rfl rfl rfl rfl rfl rfl rfl rfl rfl rfl rfl rfl rfl), hpr_45_0, hX_47, hS, lv_sub hl [0, 2, 3, 4, 5] rfl⟩
    · refine lv_iload hx hb dX10_failPair_45 (lv_at hl 1 rfl) ?_
      refine lv_if_ne (tgt := 58) hx hb dX10_failPair_47 (by decide) (fun c_48 => ?_) (fun c_48 => ?_)
      · simp only [lt_I, le_I, eq_I, i_0, i_1, i_2, i_3, i_4, i_5, i_6, i_7, i_8, i_10, i_12, i_16, i_20, i_23, i_24, i_31, i_32, i_63, i_64, i_m1, i_9, i_11, i_13, i_25, i_60, i_75, i_79, i_80, i_96, i_100] at c_48
        refine lv_iconst (v := 5) hx hb dX10_failPair_58 (by decide) ?_
        exact key_43 5 (by first | rw [if_pos (by omega)] | rw [if_neg (by omega)])
      · simp only [lt_I, le_I, eq_I, i_0, i_1, i_2, i_3, i_4, i_5, i_6, i_7, i_8, i_10, i_12, i_16, i_20, i_23, i_24, i_31, i_32, i_63, i_64, i_m1, i_9, i_11, i_13, i_25, i_60, i_75, i_79, i_80, i_96, i_100] at c_48
        refine lv_iload_n hx hb dX10_failPair_50 rfl (lv_at hl 4 rfl) ?_
        refine lv_if_le (tgt := 58) hx hb dX10_failPair_51 (by decide) (fun c_49 => ?_) (fun c_49 => ?_)
        · simp only [lt_I, le_I, eq_I, i_0, i_1, i_2, i_3, i_4, i_5, i_6, i_7, i_8, i_10, i_12, i_16, i_20, i_23, i_24, i_31, i_32, i_63, i_64, i_m1, i_9, i_11, i_13, i_25, i_60, i_75, i_79, i_80, i_96, i_100] at c_49
          refine lv_iconst (v := 5) hx hb dX10_failPair_58 (by decide) ?_
          exact key_43 5 (by first | rw [if_pos (by omega)] | rw [if_neg (by omega)])
        · simp only [lt_I, le_I, eq_I, i_0, i_1, i_2, i_3, i_4, i_5, i_6, i_7, i_8, i_10, i_12, i_16, i_20, i_23, i_24, i_31, i_32, i_63, i_64, i_m1, i_9, i_11, i_13, i_25, i_60, i_75, i_79, i_80, i_96, i_100] at c_49
          refine lv_iload_n hx hb dX10_failPair_54 rfl (lv_at hl 4 rfl) ?_
          refine lv_goto (tgt := 59) hx hb dX10_failPair_55 (by decide) ?_
          exact key_43 p1 (by first | rw [if_pos (by omega)] | rw [if_neg (by omega)])
theorem dX10_dropRequest_0 : decode cX10_dropRequest 0 = .ok (.aload_n 0, 1) := by decide +kernel
theorem dX10_dropRequest_1 : decode cX10_dropRequest 1 = .ok (.getfield 59, 3) := by decide +kernel
theorem dX10_dropRequest_4 : decode cX10_dropRequest 4 = .ok (.iload_n 1, 1) := by decide +kernel
theorem dX10_dropRequest_5 : decode cX10_dropRequest 5 = .ok (.dup2, 1) := by decide +kernel
theorem dX10_dropRequest_6 : decode cX10_dropRequest 6 = .ok (.iaload, 1) := by decide +kernel
theorem dX10_dropRequest_7 : decode cX10_dropRequest 7 = .ok (.iconst 1, 1) := by decide +kernel
theorem dX10_dropRequest_8 : decode cX10_dropRequest 8 = .ok (.isub, 1) := by decide +kernel
theorem dX10_dropRequest_9 : decode cX10_dropRequest 9 = .ok (.iastore, 1) := by decide +kernel
theorem dX10_dropRequest_10 : decode cX10_dropRequest 10 = .ok (.iconst 4, 1) := by decide +kernel
theorem dX10_dropRequest_11 : decode cX10_dropRequest 11 = .ok (.iload_n 1, 1) := by decide +kernel
theorem dX10_dropRequest_12 : decode cX10_dropRequest 12 = .ok (.imul, 1) := by decide +kernel
theorem dX10_dropRequest_13 : decode cX10_dropRequest 13 = .ok (.istore_n 2, 1) := by decide +kernel
theorem dX10_dropRequest_14 : decode cX10_dropRequest 14 = .ok (.iload_n 2, 1) := by decide +kernel
theorem dX10_dropRequest_15 : decode cX10_dropRequest 15 = .ok (.iconst 4, 1) := by decide +kernel
theorem dX10_dropRequest_16 : decode cX10_dropRequest 16 = .ok (.iload_n 1, 1) := by decide +kernel
theorem dX10_dropRequest_17 : decode cX10_dropRequest 17 = .ok (.imul, 1) := by decide +kernel
theorem dX10_dropRequest_18 : decode cX10_dropRequest 18 = .ok (.aload_n 0, 1) := by decide +kernel
theorem dX10_dropRequest_19 : decode cX10_dropRequest 19 = .ok (.getfield 59, 3) := by decide +kernel
theorem dX10_dropRequest_22 : decode cX10_dropRequest 22 = .ok (.iload_n 1, 1) := by decide +kernel
theorem dX10_dropRequest_23 : decode cX10_dropRequest 23 = .ok (.iaload, 1) := by decide +kernel
theorem dX10_dropRequest_24 : decode cX10_dropRequest 24 = .ok (.iadd, 1) := by decide +kernel
theorem dX10_dropRequest_25 : decode cX10_dropRequest 25 = .ok (.if_icmp .ge 121, 3) := by decide +kernel
theorem dX10_dropRequest_28 : decode cX10_dropRequest 28 = .ok (.aload_n 0, 1) := by decide +kernel
theorem dX10_dropRequest_29 : decode cX10_dropRequest 29 = .ok (.getfield 65, 3) := by decide +kernel
theorem dX10_dropRequest_32 : decode cX10_dropRequest 32 = .ok (.iload_n 2, 1) := by decide +kernel
theorem dX10_dropRequest_33 : decode cX10_dropRequest 33 = .ok (.aload_n 0, 1) := by decide +kernel
theorem dX10_dropRequest_34 : decode cX10_dropRequest 34 = .ok (.getfield 65, 3) := by decide +kernel
theorem dX10_dropRequest_37 : decode cX10_dropRequest 37 = .ok (.iload_n 2, 1) := by decide +kernel
theorem dX10_dropRequest_38 : decode cX10_dropRequest 38 = .ok (.iconst 1, 1) := by decide +kernel
theorem dX10_dropRequest_39 : decode cX10_dropRequest 39 = .ok (.iadd, 1) := by decide +kernel
theorem dX10_dropRequest_40 : decode cX10_dropRequest 40 = .ok (.iaload, 1) := by decide +kernel
theorem dX10_dropRequest_41 : decode cX10_dropRequest 41 = .ok (.iastore, 1) := by decide +kernel
theorem dX10_dropRequest_42 : decode cX10_dropRequest 42 = .ok (.aload_n 0, 1) := by decide +kernel
theorem dX10_dropRequest_43 : decode cX10_dropRequest 43 = .ok (.getfield 68, 3) := by decide +kernel
theorem dX10_dropRequest_46 : decode cX10_dropRequest 46 = .ok (.iload_n 2, 1) := by decide +kernel
theorem dX10_dropRequest_47 : decode cX10_dropRequest 47 = .ok (.aload_n 0, 1) := by decide +kernel
theorem dX10_dropRequest_48 : decode cX10_dropRequest 48 = .ok (.getfield 68, 3) := by decide +kernel
theorem dX10_dropRequest_51 : decode cX10_dropRequest 51 = .ok (.iload_n 2, 1) := by decide +kernel
theorem dX10_dropRequest_52 : decode cX10_dropRequest 52 = .ok (.iconst 1, 1) := by decide +kernel
theorem dX10_dropRequest_53 : decode cX10_dropRequest 53 = .ok (.iadd, 1) := by decide +kernel
theorem dX10_dropRequest_54 : decode cX10_dropRequest 54 = .ok (.iaload, 1) := by decide +kernel
theorem dX10_dropRequest_55 : decode cX10_dropRequest 55 = .ok (.iastore, 1) := by decide +kernel
theorem dX10_dropRequest_56 : decode cX10_dropRequest 56 = .ok (.aload_n 0, 1) := by decide +kernel
theorem dX10_dropRequest_57 : decode cX10_dropRequest 57 = .ok (.getfield 71, 3) := by decide +kernel
theorem dX10_dropRequest_60 : decode cX10_dropRequest 60 = .ok (.iload_n 2, 1) := by decide +kernel
theorem dX10_dropRequest_61 : decode cX10_dropRequest 61 = .ok (.aload_n 0, 1) := by decide +kernel
theorem dX10_dropRequest_62 : decode cX10_dropRequest 62 = .ok (.getfield 71, 3) := by decide +kernel
theorem dX10_dropRequest_65 : decode cX10_dropRequest 65 = .ok (.iload_n 2, 1) := by decide +kernel
theorem dX10_dropRequest_66 : decode cX10_dropRequest 66 = .ok (.iconst 1, 1) := by decide +kernel
theorem dX10_dropRequest_67 : decode cX10_dropRequest 67 = .ok (.iadd, 1) := by decide +kernel
theorem dX10_dropRequest_68 : decode cX10_dropRequest 68 = .ok (.iaload, 1) := by decide +kernel
theorem dX10_dropRequest_69 : decode cX10_dropRequest 69 = .ok (.iastore, 1) := by decide +kernel
theorem dX10_dropRequest_70 : decode cX10_dropRequest 70 = .ok (.aload_n 0, 1) := by decide +kernel
theorem dX10_dropRequest_71 : decode cX10_dropRequest 71 = .ok (.getfield 74, 3) := by decide +kernel
theorem dX10_dropRequest_74 : decode cX10_dropRequest 74 = .ok (.iload_n 2, 1) := by decide +kernel
theorem dX10_dropRequest_75 : decode cX10_dropRequest 75 = .ok (.aload_n 0, 1) := by decide +kernel
theorem dX10_dropRequest_76 : decode cX10_dropRequest 76 = .ok (.getfield 74, 3) := by decide +kernel
theorem dX10_dropRequest_79 : decode cX10_dropRequest 79 = .ok (.iload_n 2, 1) := by decide +kernel
theorem dX10_dropRequest_80 : decode cX10_dropRequest 80 = .ok (.iconst 1, 1) := by decide +kernel
theorem dX10_dropRequest_81 : decode cX10_dropRequest 81 = .ok (.iadd, 1) := by decide +kernel
theorem dX10_dropRequest_82 : decode cX10_dropRequest 82 = .ok (.iaload, 1) := by decide +kernel
theorem dX10_dropRequest_83 : decode cX10_dropRequest 83 = .ok (.iastore, 1) := by decide +kernel
theorem dX10_dropRequest_84 : decode cX10_dropRequest 84 = .ok (.aload_n 0, 1) := by decide +kernel
theorem dX10_dropRequest_85 : decode cX10_dropRequest 85 = .ok (.getfield 77, 3) := by decide +kernel
theorem dX10_dropRequest_88 : decode cX10_dropRequest 88 = .ok (.iload_n 2, 1) := by decide +kernel
theorem dX10_dropRequest_89 : decode cX10_dropRequest 89 = .ok (.aload_n 0, 1) := by decide +kernel
theorem dX10_dropRequest_90 : decode cX10_dropRequest 90 = .ok (.getfield 77, 3) := by decide +kernel
theorem dX10_dropRequest_93 : decode cX10_dropRequest 93 = .ok (.iload_n 2, 1) := by decide +kernel
theorem dX10_dropRequest_94 : decode cX10_dropRequest 94 = .ok (.iconst 1, 1) := by decide +kernel
theorem dX10_dropRequest_95 : decode cX10_dropRequest 95 = .ok (.iadd, 1) := by decide +kernel
theorem dX10_dropRequest_96 : decode cX10_dropRequest 96 = .ok (.iaload, 1) := by decide +kernel
theorem dX10_dropRequest_97 : decode cX10_dropRequest 97 = .ok (.iastore, 1) := by decide +kernel
theorem dX10_dropRequest_98 : decode cX10_dropRequest 98 = .ok (.aload_n 0, 1) := by decide +kernel
theorem dX10_dropRequest_99 : decode cX10_dropRequest 99 = .ok (.getfield 80, 3) := by decide +kernel
theorem dX10_dropRequest_102 : decode cX10_dropRequest 102 = .ok (.iload_n 2, 1) := by decide +kernel
theorem dX10_dropRequest_103 : decode cX10_dropRequest 103 = .ok (.aload_n 0, 1) := by decide +kernel
theorem dX10_dropRequest_104 : decode cX10_dropRequest 104 = .ok (.getfield 80, 3) := by decide +kernel
theorem dX10_dropRequest_107 : decode cX10_dropRequest 107 = .ok (.iload_n 2, 1) := by decide +kernel
theorem dX10_dropRequest_108 : decode cX10_dropRequest 108 = .ok (.iconst 1, 1) := by decide +kernel
theorem dX10_dropRequest_109 : decode cX10_dropRequest 109 = .ok (.iadd, 1) := by decide +kernel
theorem dX10_dropRequest_110 : decode cX10_dropRequest 110 = .ok (.iaload, 1) := by decide +kernel
theorem dX10_dropRequest_111 : decode cX10_dropRequest 111 = .ok (.iastore, 1) := by decide +kernel
theorem dX10_dropRequest_112 : decode cX10_dropRequest 112 = .ok (.aload_n 0, 1) := by decide +kernel
theorem dX10_dropRequest_113 : decode cX10_dropRequest 113 = .ok (.getfield 83, 3) := by decide +kernel
theorem dX10_dropRequest_116 : decode cX10_dropRequest 116 = .ok (.iload_n 2, 1) := by decide +kernel
theorem dX10_dropRequest_117 : decode cX10_dropRequest 117 = .ok (.aload_n 0, 1) := by decide +kernel
theorem dX10_dropRequest_118 : decode cX10_dropRequest 118 = .ok (.getfield 83, 3) := by decide +kernel
theorem dX10_dropRequest_121 : decode cX10_dropRequest 121 = .ok (.iload_n 2, 1) := by decide +kernel
theorem dX10_dropRequest_122 : decode cX10_dropRequest 122 = .ok (.iconst 1, 1) := by decide +kernel
theorem dX10_dropRequest_123 : decode cX10_dropRequest 123 = .ok (.iadd, 1) := by decide +kernel
theorem dX10_dropRequest_124 : decode cX10_dropRequest 124 = .ok (.iaload, 1) := by decide +kernel
theorem dX10_dropRequest_125 : decode cX10_dropRequest 125 = .ok (.iastore, 1) := by decide +kernel
theorem dX10_dropRequest_126 : decode cX10_dropRequest 126 = .ok (.aload_n 0, 1) := by decide +kernel
theorem dX10_dropRequest_127 : decode cX10_dropRequest 127 = .ok (.getfield 86, 3) := by decide +kernel
theorem dX10_dropRequest_130 : decode cX10_dropRequest 130 = .ok (.iload_n 2, 1) := by decide +kernel
theorem dX10_dropRequest_131 : decode cX10_dropRequest 131 = .ok (.aload_n 0, 1) := by decide +kernel
theorem dX10_dropRequest_132 : decode cX10_dropRequest 132 = .ok (.getfield 86, 3) := by decide +kernel
theorem dX10_dropRequest_135 : decode cX10_dropRequest 135 = .ok (.iload_n 2, 1) := by decide +kernel
theorem dX10_dropRequest_136 : decode cX10_dropRequest 136 = .ok (.iconst 1, 1) := by decide +kernel
theorem dX10_dropRequest_137 : decode cX10_dropRequest 137 = .ok (.iadd, 1) := by decide +kernel
theorem dX10_dropRequest_138 : decode cX10_dropRequest 138 = .ok (.iaload, 1) := by decide +kernel
theorem dX10_dropRequest_139 : decode cX10_dropRequest 139 = .ok (.iastore, 1) := by decide +kernel
theorem dX10_dropRequest_140 : decode cX10_dropRequest 140 = .ok (.iinc 2 1, 3) := by decide +kernel
theorem dX10_dropRequest_143 : decode cX10_dropRequest 143 = .ok (.goto (-129), 3) := by decide +kernel
theorem dX10_dropRequest_146 : decode cX10_dropRequest 146 = .ok (.return_, 1) := by decide +kernel
set_option maxHeartbeats 8000000 in
set_option maxRecDepth 100000 in
theorem u_X10_dropRequest (l : Launch) (E : EE) (z0 : Nat) (G : Nat → Nat) (hGz : ∀ q, G q ≠ 0 → z0 ≤ q) (h0 : Nat) (rf : Nat → Nat) (hR : MG G h0 rf) (t0 t1 t2 : Int32) (A : AA) (cd pk : Int32) (p0 : Int32) (hI6 : I6 (A 22) (A 23) (A 24) (A 25) (A 26)) (hI8 : I8 (A 20) (A 30) (A 37) (A 36)) (hy0 : 0 ≤ p0.toInt ∧ p0.toInt ≤ 3) (hy1 : ∀ n : Nat, (n : Int) = p0.toInt → 1 ≤ ((A 20) n).toInt) : Met l yX10_dropRequest [Cond.code yX10_dropRequest cX10_dropRequest 3 none] ({ frames := 0, cells := 0, slots := 0, locals := 0 } : Room) (va_Pc [.ref h0, .int p0] (fun U => MH E h0 rf t0 t1 t2 A cd pk U.heap ∧ KS E z0 U)) (va_Qv (fun (u : (Nat → Int32) × (Nat → Int32) × (Nat → Int32) × (Nat → Int32) × (Nat → Int32) × (Nat → Int32) × (Nat → Int32) × (Nat → Int32) × (Nat → Int32)) => (I6 (u.2.1) (u.2.2.1) (u.2.2.2.1) (u.2.2.2.2.1) (u.2.2.2.2.2.1)) ∧ (I8 (u.1) (A 30) (A 37) (A 36)) ∧ (∀ n : Nat, (n : Int) = p0.toInt → ((u.1) n).toInt = ((A 20) n).toInt - 1 ∧ (∀ k, k ≠ n → (u.1) k = (A 20) k) ∧ ∃ b : Nat, (b : Int) = 4 * (n : Int) + ((A 20) n).toInt - 1 ∧ Sh (A 29) (u.2.2.2.2.2.2.2.2) (4 * n) b ∧ Sh (A 24) (u.2.2.2.1) (4 * n) b) ∧ (D_X10_dropRequest A cd pk p0 (uA (uA (uA (uA (uA (uA (uA (uA (uA A 20 (u.1)) 22 (u.2.1)) 23 (u.2.2.1)) 24 (u.2.2.2.1)) 25 (u.2.2.2.2.1)) 26 (u.2.2.2.2.2.1)) 27 (u.2.2.2.2.2.2.1)) 28 (u.2.2.2.2.2.2.2.1)) 29 (u.2.2.2.2.2.2.2.2)) cd pk)) (fun u t => MH E h0 rf t0 t1 t2 (uA (uA (uA (uA (uA (uA (uA (uA (uA A 20 (u.1)) 22 (u.2.1)) 23 (u.2.2.1)) 24 (u.2.2.2.1)) 25 (u.2.2.2.2.1)) 26 (u.2.2.2.2.2.1)) 27 (u.2.2.2.2.2.2.1)) 28 (u.2.2.2.2.2.2.2.1)) 29 (u.2.2.2.2.2.2.2.2)) cd pk t.heap) (fun q : Nat => G q ≠ 0)) 0 0 (fun q : Nat => G q ≠ 0) := by
  refine Met.ofW (cc := cX10_dropRequest) (maxL := 3) (ret := none) (by decide) rfl ?_
  intro p e s m args below meth c s₁ B hml hv
  obtain ⟨rfl, hM, hK⟩ := hv
  have hx := B.exec
  have hb := B.bytes
  have hr := B.returns
  have hts : ∀ w ∈ TS, w.before ([.ref h0, .int p0] : List Value).toArray s = true := fun w hw => hK.2.1 w hw _
  have hown : s.vm.findClass RX10 = some m.cls := findClass_of_methodNamed B.named
  have hlocks := B.notSynchronized
  have hS : va_S (fun q : Nat => G q ≠ 0) s.heap s.heap [] := va_S.rf
  have hAz : ∀ q, (fun q : Nat => G q ≠ 0) q → z0 ≤ q := hGz
  have hl := lv_entry ([.ref h0, .int p0]) (n := 3) (Nat.le_of_ble_eq_true rfl)
  rw [lg_entry_eq]
  generalize (lg_sl ([.ref h0, .int p0]) ++ List.replicate (3 - (lg_sl ([.ref h0, .int p0])).length) Slot.unset).toArray = ls at hl ⊢
  have hl : lv_has ls 3 [(0, .ref h0), (1, .int p0)] := hl
  obtain ⟨n_1, hn_1, en_1⟩ := s_nat (x := p0) (by omega)
  have hd0 := hy1 n_1 (by omega)
  refine lv_aload_n hx hb dX10_dropRequest_0 rfl (lv_at hl 0 rfl) ?_
  refine va_get (D := DG E) (ci := 10) (v := .ref (rf 20)) (C := RX10) (T := TX10) (N := 49) hx hb hts iw_X10 hown hK.1 (va_one hM.1) 0 rfl rfl 20 (by decide) (hts _ fl_X10_59) (fun _ h9 => h9) rfl dX10_dropRequest_1 ?_
  refine lv_iload_n hx hb dX10_dropRequest_4 rfl (lv_at hl 1 rfl) ?_
  refine lv_dup2_11 hx hb dX10_dropRequest_5 rfl rfl ?_
  have hi_2 : vp_in p0 4 := vp_in_iff.mpr (by omega)
  have ha_3 : va_at (DG E) vwCl (rf 20, .inl (E.2.2 0, 4, .inl (A 20))) _ := hM.2 20 (by decide) (by decide) (by decide)
  refine va_iald (D := DG E) hx hb hK.1 (va_one ha_3) 0 0 rfl rfl hi_2 dX10_dropRequest_6 ?_
  refine W.eq (g2 := F0 m 7 ls [.int ((A 20) n_1), .int p0, .ref (rf 20)]) (by rw [en_1]) ?_
  have hk_4 : n_1 < 4 := by omega
  have q_5 : 0 ≤ ((A 20) n_1).toInt := (hI8 n_1 hk_4).1
  have q_6 : ((A 20) n_1).toInt ≤ 4 := (hI8 n_1 hk_4).2.1
  refine lv_iconst (v := 1) hx hb dX10_dropRequest_7 (by decide) ?_
  refine lv_isub hx hb dX10_dropRequest_8 ?_
  refine lv_topi (fun x_7 ex_7 => ?_)
  have fx_7 : x_7.toInt = ((A 20) n_1).toInt - 1 := by have h9 := s_sub (x := ((A 20) n_1)) (y := 1) (by rw [i_1]; omega) (by rw [i_1]; omega); rw [i_1] at h9; rw [ex_7]; exact h9
  have ha_8 : va_at (DG E) vwCl (rf 20, .inl (E.2.2 0, 4, .inl (A 20))) _ := hM.2 20 (by decide) (by decide) (by decide)
  refine rr_iast (D := DG E) hx hb hK.1 0 ha_8 hS (by show G (rf 20) ≠ 0; rw [hR.2 20 (by decide) (by decide) (by decide)]; decide) rfl hi_2 dX10_dropRequest_9 (fun H locs hn ho hz hS => ?_)
  rw [en_1] at hn
  obtain ⟨g_8, eg_8⟩ : ∃ z : Nat → Int32, z = upd (A 20) n_1 x_7 := ⟨_, rfl⟩
  have sg_8 : g_8 n_1 = x_7 := by rw [eg_8]; exact upd_s
  have ng_8 : ∀ k, k ≠ n_1 → g_8 k = (A 20) k := fun k hk => by rw [eg_8]; exact upd_n hk
  have hn : va_at (DG E) vwCl (rf 20, .inl (E.2.2 0, 4, .inl g_8)) H := by rw [eg_8]; exact hn
  have hM : MH E h0 rf t0 t1 t2 (uA A 20 g_8) cd pk H := hM.w hR 20 (by decide) (by decide) (by decide) hn ho
  refine lv_iconst (v := 4) hx hb dX10_dropRequest_10 (by decide) ?_
  refine lv_iload_n hx hb dX10_dropRequest_11 rfl (lv_at hl 1 rfl) ?_
  refine lv_imul hx hb dX10_dropRequest_12 ?_
  refine lv_topi (fun x_9 ex_9 => ?_)
  have fx_9 : x_9.toInt = 4 * p0.toInt := by rw [ex_9]; exact s_mulK i_4 (by omega) (by omega)
  refine lv_istore_n (lv' := [(2, .int x_9), (0, .ref h0), (1, .int p0)]) hx hb dX10_dropRequest_13 rfl hl (by decide) rfl (fun ls hl => ?_)
  have hX_11 : ∃ b : Nat, (b : Int) = x_9.toInt ∧ Sh (A 29) (A 29) (4 * n_1) b ∧ Sh (A 24) (A 24) (4 * n_1) b ∧ Sh (A 22) (A 22) (4 * n_1) b ∧ Sh (A 23) (A 23) (4 * n_1) b ∧ Sh (A 25) (A 25) (4 * n_1) b ∧ Sh (A 26) (A 26) (4 * n_1) b ∧ Sh (A 27) (A 27) (4 * n_1) b ∧ Sh (A 28) (A 28) (4 * n_1) b := ⟨4 * n_1, by omega, Sh.z, Sh.z, Sh.z, Sh.z, Sh.z, Sh.z, Sh.z, Sh.z⟩
  refine lp_nat (fun n H locs ls => ∃ (ix_10 : Int32) (u_10 : (Nat → Int32) × (Nat → Int32) × (Nat → Int32) × (Nat → Int32) × (Nat → Int32) × (Nat → Int32) × (Nat → Int32) × (Nat → Int32)), (4 * p0.toInt ≤ ix_10.toInt ∧ ix_10.toInt ≤ 4 * p0.toInt + x_7.toInt) ∧ (4 * p0.toInt + x_7.toInt - ix_10.toInt).toNat = n ∧ MH E h0 rf t0 t1 t2 (uA (uA (uA (uA (uA (uA (uA (uA (uA A 20 g_8) 22 (u_10.1)) 23 (u_10.2.1)) 24 (u_10.2.2.1)) 25 (u_10.2.2.2.1)) 26 (u_10.2.2.2.2.1)) 27 (u_10.2.2.2.2.2.1)) 28 (u_10.2.2.2.2.2.2.1)) 29 (u_10.2.2.2.2.2.2.2)) cd pk H ∧ (I6 (u_10.1) (u_10.2.1) (u_10.2.2.1) (u_10.2.2.2.1) (u_10.2.2.2.2.1)) ∧ (∃ b : Nat, (b : Int) = ix_10.toInt ∧ Sh (A 29) (u_10.2.2.2.2.2.2.2) (4 * n_1) b ∧ Sh (A 24) (u_10.2.2.1) (4 * n_1) b ∧ Sh (A 22) (u_10.1) (4 * n_1) b ∧ Sh (A 23) (u_10.2.1) (4 * n_1) b ∧ Sh (A 25) (u_10.2.2.2.1) (4 * n_1) b ∧ Sh (A 26) (u_10.2.2.2.2.1) (4 * n_1) b ∧ Sh (A 27) (u_10.2.2.2.2.2.1) (4 * n_1) b ∧ Sh (A 28) (u_10.2.2.2.2.2.2.1) (4 * n_1) b) ∧ va_S (fun q : Nat => G q ≠ 0) s.heap H locs ∧ lv_has ls 3 [(2, .int ix_10), (0, .ref h0), (1, .int p0)]) (fun n_10 H locs ls ih_10 hI => ?_) ⟨x_9, ((A 22), (A 23), (A 24), (A 25), (A 26), (A 27), (A 28), (A 29)), (by first | omega | decide), rfl, (by show MH E h0 rf t0 t1 t2 (uA (uA (uA (uA (uA (uA (uA (uA (uA A 20 g_8) 22 (A 22)) 23 (A 23)) 24 (A 24)) 25 (A 25)) 26 (A 26)) 27 (A 27)) 28 (A 28)) 29 (A 29)) cd pk _; exact hM.cg9 rfl rfl rfl rfl rfl rfl rfl rfl rfl rfl rfl rfl rfl rfl rfl rfl rfl rfl rfl rfl rfl rfl rfl rfl rfl rfl rfl rfl rfl rfl rfl rfl rfl rfl rfl rfl rfl rfl rfl rfl rfl rfl rfl rfl), hI6, hX_11, hS, hl⟩
  obtain ⟨ix_10, u_10, hb_10, hn_10, hM, hI6_10, hx_10, hS, hl⟩ := hI
  refine lv_iload_n hx hb dX10_dropRequest_14 rfl (lv_at hl 0 rfl) ?_
  refine lv_iconst (v := 4) hx hb dX10_dropRequest_15 (by decide) ?_
  refine lv_iload_n hx hb dX10_dropRequest_16 rfl (lv_at hl 2 rfl) ?_
  refine lv_imul hx hb dX10_dropRequest_17 ?_
  refine W.eq (g2 := F0 m 18 ls [.int x_9, .int ix_10]) (by rw [ex_9]) ?_
  refine lv_aload_n hx hb dX10_dropRequest_18 rfl (lv_at hl 1 rfl) ?_
  refine va_get (D := DG E) (ci := 10) (v := .ref (rf 20)) (C := RX10) (T := TX10) (N := 49) hx hb hts iw_X10 hown hK.1 (va_one hM.1) 0 rfl rfl 20 (by decide) (hts _ fl_X10_59) (fun _ h9 => h9) rfl dX10_dropRequest_19 ?_
  refine lv_iload_n hx hb dX10_dropRequest_22 rfl (lv_at hl 2 rfl) ?_
  have ha_12 : va_at (DG E) vwCl (rf 20, .inl (E.2.2 0, 4, .inl g_8)) _ := hM.2 20 (by decide) (by decide) (by decide)
  refine va_iald (D := DG E) hx hb hK.1 (va_one ha_12) 0 0 rfl rfl hi_2 dX10_dropRequest_23 ?_
  refine W.eq (g2 := F0 m 24 ls [.int x_7, .int x_9, .int ix_10]) (by rw [en_1, sg_8]) ?_
  refine lv_iadd hx hb dX10_dropRequest_24 ?_
  refine lv_topi (fun x_13 ex_13 => ?_)
  have fx_13 : x_13.toInt = x_9.toInt + x_7.toInt := by have h9 := s_add (x := x_9) (y := x_7) (by omega) (by omega); rw [ex_13]; exact h9
  refine lv_icmp_ge (tgt := 146) hx hb dX10_dropRequest_25 (by decide) (fun c_14 => ?_) (fun c_14 => ?_)
  · simp only [lt_I, le_I, eq_I, i_0, i_1, i_2, i_3, i_4, i_5, i_6, i_7, i_8, i_10, i_12, i_16, i_20, i_23, i_24, i_31, i_32, i_63, i_64, i_m1, i_9, i_11, i_13, i_25, i_60, i_75, i_79, i_80, i_96, i_100] at c_14
    have hI8_15 : I8 g_8 (A 30) (A 37) (A 36) := by
      intro n9 hn9
      have h9 : 0 ≤ ((A 20) n9).toInt ∧ ((A 20) n9).toInt ≤ 4 ∧ 0 ≤ ((A 30) n9).toInt ∧ ((A 30) n9).toInt ≤ 4 ∧ 0 ≤ ((A 37) n9).toInt ∧ ((A 37) n9).toInt ≤ 2 ∧ (((A 36) n9).toInt = 0 ∨ 1 ≤ ((A 30) n9).toInt) := hI8 n9 hn9
      show 0 ≤ (g_8 n9).toInt ∧ (g_8 n9).toInt ≤ 4 ∧ 0 ≤ ((A 30) n9).toInt ∧ ((A 30) n9).toInt ≤ 4 ∧ 0 ≤ ((A 37) n9).toInt ∧ ((A 37) n9).toInt ≤ 2 ∧ (((A 36) n9).toInt = 0 ∨ 1 ≤ ((A 30) n9).toInt)
      by_cases ezn_1 : n9 = n_1
      · rw [ezn_1] at h9 ⊢
        rw [sg_8]
        exact ⟨by first | exact h9.1 | omega, by first | exact h9.2.1 | omega, by first | exact h9.2.2.1 | omega, by first | exact h9.2.2.2.1 | omega, by first | exact h9.2.2.2.2.1 | omega, by first | exact h9.2.2.2.2.2.1 | omega, by first | exact h9.2.2.2.2.2.2 | omega⟩
      · rw [ng_8 n9 ezn_1]
        exact h9
    exact W.vret hx hb hr (fun t ht hW => ⟨⟨(g_8, (u_10.1), (u_10.2.1), (u_10.2.2.1), (u_10.2.2.2.1), (u_10.2.2.2.2.1), (u_10.2.2.2.2.2.1), (u_10.2.2.2.2.2.2.1), (u_10.2.2.2.2.2.2.2)), rfl, ⟨hI6_10, hI8_15, (show ∀ n : Nat, (n : Int) = p0.toInt → (g_8 n).toInt = ((A 20) n).toInt - 1 ∧ (∀ k, k ≠ n → g_8 k = (A 20) k) ∧ ∃ b : Nat, (b : Int) = 4 * (n : Int) + ((A 20) n).toInt - 1 ∧ Sh (A 29) (u_10.2.2.2.2.2.2.2) (4 * n) b ∧ Sh (A 24) (u_10.2.2.1) (4 * n) b from (fun n hn => by
        obtain rfl : n_1 = n := by omega
        obtain ⟨b9, hb9, s29, s24, -, -, -, -, -, -⟩ := hx_10
        exact ⟨by rw [sg_8]; omega, ng_8, b9, by omega, s29, s24⟩)), ⟨n_1, hn_1, x_7, ex_7, fx_7, g_8, eg_8, x_9, ex_9, fx_9, ix_10, u_10, hb_10, hI6_10, hx_10, x_13, ex_13, fx_13, c_14, rfl, rfl, rfl⟩⟩, (by show MH E h0 rf t0 t1 t2 (uA (uA (uA (uA (uA (uA (uA (uA (uA A 20 g_8) 22 (u_10.1)) 23 (u_10.2.1)) 24 (u_10.2.2.1)) 25 (u_10.2.2.2.1)) 26 (u_10.2.2.2.2.1)) 27 (u_10.2.2.2.2.2.1)) 28 (u_10.2.2.2.2.2.2.1)) 29 (u_10.2.2.2.2.2.2.2)) cd pk t.heap; rw [ht]; exact hM)⟩, hS.F ht⟩) hS.2.2 dX10_dropRequest_146
  · simp only [lt_I, le_I, eq_I, i_0, i_1, i_2, i_3, i_4, i_5, i_6, i_7, i_8, i_10, i_12, i_16, i_20, i_23, i_24, i_31, i_32, i_63, i_64, i_m1, i_9, i_11, i_13, i_25, i_60, i_75, i_79, i_80, i_96, i_100] at c_14
    refine lv_aload_n hx hb dX10_dropRequest_28 rfl (lv_at hl 1 rfl) ?_
    refine va_get (D := DG E) (ci := 10) (v := .ref (rf 22)) (C := RX10) (T := TX10) (N := 49) hx hb hts iw_X10 hown hK.1 (va_one hM.1) 0 rfl rfl 22 (by decide) (hts _ fl_X10_65) (fun _ h9 => h9) rfl dX10_dropRequest_29 ?_
    refine lv_iload_n hx hb dX10_dropRequest_32 rfl (lv_at hl 0 rfl) ?_
    refine lv_aload_n hx hb dX10_dropRequest_33 rfl (lv_at hl 1 rfl) ?_
    refine va_get (D := DG E) (ci := 10) (v := .ref (rf 22)) (C := RX10) (T := TX10) (N := 49) hx hb hts iw_X10 hown hK.1 (va_one hM.1) 0 rfl rfl 22 (by decide) (hts _ fl_X10_65) (fun _ h9 => h9) rfl dX10_dropRequest_34 ?_
    refine lv_iload_n hx hb dX10_dropRequest_37 rfl (lv_at hl 0 rfl) ?_
    refine lv_iconst (v := 1) hx hb dX10_dropRequest_38 (by decide) ?_
    refine lv_iadd hx hb dX10_dropRequest_39 ?_
    refine lv_topi (fun x_16 ex_16 => ?_)
    have fx_16 : x_16.toInt = ix_10.toInt + 1 := by have h9 := s_add (x := ix_10) (y := 1) (by rw [i_1]; omega) (by rw [i_1]; omega); rw [i_1] at h9; rw [ex_16]; exact h9
    have hi_17 : vp_in x_16 16 := vp_in_iff.mpr (by omega)
    have ha_18 : va_at (DG E) vwCl (rf 22, .inl (E.2.2 0, 16, .inl (u_10.1))) _ := hM.2 22 (by decide) (by decide) (by decide)
    obtain ⟨n_19, hn_19, en_19⟩ := s_nat (x := x_16) (by omega)
    refine va_iald (D := DG E) hx hb hK.1 (va_one ha_18) 0 0 rfl rfl hi_17 dX10_dropRequest_40 ?_
    refine W.eq (g2 := F0 m 41 ls [.int ((u_10.1) n_19), .int ix_10, .ref (rf 22)]) (by rw [en_19]) ?_
    have hk_20 : n_19 < 16 := by omega
    have q_21 : 0 ≤ ((u_10.1) n_19).toInt := (hI6_10 n_19 hk_20).1
    have q_22 : ((u_10.1) n_19).toInt ≤ 3 := (hI6_10 n_19 hk_20).2.1
    have hi_23 : vp_in ix_10 16 := vp_in_iff.mpr (by omega)
    have ha_24 : va_at (DG E) vwCl (rf 22, .inl (E.2.2 0, 16, .inl (u_10.1))) _ := hM.2 22 (by decide) (by decide) (by decide)
    obtain ⟨n_25, hn_25, en_25⟩ := s_nat (x := ix_10) (by omega)
    refine rr_iast (D := DG E) hx hb hK.1 0 ha_24 hS (by show G (rf 22) ≠ 0; rw [hR.2 22 (by decide) (by decide) (by decide)]; decide) rfl hi_23 dX10_dropRequest_41 (fun H locs hn ho hz hS => ?_)
    rw [en_25] at hn
    obtain ⟨g_24, eg_24⟩ : ∃ z : Nat → Int32, z = upd (u_10.1) n_25 ((u_10.1) n_19) := ⟨_, rfl⟩
    have sg_24 : g_24 n_25 = ((u_10.1) n_19) := by rw [eg_24]; exact upd_s
    have ng_24 : ∀ k, k ≠ n_25 → g_24 k = (u_10.1) k := fun k hk => by rw [eg_24]; exact upd_n hk
    have hn : va_at (DG E) vwCl (rf 22, .inl (E.2.2 0, 16, .inl g_24)) H := by rw [eg_24]; exact hn
    have hM : MH E h0 rf t0 t1 t2 (uA (uA (uA (uA (uA (uA (uA (uA (uA (uA A 20 g_8) 22 (u_10.1)) 23 (u_10.2.1)) 24 (u_10.2.2.1)) 25 (u_10.2.2.2.1)) 26 (u_10.2.2.2.2.1)) 27 (u_10.2.2.2.2.2.1)) 28 (u_10.2.2.2.2.2.2.1)) 29 (u_10.2.2.2.2.2.2.2)) 22 g_24) cd pk H := hM.w hR 22 (by decide) (by decide) (by decide) hn ho
    refine lv_aload_n hx hb dX10_dropRequest_42 rfl (lv_at hl 1 rfl) ?_
    refine va_get (D := DG E) (ci := 10) (v := .ref (rf 23)) (C := RX10) (T := TX10) (N := 49) hx hb hts iw_X10 hown hK.1 (va_one hM.1) 0 rfl rfl 23 (by decide) (hts _ fl_X10_68) (fun _ h9 => h9) rfl dX10_dropRequest_43 ?_
    refine lv_iload_n hx hb dX10_dropRequest_46 rfl (lv_at hl 0 rfl) ?_
    refine lv_aload_n hx hb dX10_dropRequest_47 rfl (lv_at hl 1 rfl) ?_
    refine va_get (D := DG E) (ci := 10) (v := .ref (rf 23)) (C := RX10) (T := TX10) (N := 49) hx hb hts iw_X10 hown hK.1 (va_one hM.1) 0 rfl rfl 23 (by decide) (hts _ fl_X10_68) (fun _ h9 => h9) rfl dX10_dropRequest_48 ?_
    refine lv_iload_n hx hb dX10_dropRequest_51 rfl (lv_at hl 0 rfl) ?_
    refine lv_iconst (v := 1) hx hb dX10_dropRequest_52 (by decide) ?_
    refine lv_iadd hx hb dX10_dropRequest_53 ?_
    refine W.eq (g2 := F0 m 54 ls [.int x_16, .ref (rf 23), .int ix_10, .ref (rf 23)]) (by rw [ex_16]) ?_
    have ha_26 : va_at (DG E) vwCl (rf 23, .inl (E.2.2 0, 16, .inl (u_10.2.1))) _ := hM.2 23 (by decide) (by decide) (by decide)
    refine va_iald (D := DG E) hx hb hK.1 (va_one ha_26) 0 0 rfl rfl hi_17 dX10_dropRequest_54 ?_
    refine W.eq (g2 := F0 m 55 ls [.int ((u_10.2.1) n_19), .int ix_10, .ref (rf 23)]) (by rw [en_19]) ?_
    have ha_27 : va_at (DG E) vwCl (rf 23, .inl (E.2.2 0, 16, .inl (u_10.2.1))) _ := hM.2 23 (by decide) (by decide) (by decide)
    refine rr_iast (D := DG E) hx hb hK.1 0 ha_27 hS (by show G (rf 23) ≠ 0; rw [hR.2 23 (by decide) (by decide) (by decide)]; decide) rfl hi_23 dX10_dropRequest_55 (fun H locs hn ho hz hS => ?_)
    rw [en_25] at hn
    obtain ⟨g_27, eg_27⟩ : ∃ z : Nat → Int32, z = upd (u_10.2.1) n_25 ((u_10.2.1) n_19) := ⟨_, rfl⟩
    have sg_27 : g_27 n_25 = ((u_10.2.1) n_19) := by rw [eg_27]; exact upd_s
    have ng_27 : ∀ k, k ≠ n_25 → g_27 k = (u_10.2.1) k := fun k hk => by rw [eg_27]; exact upd_n hk
    have hn : va_at (DG E) vwCl (rf 23, .inl (E.2.2 0, 16, .inl g_27)) H := by rw [eg_27]; exact hn
    have hM : MH E h0 rf t0 t1 t2 (uA (uA (uA (uA (uA (uA (uA (uA (uA (uA (uA A 20 g_8) 22 (u_10.1)) 23 (u_10.2.1)) 24 (u_10.2.2.1)) 25 (u_10.2.2.2.1)) 26 (u_10.2.2.2.2.1)) 27 (u_10.2.2.2.2.2.1)) 28 (u_10.2.2.2.2.2.2.1)) 29 (u_10.2.2.2.2.2.2.2)) 22 g_24) 23 g_27) cd pk H := hM.w hR 23 (by decide) (by decide) (by decide) hn ho
    refine lv_aload_n hx hb dX10_dropRequest_56 rfl (lv_at hl 1 rfl) ?_
    refine va_get (D := DG E) (ci := 10) (v := .ref (rf 24)) (C := RX10) (T := TX10) (N := 49) hx hb hts iw_X10 hown hK.1 (va_one hM.1) 0 rfl rfl 24 (by decide) (hts _ fl_X10_71) (fun _ h9 => h9) rfl dX10_dropRequest_57 ?_
    refine lv_iload_n hx hb dX10_dropRequest_60 rfl (lv_at hl 0 rfl) ?_
    refine lv_aload_n hx hb dX10_dropRequest_61 rfl (lv_at hl 1 rfl) ?_
    refine va_get (D := DG E) (ci := 10) (v := .ref (rf 24)) (C := RX10) (T := TX10) (N := 49) hx hb hts iw_X10 hown hK.1 (va_one hM.1) 0 rfl rfl 24 (by decide) (hts _ fl_X10_71) (fun _ h9 => h9) rfl dX10_dropRequest_62 ?_
    refine lv_iload_n hx hb dX10_dropRequest_65 rfl (lv_at hl 0 rfl) ?_
    refine lv_iconst (v := 1) hx hb dX10_dropRequest_66 (by decide) ?_
    refine lv_iadd hx hb dX10_dropRequest_67 ?_
    refine W.eq (g2 := F0 m 68 ls [.int x_16, .ref (rf 24), .int ix_10, .ref (rf 24)]) (by rw [ex_16]) ?_
    have ha_28 : va_at (DG E) vwCl (rf 24, .inl (E.2.2 0, 16, .inl (u_10.2.2.1))) _ := hM.2 24 (by decide) (by decide) (by decide)
    refine va_iald (D := DG E) hx hb hK.1 (va_one ha_28) 0 0 rfl rfl hi_17 dX10_dropRequest_68 ?_
    refine W.eq (g2 := F0 m 69 ls [.int ((u_10.2.2.1) n_19), .int ix_10, .ref (rf 24)]) (by rw [en_19]) ?_
    have ha_29 : va_at (DG E) vwCl (rf 24, .inl (E.2.2 0, 16, .inl (u_10.2.2.1))) _ := hM.2 24 (by decide) (by decide) (by decide)
    refine rr_iast (D := DG E) hx hb hK.1 0 ha_29 hS (by show G (rf 24) ≠ 0; rw [hR.2 24 (by decide) (by decide) (by decide)]; decide) rfl hi_23 dX10_dropRequest_69 (fun H locs hn ho hz hS => ?_)
    rw [en_25] at hn
    obtain ⟨g_29, eg_29⟩ : ∃ z : Nat → Int32, z = upd (u_10.2.2.1) n_25 ((u_10.2.2.1) n_19) := ⟨_, rfl⟩
    have sg_29 : g_29 n_25 = ((u_10.2.2.1) n_19) := by rw [eg_29]; exact upd_s
    have ng_29 : ∀ k, k ≠ n_25 → g_29 k = (u_10.2.2.1) k := fun k hk => by rw [eg_29]; exact upd_n hk
    have hn : va_at (DG E) vwCl (rf 24, .inl (E.2.2 0, 16, .inl g_29)) H := by rw [eg_29]; exact hn
    have hM : MH E h0 rf t0 t1 t2 (uA (uA (uA (uA (uA (uA (uA (uA (uA (uA (uA (uA A 20 g_8) 22 (u_10.1)) 23 (u_10.2.1)) 24 (u_10.2.2.1)) 25 (u_10.2.2.2.1)) 26 (u_10.2.2.2.2.1)) 27 (u_10.2.2.2.2.2.1)) 28 (u_10.2.2.2.2.2.2.1)) 29 (u_10.2.2.2.2.2.2.2)) 22 g_24) 23 g_27) 24 g_29) cd pk H := hM.w hR 24 (by decide) (by decide) (by decide) hn ho
    refine lv_aload_n hx hb dX10_dropRequest_70 rfl (lv_at hl 1 rfl) ?_
    refine va_get (D := DG E) (ci := 10) (v := .ref (rf 25)) (C := RX10) (T := TX10) (N := 49) hx hb hts iw_X10 hown hK.1 (va_one hM.1) 0 rfl rfl 25 (by decide) (hts _ fl_X10_74) (fun _ h9 => h9) rfl dX10_dropRequest_71 ?_
    refine lv_iload_n hx hb dX10_dropRequest_74 rfl (lv_at hl 0 rfl) ?_
    refine lv_aload_n hx hb dX10_dropRequest_75 rfl (lv_at hl 1 rfl) ?_
    refine va_get (D := DG E) (ci := 10) (v := .ref (rf 25)) (C := RX10) (T := TX10) (N := 49) hx hb hts iw_X10 hown hK.1 (va_one hM.1) 0 rfl rfl 25 (by decide) (hts _ fl_X10_74) (fun _ h9 => h9) rfl dX10_dropRequest_76 ?_
    refine lv_iload_n hx hb dX10_dropRequest_79 rfl (lv_at hl 0 rfl) ?_
    refine lv_iconst (v := 1) hx hb dX10_dropRequest_80 (by decide) ?_
    refine lv_iadd hx hb dX10_dropRequest_81 ?_
    refine W.eq (g2 := F0 m 82 ls [.int x_16, .ref (rf 25), .int ix_10, .ref (rf 25)]) (by rw [ex_16]) ?_
    have ha_30 : va_at (DG E) vwCl (rf 25, .inl (E.2.2 0, 16, .inl (u_10.2.2.2.1))) _ := hM.2 25 (by decide) (by decide) (by decide)
    refine va_iald (D := DG E) hx hb hK.1 (va_one ha_30) 0 0 rfl rfl hi_17 dX10_dropRequest_82 ?_
    refine W.eq (g2 := F0 m 83 ls [.int ((u_10.2.2.2.1) n_19), .int ix_10, .ref (rf 25)]) (by rw [en_19]) ?_
    have ha_31 : va_at (DG E) vwCl (rf 25, .inl (E.2.2 0, 16, .inl (u_10.2.2.2.1))) _ := hM.2 25 (by decide) (by decide) (by decide)
    refine rr_iast (D := DG E) hx hb hK.1 0 ha_31 hS (by show G (rf 25) ≠ 0; rw [hR.2 25 (by decide) (by decide) (by decide)]; decide) rfl hi_23 dX10_dropRequest_83 (fun H locs hn ho hz hS => ?_)
    rw [en_25] at hn
    obtain ⟨g_31, eg_31⟩ : ∃ z : Nat → Int32, z = upd (u_10.2.2.2.1) n_25 ((u_10.2.2.2.1) n_19) := ⟨_, rfl⟩
    have sg_31 : g_31 n_25 = ((u_10.2.2.2.1) n_19) := by rw [eg_31]; exact upd_s
    have ng_31 : ∀ k, k ≠ n_25 → g_31 k = (u_10.2.2.2.1) k := fun k hk => by rw [eg_31]; exact upd_n hk
    have hn : va_at (DG E) vwCl (rf 25, .inl (E.2.2 0, 16, .inl g_31)) H := by rw [eg_31]; exact hn
    have hM : MH E h0 rf t0 t1 t2 (uA (uA (uA (uA (uA (uA (uA (uA (uA (uA (uA (uA (uA A 20 g_8) 22 (u_10.1)) 23 (u_10.2.1)) 24 (u_10.2.2.1)) 25 (u_10.2.2.2.1)) 26 (u_10.2.2.2.2.1)) 27 (u_10.2.2.2.2.2.1)) 28 (u_10.2.2.2.2.2.2.1)) 29 (u_10.2.2.2.2.2.2.2)) 22 g_24) 23 g_27) 24 g_29) 25 g_31) cd pk H := hM.w hR 25 (by decide) (by decide) (by decide) hn ho
    refine lv_aload_n hx hb dX10_dropRequest_84 rfl (lv_at hl 1 rfl) ?_
    refine va_get (D := DG E) (ci := 10) (v := .ref (rf 26)) (C := RX10) (T := TX10) (N := 49) hx hb hts iw_X10 hown hK.1 (va_one hM.1) 0 rfl rfl 26 (by decide) (hts _ fl_X10_77) (fun _ h9 => h9) rfl dX10_dropRequest_85 ?_
    refine lv_iload_n hx hb dX10_dropRequest_88 rfl (lv_at hl 0 rfl) ?_
    refine lv_aload_n hx hb dX10_dropRequest_89 rfl (lv_at hl 1 rfl) ?_
    refine va_get (D := DG E) (ci := 10) (v := .ref (rf 26)) (C := RX10) (T := TX10) (N := 49) hx hb hts iw_X10 hown hK.1 (va_one hM.1) 0 rfl rfl 26 (by decide) (hts _ fl_X10_77) (fun _ h9 => h9) rfl dX10_dropRequest_90 ?_
    refine lv_iload_n hx hb dX10_dropRequest_93 rfl (lv_at hl 0 rfl) ?_
    refine lv_iconst (v := 1) hx hb dX10_dropRequest_94 (by decide) ?_
    refine lv_iadd hx hb dX10_dropRequest_95 ?_
    refine W.eq (g2 := F0 m 96 ls [.int x_16, .ref (rf 26), .int ix_10, .ref (rf 26)]) (by rw [ex_16]) ?_
    have ha_32 : va_at (DG E) vwCl (rf 26, .inl (E.2.2 0, 16, .inl (u_10.2.2.2.2.1))) _ := hM.2 26 (by decide) (by decide) (by decide)
    refine va_iald (D := DG E) hx hb hK.1 (va_one ha_32) 0 0 rfl rfl hi_17 dX10_dropRequest_96 ?_
    refine W.eq (g2 := F0 m 97 ls [.int ((u_10.2.2.2.2.1) n_19), .int ix_10, .ref (rf 26)]) (by rw [en_19]) ?_
    have ha_33 : va_at (DG E) vwCl (rf 26, .inl (E.2.2 0, 16, .inl (u_10.2.2.2.2.1))) _ := hM.2 26 (by decide) (by decide) (by decide)
    refine rr_iast (D := DG E) hx hb hK.1 0 ha_33 hS (by show G (rf 26) ≠ 0; rw [hR.2 26 (by decide) (by decide) (by decide)]; decide) rfl hi_23 dX10_dropRequest_97 (fun H locs hn ho hz hS => ?_)
    rw [en_25] at hn
    obtain ⟨g_33, eg_33⟩ : ∃ z : Nat → Int32, z = upd (u_10.2.2.2.2.1) n_25 ((u_10.2.2.2.2.1) n_19) := ⟨_, rfl⟩
    have sg_33 : g_33 n_25 = ((u_10.2.2.2.2.1) n_19) := by rw [eg_33]; exact upd_s
    have ng_33 : ∀ k, k ≠ n_25 → g_33 k = (u_10.2.2.2.2.1) k := fun k hk => by rw [eg_33]; exact upd_n hk
    have hn : va_at (DG E) vwCl (rf 26, .inl (E.2.2 0, 16, .inl g_33)) H := by rw [eg_33]; exact hn
    have hM : MH E h0 rf t0 t1 t2 (uA (uA (uA (uA (uA (uA (uA (uA (uA (uA (uA (uA (uA (uA A 20 g_8) 22 (u_10.1)) 23 (u_10.2.1)) 24 (u_10.2.2.1)) 25 (u_10.2.2.2.1)) 26 (u_10.2.2.2.2.1)) 27 (u_10.2.2.2.2.2.1)) 28 (u_10.2.2.2.2.2.2.1)) 29 (u_10.2.2.2.2.2.2.2)) 22 g_24) 23 g_27) 24 g_29) 25 g_31) 26 g_33) cd pk H := hM.w hR 26 (by decide) (by decide) (by decide) hn ho
    refine lv_aload_n hx hb dX10_dropRequest_98 rfl (lv_at hl 1 rfl) ?_
    refine va_get (D := DG E) (ci := 10) (v := .ref (rf 27)) (C := RX10) (T := TX10) (N := 49) hx hb hts iw_X10 hown hK.1 (va_one hM.1) 0 rfl rfl 27 (by decide) (hts _ fl_X10_80) (fun _ h9 => h9) rfl dX10_dropRequest_99 ?_
    refine lv_iload_n hx hb dX10_dropRequest_102 rfl (lv_at hl 0 rfl) ?_
    refine lv_aload_n hx hb dX10_dropRequest_103 rfl (lv_at hl 1 rfl) ?_
    refine va_get (D := DG E) (ci := 10) (v := .ref (rf 27)) (C := RX10) (T := TX10) (N := 49) hx hb hts iw_X10 hown hK.1 (va_one hM.1) 0 rfl rfl 27 (by decide) (hts _ fl_X10_80) (fun _ h9 => h9) rfl dX10_dropRequest_104 ?_
    refine lv_iload_n hx hb dX10_dropRequest_107 rfl (lv_at hl 0 rfl) ?_
    refine lv_iconst (v := 1) hx hb dX10_dropRequest_108 (by decide) ?_
    refine lv_iadd hx hb dX10_dropRequest_109 ?_
    refine W.eq (g2 := F0 m 110 ls [.int x_16, .ref (rf 27), .int ix_10, .ref (rf 27)]) (by rw [ex_16]) ?_
    have ha_34 : va_at (DG E) vwCl (rf 27, .inl (E.2.2 0, 16, .inl (u_10.2.2.2.2.2.1))) _ := hM.2 27 (by decide) (by decide) (by decide)
    refine va_iald (D := DG E) hx hb hK.1 (va_one ha_34) 0 0 rfl rfl hi_17 dX10_dropRequest_110 ?_
    refine W.eq (g2 := F0 m 111 ls [.int ((u_10.2.2.2.2.2.1) n_19), .int ix_10, .ref (rf 27)]) (by rw [en_19]) ?_
    have ha_35 : va_at (DG E) vwCl (rf 27, .inl (E.2.2 0, 16, .inl (u_10.2.2.2.2.2.1))) _ := hM.2 27 (by decide) (by decide) (by decide)
    refine rr_iast (D := DG E) hx hb hK.1 0 ha_35 hS (by show G (rf 27) ≠ 0; rw [hR.2 27 (by decide) (by decide) (by decide)]; decide) rfl hi_23 dX10_dropRequest_111 (fun H locs hn ho hz hS => ?_)
    rw [en_25] at hn
    obtain ⟨g_35, eg_35⟩ : ∃ z : Nat → Int32, z = upd (u_10.2.2.2.2.2.1) n_25 ((u_10.2.2.2.2.2.1) n_19) := ⟨_, rfl⟩
    have sg_35 : g_35 n_25 = ((u_10.2.2.2.2.2.1) n_19) := by rw [eg_35]; exact upd_s
    have ng_35 : ∀ k, k ≠ n_25 → g_35 k = (u_10.2.2.2.2.2.1) k := fun k hk => by rw [eg_35]; exact upd_n hk
    have hn : va_at (DG E) vwCl (rf 27, .inl (E.2.2 0, 16, .inl g_35)) H := by rw [eg_35]; exact hn
    have hM : MH E h0 rf t0 t1 t2 (uA (uA (uA (uA (uA (uA (uA (uA (uA (uA (uA (uA (uA (uA (uA A 20 g_8) 22 (u_10.1)) 23 (u_10.2.1)) 24 (u_10.2.2.1)) 25 (u_10.2.2.2.1)) 26 (u_10.2.2.2.2.1)) 27 (u_10.2.2.2.2.2.1)) 28 (u_10.2.2.2.2.2.2.1)) 29 (u_10.2.2.2.2.2.2.2)) 22 g_24) 23 g_27) 24 g_29) 25 g_31) 26 g_33) 27 g_35) cd pk H := hM.w hR 27 (by decide) (by decide) (by decide) hn ho
    refine lv_aload_n hx hb dX10_dropRequest_112 rfl (lv_at hl 1 rfl) ?_
    refine va_get (D := DG E) (ci := 10) (v := .ref (rf 28)) (C := RX10) (T := TX10) (N := 49) hx hb hts iw_X10 hown hK.1 (va_one hM.1) 0 rfl rfl 28 (by decide) (hts _ fl_X10_83) (fun _ h9 => h9) rfl dX10_dropRequest_113 ?_
    refine lv_iload_n hx hb dX10_dropRequest_116 rfl (lv_at hl 0 rfl) ?_
    refine lv_aload_n hx hb dX10_dropRequest_117 rfl (lv_at hl 1 rfl) ?_
    refine va_get (D := DG E) (ci := 10) (v := .ref (rf 28)) (C := RX10) (T := TX10) (N := 49) hx hb hts iw_X10 hown hK.1 (va_one hM.1) 0 rfl rfl 28 (by decide) (hts _ fl_X10_83) (fun _ h9 => h9) rfl dX10_dropRequest_118 ?_
    refine lv_iload_n hx hb dX10_dropRequest_121 rfl (lv_at hl 0 rfl) ?_
    refine lv_iconst (v := 1) hx hb dX10_dropRequest_122 (by decide) ?_
    refine lv_iadd hx hb dX10_dropRequest_123 ?_
    refine W.eq (g2 := F0 m 124 ls [.int x_16, .ref (rf 28), .int ix_10, .ref (rf 28)]) (by rw [ex_16]) ?_
    have ha_36 : va_at (DG E) vwCl (rf 28, .inl (E.2.2 0, 16, .inl (u_10.2.2.2.2.2.2.1))) _ := hM.2 28 (by decide) (by decide) (by decide)
    refine va_iald (D := DG E) hx hb hK.1 (va_one ha_36) 0 0 rfl rfl hi_17 dX10_dropRequest_124 ?_
    refine W.eq (g2 := F0 m 125 ls [.int ((u_10.2.2.2.2.2.2.1) n_19), .int ix_10, .ref (rf 28)]) (by rw [en_19]) ?_
    have ha_37 : va_at (DG E) vwCl (rf 28, .inl (E.2.2 0, 16, .inl (u_10.2.2.2.2.2.2.1))) _ := hM.2 28 (by decide) (by decide) (by decide)
    refine rr_iast (D := DG E) hx hb hK.1 0 ha_37 hS (by show G (rf 28) ≠ 0; rw [hR.2 28 (by decide) (by decide) (by decide)]; decide) rfl hi_23 dX10_dropRequest_125 (fun H locs hn ho hz hS => ?_)
    rw [en_25] at hn
    obtain ⟨g_37, eg_37⟩ : ∃ z : Nat → Int32, z = upd (u_10.2.2.2.2.2.2.1) n_25 ((u_10.2.2.2.2.2.2.1) n_19) := ⟨_, rfl⟩
    have sg_37 : g_37 n_25 = ((u_10.2.2.2.2.2.2.1) n_19) := by rw [eg_37]; exact upd_s
    have ng_37 : ∀ k, k ≠ n_25 → g_37 k = (u_10.2.2.2.2.2.2.1) k := fun k hk => by rw [eg_37]; exact upd_n hk
    have hn : va_at (DG E) vwCl (rf 28, .inl (E.2.2 0, 16, .inl g_37)) H := by rw [eg_37]; exact hn
    have hM : MH E h0 rf t0 t1 t2 (uA (uA (uA (uA (uA (uA (uA (uA (uA (uA (uA (uA (uA (uA (uA (uA A 20 g_8) 22 (u_10.1)) 23 (u_10.2.1)) 24 (u_10.2.2.1)) 25 (u_10.2.2.2.1)) 26 (u_10.2.2.2.2.1)) 27 (u_10.2.2.2.2.2.1)) 28 (u_10.2.2.2.2.2.2.1)) 29 (u_10.2.2.2.2.2.2.2)) 22 g_24) 23 g_27) 24 g_29) 25 g_31) 26 g_33) 27 g_35) 28 g_37) cd pk H := hM.w hR 28 (by decide) (by decide) (by decide) hn ho
    refine lv_aload_n hx hb dX10_dropRequest_126 rfl (lv_at hl 1 rfl) ?_
    refine va_get (D := DG E) (ci := 10) (v := .ref (rf 29)) (C := RX10) (T := TX10) (N := 49) hx hb hts iw_X10 hown hK.1 (va_one hM.1) 0 rfl rfl 29 (by decide) (hts _ fl_X10_86) (fun _ h9 => h9) rfl dX10_dropRequest_127 ?_
    refine lv_iload_n hx hb dX10_dropRequest_130 rfl (lv_at hl 0 rfl) ?_
    refine lv_aload_n hx hb dX10_dropRequest_131 rfl (lv_at hl 1 rfl) ?_
    refine va_get (D := DG E) (ci := 10) (v := .ref (rf 29)) (C := RX10) (T := TX10) (N := 49) hx hb hts iw_X10 hown hK.1 (va_one hM.1) 0 rfl rfl 29 (by decide) (hts _ fl_X10_86) (fun _ h9 => h9) rfl dX10_dropRequest_132 ?_
    refine lv_iload_n hx hb dX10_dropRequest_135 rfl (lv_at hl 0 rfl) ?_
    refine lv_iconst (v := 1) hx hb dX10_dropRequest_136 (by decide) ?_
    refine lv_iadd hx hb dX10_dropRequest_137 ?_
    refine W.eq (g2 := F0 m 138 ls [.int x_16, .ref (rf 29), .int ix_10, .ref (rf 29)]) (by rw [ex_16]) ?_
    have ha_38 : va_at (DG E) vwCl (rf 29, .inl (E.2.2 0, 16, .inl (u_10.2.2.2.2.2.2.2))) _ := hM.2 29 (by decide) (by decide) (by decide)
    refine va_iald (D := DG E) hx hb hK.1 (va_one ha_38) 0 0 rfl rfl hi_17 dX10_dropRequest_138 ?_
    refine W.eq (g2 := F0 m 139 ls [.int ((u_10.2.2.2.2.2.2.2) n_19), .int ix_10, .ref (rf 29)]) (by rw [en_19]) ?_
    have ha_39 : va_at (DG E) vwCl (rf 29, .inl (E.2.2 0, 16, .inl (u_10.2.2.2.2.2.2.2))) _ := hM.2 29 (by decide) (by decide) (by decide)
    refine rr_iast (D := DG E) hx hb hK.1 0 ha_39 hS (by show G (rf 29) ≠ 0; rw [hR.2 29 (by decide) (by decide) (by decide)]; decide) rfl hi_23 dX10_dropRequest_139 (fun H locs hn ho hz hS => ?_)
    rw [en_25] at hn
    obtain ⟨g_39, eg_39⟩ : ∃ z : Nat → Int32, z = upd (u_10.2.2.2.2.2.2.2) n_25 ((u_10.2.2.2.2.2.2.2) n_19) := ⟨_, rfl⟩
    have sg_39 : g_39 n_25 = ((u_10.2.2.2.2.2.2.2) n_19) := by rw [eg_39]; exact upd_s
    have ng_39 : ∀ k, k ≠ n_25 → g_39 k = (u_10.2.2.2.2.2.2.2) k := fun k hk => by rw [eg_39]; exact upd_n hk
    have hn : va_at (DG E) vwCl (rf 29, .inl (E.2.2 0, 16, .inl g_39)) H := by rw [eg_39]; exact hn
    have hM : MH E h0 rf t0 t1 t2 (uA (uA (uA (uA (uA (uA (uA (uA (uA (uA (uA (uA (uA (uA (uA (uA (uA A 20 g_8) 22 (u_10.1)) 23 (u_10.2.1)) 24 (u_10.2.2.1)) 25 (u_10.2.2.2.1)) 26 (u_10.2.2.2.2.1)) 27 (u_10.2.2.2.2.2.1)) 28 (u_10.2.2.2.2.2.2.1)) 29 (u_10.2.2.2.2.2.2.2)) 22 g_24) 23 g_27) 24 g_29) 25 g_31) 26 g_33) 27 g_35) 28 g_37) 29 g_39) cd pk H := hM.w hR 29 (by decide) (by decide) (by decide) hn ho
    obtain ⟨x_40, ex_40⟩ : ∃ z : Int32, ix_10 + Int32.ofInt 1 = z := ⟨_, rfl⟩
    have fx_40 : x_40.toInt = ix_10.toInt + 1 := by have h9 := s_add (x := ix_10) (y := 1) (by rw [i_1]; omega) (by rw [i_1]; omega); rw [i_1] at h9; rw [← ex_40]; exact h9
    refine lv_iinc (v := x_40) (lv' := [(2, .int x_40), (0, .ref h0), (1, .int p0)]) hx hb dX10_dropRequest_140 hl (k := 0) rfl ex_40 (by decide) rfl (fun ls hl => ?_)
    refine lv_goto (tgt := 14) hx hb dX10_dropRequest_143 (by decide) ?_
    have hI6_41 : I6 g_24 g_27 g_29 g_31 g_33 := by
      intro n9 hn9
      have h9 : 0 ≤ ((u_10.1) n9).toInt ∧ ((u_10.1) n9).toInt ≤ 3 ∧ 0 ≤ ((u_10.2.1) n9).toInt ∧ 0 ≤ ((u_10.2.2.1) n9).toInt ∧ ((u_10.2.2.1) n9).toInt ≤ 12 ∧ ((u_10.2.1) n9).toInt + ((u_10.2.2.1) n9).toInt ≤ 32 ∧ (((u_10.1) n9).toInt = 0 ∨ (0 ≤ ((u_10.2.2.2.1) n9).toInt ∧ ((u_10.2.2.2.1) n9).toInt ≤ 5)) ∧ -1 ≤ ((u_10.2.2.2.2.1) n9).toInt ∧ ((u_10.2.2.2.2.1) n9).toInt ≤ 31 := hI6_10 n9 hn9
      show 0 ≤ (g_24 n9).toInt ∧ (g_24 n9).toInt ≤ 3 ∧ 0 ≤ (g_27 n9).toInt ∧ 0 ≤ (g_29 n9).toInt ∧ (g_29 n9).toInt ≤ 12 ∧ (g_27 n9).toInt + (g_29 n9).toInt ≤ 32 ∧ ((g_24 n9).toInt = 0 ∨ (0 ≤ (g_31 n9).toInt ∧ (g_31 n9).toInt ≤ 5)) ∧ -1 ≤ (g_33 n9).toInt ∧ (g_33 n9).toInt ≤ 31
      by_cases ezn_25 : n9 = n_25
      · rw [ezn_25] at h9 ⊢
        rw [sg_24]
        rw [sg_27]
        rw [sg_29]
        rw [sg_31]
        rw [sg_33]
        exact hI6_10 n_19 (by omega)
      · rw [ng_24 n9 ezn_25]
        rw [ng_27 n9 ezn_25]
        rw [ng_29 n9 ezn_25]
        rw [ng_31 n9 ezn_25]
        rw [ng_33 n9 ezn_25]
        exact h9
    obtain ⟨b9, hb9, s29, s24, s22, s23, s25, s26, s27, s28⟩ := hx_10
    obtain rfl : b9 = n_25 := by omega
    have e9 : n_19 = b9 + 1 := by omega
    have hX_42 : ∃ b : Nat, (b : Int) = x_40.toInt ∧ Sh (A 29) g_39 (4 * n_1) b ∧ Sh (A 24) g_29 (4 * n_1) b ∧ Sh (A 22) g_24 (4 * n_1) b ∧ Sh (A 23) g_27 (4 * n_1) b ∧ Sh (A 25) g_31 (4 * n_1) b ∧ Sh (A 26) g_33 (4 * n_1) b ∧ Sh (A 27) g_35 (4 * n_1) b ∧ Sh (A 28) g_37 (4 * n_1) b := ⟨b9 + 1, by omega, s29.s (by omega) (by rw [sg_39, e9]) (ng_39), s24.s (by omega) (by rw [sg_29, e9]) (ng_29), s22.s (by omega) (by rw [sg_24, e9]) (ng_24), s23.s (by omega) (by rw [sg_27, e9]) (ng_27), s25.s (by omega) (by rw [sg_31, e9]) (ng_31), s26.s (by omega) (by rw [sg_33, e9]) (ng_33), s27.s (by omega) (by rw [sg_35, e9]) (ng_35), s28.s (by omega) (by rw [sg_37, e9]) (ng_37)⟩
    exact ih_10 _ (by omega) _ _ _ ⟨x_40, (g_24, g_27, g_29, g_31, g_33, g_35, g_37, g_39), (by first | omega | decide), rfl, (by show MH E h0 rf t0 t1 t2 (uA (uA (uA (uA (uA (uA (uA (uA (uA A 20 g_8) 22 g_24) 23 g_27) 24 g_29) 25 g_31) 26 g_33) 27 g_35) 28 g_37) 29 g_39) cd pk _; exact hM.cg9 rfl rfl rfl rfl rfl rfl rfl rfl rfl rfl rfl rfl rfl rfl rfl rfl rfl rfl rfl rfl rfl rfl rfl rfl rfl rfl rfl rfl rfl rfl rfl rfl rfl rfl rfl rfl rfl rfl rfl rfl rfl rfl rfl rfl), hI6_41, hX_42, hS, hl⟩
theorem dX10_dropReceive_0 : decode cX10_dropReceive 0 = .ok (.aload_n 0, 1) := by decide +kernel
theorem dX10_dropReceive_1 : decode cX10_dropReceive 1 = .ok (.getfield 89, 3) := by decide +kernel
theorem dX10_dropReceive_4 : decode cX10_dropReceive 4 = .ok (.iload_n 1, 1) := by decide +kernel
theorem dX10_dropReceive_5 : decode cX10_dropReceive 5 = .ok (.dup2, 1) := by decide +kernel
theorem dX10_dropReceive_6 : decode cX10_dropReceive 6 = .ok (.iaload, 1) := by decide +kernel
theorem dX10_dropReceive_7 : decode cX10_dropReceive 7 = .ok (.iconst 1, 1) := by decide +kernel
theorem dX10_dropReceive_8 : decode cX10_dropReceive 8 = .ok (.isub, 1) := by decide +kernel
theorem dX10_dropReceive_9 : decode cX10_dropReceive 9 = .ok (.iastore, 1) := by decide +kernel
theorem dX10_dropReceive_10 : decode cX10_dropReceive 10 = .ok (.iconst 4, 1) := by decide +kernel
theorem dX10_dropReceive_11 : decode cX10_dropReceive 11 = .ok (.iload_n 1, 1) := by decide +kernel
theorem dX10_dropReceive_12 : decode cX10_dropReceive 12 = .ok (.imul, 1) := by decide +kernel
theorem dX10_dropReceive_13 : decode cX10_dropReceive 13 = .ok (.istore_n 2, 1) := by decide +kernel
theorem dX10_dropReceive_14 : decode cX10_dropReceive 14 = .ok (.iload_n 2, 1) := by decide +kernel
theorem dX10_dropReceive_15 : decode cX10_dropReceive 15 = .ok (.iconst 4, 1) := by decide +kernel
theorem dX10_dropReceive_16 : decode cX10_dropReceive 16 = .ok (.iload_n 1, 1) := by decide +kernel
theorem dX10_dropReceive_17 : decode cX10_dropReceive 17 = .ok (.imul, 1) := by decide +kernel
theorem dX10_dropReceive_18 : decode cX10_dropReceive 18 = .ok (.aload_n 0, 1) := by decide +kernel
theorem dX10_dropReceive_19 : decode cX10_dropReceive 19 = .ok (.getfield 89, 3) := by decide +kernel
theorem dX10_dropReceive_22 : decode cX10_dropReceive 22 = .ok (.iload_n 1, 1) := by decide +kernel
theorem dX10_dropReceive_23 : decode cX10_dropReceive 23 = .ok (.iaload, 1) := by decide +kernel
theorem dX10_dropReceive_24 : decode cX10_dropReceive 24 = .ok (.iadd, 1) := by decide +kernel
theorem dX10_dropReceive_25 : decode cX10_dropReceive 25 = .ok (.if_icmp .ge 65, 3) := by decide +kernel
theorem dX10_dropReceive_28 : decode cX10_dropReceive 28 = .ok (.aload_n 0, 1) := by decide +kernel
theorem dX10_dropReceive_29 : decode cX10_dropReceive 29 = .ok (.getfield 95, 3) := by decide +kernel
theorem dX10_dropReceive_32 : decode cX10_dropReceive 32 = .ok (.iload_n 2, 1) := by decide +kernel
theorem dX10_dropReceive_33 : decode cX10_dropReceive 33 = .ok (.aload_n 0, 1) := by decide +kernel
theorem dX10_dropReceive_34 : decode cX10_dropReceive 34 = .ok (.getfield 95, 3) := by decide +kernel
theorem dX10_dropReceive_37 : decode cX10_dropReceive 37 = .ok (.iload_n 2, 1) := by decide +kernel
theorem dX10_dropReceive_38 : decode cX10_dropReceive 38 = .ok (.iconst 1, 1) := by decide +kernel
theorem dX10_dropReceive_39 : decode cX10_dropReceive 39 = .ok (.iadd, 1) := by decide +kernel
theorem dX10_dropReceive_40 : decode cX10_dropReceive 40 = .ok (.iaload, 1) := by decide +kernel
theorem dX10_dropReceive_41 : decode cX10_dropReceive 41 = .ok (.iastore, 1) := by decide +kernel
theorem dX10_dropReceive_42 : decode cX10_dropReceive 42 = .ok (.aload_n 0, 1) := by decide +kernel
theorem dX10_dropReceive_43 : decode cX10_dropReceive 43 = .ok (.getfield 98, 3) := by decide +kernel
theorem dX10_dropReceive_46 : decode cX10_dropReceive 46 = .ok (.iload_n 2, 1) := by decide +kernel
theorem dX10_dropReceive_47 : decode cX10_dropReceive 47 = .ok (.aload_n 0, 1) := by decide +kernel
theorem dX10_dropReceive_48 : decode cX10_dropReceive 48 = .ok (.getfield 98, 3) := by decide +kernel
theorem dX10_dropReceive_51 : decode cX10_dropReceive 51 = .ok (.iload_n 2, 1) := by decide +kernel
theorem dX10_dropReceive_52 : decode cX10_dropReceive 52 = .ok (.iconst 1, 1) := by decide +kernel
theorem dX10_dropReceive_53 : decode cX10_dropReceive 53 = .ok (.iadd, 1) := by decide +kernel
theorem dX10_dropReceive_54 : decode cX10_dropReceive 54 = .ok (.iaload, 1) := by decide +kernel
theorem dX10_dropReceive_55 : decode cX10_dropReceive 55 = .ok (.iastore, 1) := by decide +kernel
theorem dX10_dropReceive_56 : decode cX10_dropReceive 56 = .ok (.aload_n 0, 1) := by decide +kernel
theorem dX10_dropReceive_57 : decode cX10_dropReceive 57 = .ok (.getfield 101, 3) := by decide +kernel
theorem dX10_dropReceive_60 : decode cX10_dropReceive 60 = .ok (.iload_n 2, 1) := by decide +kernel
theorem dX10_dropReceive_61 : decode cX10_dropReceive 61 = .ok (.aload_n 0, 1) := by decide +kernel
theorem dX10_dropReceive_62 : decode cX10_dropReceive 62 = .ok (.getfield 101, 3) := by decide +kernel
theorem dX10_dropReceive_65 : decode cX10_dropReceive 65 = .ok (.iload_n 2, 1) := by decide +kernel
theorem dX10_dropReceive_66 : decode cX10_dropReceive 66 = .ok (.iconst 1, 1) := by decide +kernel
theorem dX10_dropReceive_67 : decode cX10_dropReceive 67 = .ok (.iadd, 1) := by decide +kernel
theorem dX10_dropReceive_68 : decode cX10_dropReceive 68 = .ok (.iaload, 1) := by decide +kernel
theorem dX10_dropReceive_69 : decode cX10_dropReceive 69 = .ok (.iastore, 1) := by decide +kernel
theorem dX10_dropReceive_70 : decode cX10_dropReceive 70 = .ok (.aload_n 0, 1) := by decide +kernel
theorem dX10_dropReceive_71 : decode cX10_dropReceive 71 = .ok (.getfield 104, 3) := by decide +kernel
theorem dX10_dropReceive_74 : decode cX10_dropReceive 74 = .ok (.iload_n 2, 1) := by decide +kernel
theorem dX10_dropReceive_75 : decode cX10_dropReceive 75 = .ok (.aload_n 0, 1) := by decide +kernel
theorem dX10_dropReceive_76 : decode cX10_dropReceive 76 = .ok (.getfield 104, 3) := by decide +kernel
theorem dX10_dropReceive_79 : decode cX10_dropReceive 79 = .ok (.iload_n 2, 1) := by decide +kernel
theorem dX10_dropReceive_80 : decode cX10_dropReceive 80 = .ok (.iconst 1, 1) := by decide +kernel
theorem dX10_dropReceive_81 : decode cX10_dropReceive 81 = .ok (.iadd, 1) := by decide +kernel
theorem dX10_dropReceive_82 : decode cX10_dropReceive 82 = .ok (.iaload, 1) := by decide +kernel
theorem dX10_dropReceive_83 : decode cX10_dropReceive 83 = .ok (.iastore, 1) := by decide +kernel
theorem dX10_dropReceive_84 : decode cX10_dropReceive 84 = .ok (.iinc 2 1, 3) := by decide +kernel
theorem dX10_dropReceive_87 : decode cX10_dropReceive 87 = .ok (.goto (-73), 3) := by decide +kernel
theorem dX10_dropReceive_90 : decode cX10_dropReceive 90 = .ok (.return_, 1) := by decide +kernel
set_option maxHeartbeats 8000000 in
set_option maxRecDepth 100000 in
theorem u_X10_dropReceive (l : Launch) (E : EE) (z0 : Nat) (G : Nat → Nat) (hGz : ∀ q, G q ≠ 0 → z0 ≤ q) (h0 : Nat) (rf : Nat → Nat) (hR : MG G h0 rf) (t0 t1 t2 : Int32) (A : AA) (cd pk : Int32) (p0 : Int32) (hI5 : I5 (A 32) (A 33) (A 35)) (hI8 : I8 (A 20) (A 30) (A 37) (A 36)) (hy0 : 0 ≤ p0.toInt ∧ p0.toInt ≤ 3) (hy1 : ∀ n : Nat, (n : Int) = p0.toInt → 1 ≤ ((A 30) n).toInt ∧ ((A 36) n).toInt = 0) : Met l yX10_dropReceive [Cond.code yX10_dropReceive cX10_dropReceive 3 none] ({ frames := 0, cells := 0, slots := 0, locals := 0 } : Room) (va_Pc [.ref h0, .int p0] (fun U => MH E h0 rf t0 t1 t2 A cd pk U.heap ∧ KS E z0 U)) (va_Qv (fun (u : (Nat → Int32) × (Nat → Int32) × (Nat → Int32) × (Nat → Int32) × (Nat → Int32)) => (I5 (u.2.1) (u.2.2.1) (u.2.2.2.2)) ∧ (I8 (A 20) (u.1) (A 37) (A 36)) ∧ (D_X10_dropReceive A cd pk p0 (uA (uA (uA (uA (uA A 30 (u.1)) 32 (u.2.1)) 33 (u.2.2.1)) 34 (u.2.2.2.1)) 35 (u.2.2.2.2)) cd pk)) (fun u t => MH E h0 rf t0 t1 t2 (uA (uA (uA (uA (uA A 30 (u.1)) 32 (u.2.1)) 33 (u.2.2.1)) 34 (u.2.2.2.1)) 35 (u.2.2.2.2)) cd pk t.heap) (fun q : Nat => G q ≠ 0)) 0 0 (fun q : Nat => G q ≠ 0) := by
  refine Met.ofW (cc := cX10_dropReceive) (maxL := 3) (ret := none) (by decide) rfl ?_
  intro p e s m args below meth c s₁ B hml hv
  obtain ⟨rfl, hM, hK⟩ := hv
  have hx := B.exec
  have hb := B.bytes
  have hr := B.returns
  have hts : ∀ w ∈ TS, w.before ([.ref h0, .int p0] : List Value).toArray s = true := fun w hw => hK.2.1 w hw _
  have hown : s.vm.findClass RX10 = some m.cls := findClass_of_methodNamed B.named
  have hlocks := B.notSynchronized
  have hS : va_S (fun q : Nat => G q ≠ 0) s.heap s.heap [] := va_S.rf
  have hAz : ∀ q, (fun q : Nat => G q ≠ 0) q → z0 ≤ q := hGz
  have hl := lv_entry ([.ref h0, .int p0]) (n := 3) (Nat.le_of_ble_eq_true rfl)
  rw [lg_entry_eq]
  generalize (lg_sl ([.ref h0, .int p0]) ++ List.replicate (3 - (lg_sl ([.ref h0, .int p0])).length) Slot.unset).toArray = ls at hl ⊢
  have hl : lv_has ls 3 [(0, .ref h0), (1, .int p0)] := hl
  obtain ⟨n_1, hn_1, en_1⟩ := s_nat (x := p0) (by omega)
  have hd0 := hy1 n_1 (by omega)
  refine lv_aload_n hx hb dX10_dropReceive_0 rfl (lv_at hl 0 rfl) ?_
  refine va_get (D := DG E) (ci := 10) (v := .ref (rf 30)) (C := RX10) (T := TX10) (N := 49) hx hb hts iw_X10 hown hK.1 (va_one hM.1) 0 rfl rfl 30 (by decide) (hts _ fl_X10_89) (fun _ h9 => h9) rfl dX10_dropReceive_1 ?_
  refine lv_iload_n hx hb dX10_dropReceive_4 rfl (lv_at hl 1 rfl) ?_
  refine lv_dup2_11 hx hb dX10_dropReceive_5 rfl rfl ?_
  have hi_2 : vp_in p0 4 := vp_in_iff.mpr (by omega)
  have ha_3 : va_at (DG E) vwCl (rf 30, .inl (E.2.2 0, 4, .inl (A 30))) _ := hM.2 30 (by decide) (by decide) (by decide)
  refine va_iald (D := DG E) hx hb hK.1 (va_one ha_3) 0 0 rfl rfl hi_2 dX10_dropReceive_6 ?_
  refine W.eq (g2 := F0 m 7 ls [.int ((A 30) n_1), .int p0, .ref (rf 30)]) (by rw [en_1]) ?_
  have hk_4 : n_1 < 4 := by omega
  have q_5 : 0 ≤ ((A 30) n_1).toInt := (hI8 n_1 hk_4).2.2.1
  have q_6 : ((A 30) n_1).toInt ≤ 4 := (hI8 n_1 hk_4).2.2.2.1
  refine lv_iconst (v := 1) hx hb dX10_dropReceive_7 (by decide) ?_
  refine lv_isub hx hb dX10_dropReceive_8 ?_
  refine lv_topi (fun x_7 ex_7 => ?_)
  have fx_7 : x_7.toInt = ((A 30) n_1).toInt - 1 := by have h9 := s_sub (x := ((A 30) n_1)) (y := 1) (by rw [i_1]; omega) (by rw [i_1]; omega); rw [i_1] at h9; rw [ex_7]; exact h9
  have ha_8 : va_at (DG E) vwCl (rf 30, .inl (E.2.2 0, 4, .inl (A 30))) _ := hM.2 30 (by decide) (by decide) (by decide)
  refine rr_iast (D := DG E) hx hb hK.1 0 ha_8 hS (by show G (rf 30) ≠ 0; rw [hR.2 30 (by decide) (by decide) (by decide)]; decide) rfl hi_2 dX10_dropReceive_9 (fun H locs hn ho hz hS => ?_)
  rw [en_1] at hn
  obtain ⟨g_8, eg_8⟩ : ∃ z : Nat → Int32, z = upd (A 30) n_1 x_7 := ⟨_, rfl⟩
  have sg_8 : g_8 n_1 = x_7 := by rw [eg_8]; exact upd_s
  have ng_8 : ∀ k, k ≠ n_1 → g_8 k = (A 30) k := fun k hk => by rw [eg_8]; exact upd_n hk
  have hn : va_at (DG E) vwCl (rf 30, .inl (E.2.2 0, 4, .inl g_8)) H := by rw [eg_8]; exact hn
  have hM : MH E h0 rf t0 t1 t2 (uA A 30 g_8) cd pk H := hM.w hR 30 (by decide) (by decide) (by decide) hn ho
  refine lv_iconst (v := 4) hx hb dX10_dropReceive_10 (by decide) ?_
  refine lv_iload_n hx hb dX10_dropReceive_11 rfl (lv_at hl 1 rfl) ?_
  refine lv_imul hx hb dX10_dropReceive_12 ?_
  refine lv_topi (fun x_9 ex_9 => ?_)
  have fx_9 : x_9.toInt = 4 * p0.toInt := by rw [ex_9]; exact s_mulK i_4 (by omega) (by omega)
  refine lv_istore_n (lv' := [(2, .int x_9), (0, .ref h0), (1, .int p0)]) hx hb dX10_dropReceive_13 rfl hl (by decide) rfl (fun ls hl => ?_)
  have hX_11 : ∃ b : Nat, (b : Int) = x_9.toInt ∧ Sh (A 32) (A 32) (4 * n_1) b ∧ Sh (A 33) (A 33) (4 * n_1) b ∧ Sh (A 34) (A 34) (4 * n_1) b ∧ Sh (A 35) (A 35) (4 * n_1) b := ⟨4 * n_1, by omega, Sh.z, Sh.z, Sh.z, Sh.z⟩
  refine lp_nat (fun n H locs ls => ∃ (ix_10 : Int32) (u_10 : (Nat → Int32) × (Nat → Int32) × (Nat → Int32) × (Nat → Int32)), (4 * p0.toInt ≤ ix_10.toInt ∧ ix_10.toInt ≤ 4 * p0.toInt + x_7.toInt) ∧ (4 * p0.toInt + x_7.toInt - ix_10.toInt).toNat = n ∧ MH E h0 rf t0 t1 t2 (uA (uA (uA (uA (uA A 30 g_8) 32 (u_10.1)) 33 (u_10.2.1)) 34 (u_10.2.2.1)) 35 (u_10.2.2.2)) cd pk H ∧ (I5 (u_10.1) (u_10.2.1) (u_10.2.2.2)) ∧ (∃ b : Nat, (b : Int) = ix_10.toInt ∧ Sh (A 32) (u_10.1) (4 * n_1) b ∧ Sh (A 33) (u_10.2.1) (4 * n_1) b ∧ Sh (A 34) (u_10.2.2.1) (4 * n_1) b ∧ Sh (A 35) (u_10.2.2.2) (4 * n_1) b) ∧ va_S (fun q : Nat => G q ≠ 0) s.heap H locs ∧ lv_has ls 3 [(2, .int ix_10), (0, .ref h0), (1, .int p0)]) (fun n_10 H locs ls ih_10 hI => ?_) ⟨x_9, ((A 32), (A 33), (A 34), (A 35)), (by first | omega | decide), rfl, (by show MH E h0 rf t0 t1 t2 (uA (uA (uA (uA (uA A 30 g_8) 32 (A 32)) 33 (A 33)) 34 (A 34)) 35 (A 35)) cd pk _; exact hM.cg9 rfl rfl rfl rfl rfl rfl rfl rfl rfl rfl rfl rfl rfl rfl rfl rfl rfl rfl rfl rfl rfl rfl rfl rfl rfl rfl rfl rfl rfl rfl rfl rfl rfl rfl rfl rfl rfl rfl rfl rfl rfl rfl rfl rfl), hI5, hX_11, hS, hl⟩
  obtain ⟨ix_10, u_10, hb_10, hn_10, hM, hI5_10, hx_10, hS, hl⟩ := hI
  refine lv_iload_n hx hb dX10_dropReceive_14 rfl (lv_at hl 0 rfl) ?_
  refine lv_iconst (v := 4) hx hb dX10_dropReceive_15 (by decide) ?_
  refine lv_iload_n hx hb dX10_dropReceive_16 rfl (lv_at hl 2 rfl) ?_
  refine lv_imul hx hb dX10_dropReceive_17 ?_
  refine W.eq (g2 := F0 m 18 ls [.int x_9, .int ix_10]) (by rw [ex_9]) ?_
  refine lv_aload_n hx hb dX10_dropReceive_18 rfl (lv_at hl 1 rfl) ?_
  refine va_get (D := DG E) (ci := 10) (v := .ref (rf 30)) (C := RX10) (T := TX10) (N := 49) hx hb hts iw_X10 hown hK.1 (va_one hM.1) 0 rfl rfl 30 (by decide) (hts _ fl_X10_89) (fun _ h9 => h9) rfl dX10_dropReceive_19 ?_
  refine lv_iload_n hx hb dX10_dropReceive_22 rfl (lv_at hl 2 rfl) ?_
  have ha_12 : va_at (DG E) vwCl (rf 30, .inl (E.2.2 0, 4, .inl g_8)) _ := hM.2 30 (by decide) (by decide) (by decide)
  refine va_iald (D := DG E) hx hb hK.1 (va_one ha_12) 0 0 rfl rfl hi_2 dX10_dropReceive_23 ?_
  refine W.eq (g2 := F0 m 24 ls [.int x_7, .int x_9, .int ix_10]) (by rw [en_1, sg_8]) ?_
  refine lv_iadd hx hb dX10_dropReceive_24 ?_
  refine lv_topi (fun x_13 ex_13 => ?_)
  have fx_13 : x_13.toInt = x_9.toInt + x_7.toInt := by have h9 := s_add (x := x_9) (y := x_7) (by omega) (by omega); rw [ex_13]; exact h9
  refine lv_icmp_ge (tgt := 90) hx hb dX10_dropReceive_25 (by decide) (fun c_14 => ?_) (fun c_14 => ?_)
  · simp only [lt_I, le_I, eq_I, i_0, i_1, i_2, i_3, i_4, i_5, i_6, i_7, i_8, i_10, i_12, i_16, i_20, i_23, i_24, i_31, i_32, i_63, i_64, i_m1, i_9, i_11, i_13, i_25, i_60, i_75, i_79, i_80, i_96, i_100] at c_14
    have hI8_15 : I8 (A 20) g_8 (A 37) (A 36) := by
      intro n9 hn9
      have h9 : 0 ≤ ((A 20) n9).toInt ∧ ((A 20) n9).toInt ≤ 4 ∧ 0 ≤ ((A 30) n9).toInt ∧ ((A 30) n9).toInt ≤ 4 ∧ 0 ≤ ((A 37) n9).toInt ∧ ((A 37) n9).toInt ≤ 2 ∧ (((A 36) n9).toInt = 0 ∨ 1 ≤ ((A 30) n9).toInt) := hI8 n9 hn9
      show 0 ≤ ((A 20) n9).toInt ∧ ((A 20) n9).toInt ≤ 4 ∧ 0 ≤ (g_8 n9).toInt ∧ (g_8 n9).toInt ≤ 4 ∧ 0 ≤ ((A 37) n9).toInt ∧ ((A 37) n9).toInt ≤ 2 ∧ (((A 36) n9).toInt = 0 ∨ 1 ≤ (g_8 n9).toInt)
      by_cases ezn_1 : n9 = n_1
      · rw [ezn_1] at h9 ⊢
        rw [sg_8]
        exact ⟨by first | exact h9.1 | omega, by first | exact h9.2.1 | omega, by first | exact h9.2.2.1 | omega, by first | exact h9.2.2.2.1 | omega, by first | exact h9.2.2.2.2.1 | omega, by first | exact h9.2.2.2.2.2.1 | omega, by first | exact h9.2.2.2.2.2.2 | omega⟩
      · rw [ng_8 n9 ezn_1]
        exact h9
    exact W.vret hx hb hr (fun t ht hW => ⟨⟨(g_8, (u_10.1), (u_10.2.1), (u_10.2.2.1), (u_10.2.2.2)), rfl, ⟨hI5_10, hI8_15, ⟨n_1, hn_1, x_7, ex_7, fx_7, g_8, eg_8, x_9, ex_9, fx_9, ix_10, u_10, hb_10, hI5_10, hx_10, x_13, ex_13, fx_13, c_14, rfl, rfl, rfl⟩⟩, (by show MH E h0 rf t0 t1 t2 (uA (uA (uA (uA (uA A 30 g_8) 32 (u_10.1)) 33 (u_10.2.1)) 34 (u_10.2.2.1)) 35 (u_10.2.2.2)) cd pk t.heap; rw [ht]; exact hM)⟩, hS.F ht⟩) hS.2.2 dX10_dropReceive_90
  · simp only [lt_I, le_I, eq_I, i_0, i_1, i_2, i_3, i_4, i_5, i_6, i_7, i_8, i_10, i_12, i_16, i_20, i_23, i_24, i_31, i_32, i_63, i_64, i_m1, i_9, i_11, i_13, i_25, i_60, i_75, i_79, i_80, i_96, i_100] at c_14
    refine lv_aload_n hx hb dX10_dropReceive_28 rfl (lv_at hl 1 rfl) ?_
    refine va_get (D := DG E) (ci := 10) (v := .ref (rf 32)) (C := RX10) (T := TX10) (N := 49) hx hb hts iw_X10 hown hK.1 (va_one hM.1) 0 rfl rfl 32 (by decide) (hts _ fl_X10_95) (fun _ h9 => h9) rfl dX10_dropReceive_29 ?_
    refine lv_iload_n hx hb dX10_dropReceive_32 rfl (lv_at hl 0 rfl) ?_
    refine lv_aload_n hx hb dX10_dropReceive_33 rfl (lv_at hl 1 rfl) ?_
    refine va_get (D := DG E) (ci := 10) (v := .ref (rf 32)) (C := RX10) (T := TX10) (N := 49) hx hb hts iw_X10 hown hK.1 (va_one hM.1) 0 rfl rfl 32 (by decide) (hts _ fl_X10_95) (fun _ h9 => h9) rfl dX10_dropReceive_34 ?_
    refine lv_iload_n hx hb dX10_dropReceive_37 rfl (lv_at hl 0 rfl) ?_
    refine lv_iconst (v := 1) hx hb dX10_dropReceive_38 (by decide) ?_
    refine lv_iadd hx hb dX10_dropReceive_39 ?_
    refine lv_topi (fun x_16 ex_16 => ?_)
    have fx_16 : x_16.toInt = ix_10.toInt + 1 := by have h9 := s_add (x := ix_10) (y := 1) (by rw [i_1]; omega) (by rw [i_1]; omega); rw [i_1] at h9; rw [ex_16]; exact h9
    have hi_17 : vp_in x_16 16 := vp_in_iff.mpr (by omega)
    have ha_18 : va_at (DG E) vwCl (rf 32, .inl (E.2.2 0, 16, .inl (u_10.1))) _ := hM.2 32 (by decide) (by decide) (by decide)
    obtain ⟨n_19, hn_19, en_19⟩ := s_nat (x := x_16) (by omega)
    refine va_iald (D := DG E) hx hb hK.1 (va_one ha_18) 0 0 rfl rfl hi_17 dX10_dropReceive_40 ?_
    refine W.eq (g2 := F0 m 41 ls [.int ((u_10.1) n_19), .int ix_10, .ref (rf 32)]) (by rw [en_19]) ?_
    have hk_20 : n_19 < 16 := by omega
    have q_21 : 0 ≤ ((u_10.1) n_19).toInt := (hI5_10 n_19 hk_20).1
    have q_22 : 0 ≤ ((u_10.2.2.2) n_19).toInt := (hI5_10 n_19 hk_20).2.1
    have q_23 : ((u_10.2.2.2) n_19).toInt ≤ ((u_10.2.1) n_19).toInt := (hI5_10 n_19 hk_20).2.2.1
    have q_24 : ((u_10.1) n_19).toInt + ((u_10.2.1) n_19).toInt ≤ 32 := (hI5_10 n_19 hk_20).2.2.2
    have hi_25 : vp_in ix_10 16 := vp_in_iff.mpr (by omega)
    have ha_26 : va_at (DG E) vwCl (rf 32, .inl (E.2.2 0, 16, .inl (u_10.1))) _ := hM.2 32 (by decide) (by decide) (by decide)
    obtain ⟨n_27, hn_27, en_27⟩ := s_nat (x := ix_10) (by omega)
    refine rr_iast (D := DG E) hx hb hK.1 0 ha_26 hS (by show G (rf 32) ≠ 0; rw [hR.2 32 (by decide) (by decide) (by decide)]; decide) rfl hi_25 dX10_dropReceive_41 (fun H locs hn ho hz hS => ?_)
    rw [en_27] at hn
    obtain ⟨g_26, eg_26⟩ : ∃ z : Nat → Int32, z = upd (u_10.1) n_27 ((u_10.1) n_19) := ⟨_, rfl⟩
    have sg_26 : g_26 n_27 = ((u_10.1) n_19) := by rw [eg_26]; exact upd_s
    have ng_26 : ∀ k, k ≠ n_27 → g_26 k = (u_10.1) k := fun k hk => by rw [eg_26]; exact upd_n hk
    have hn : va_at (DG E) vwCl (rf 32, .inl (E.2.2 0, 16, .inl g_26)) H := by rw [eg_26]; exact hn
    have hM : MH E h0 rf t0 t1 t2 (uA (uA (uA (uA (uA (uA A 30 g_8) 32 (u_10.1)) 33 (u_10.2.1)) 34 (u_10.2.2.1)) 35 (u_10.2.2.2)) 32 g_26) cd pk H := hM.w hR 32 (by decide) (by decide) (by decide) hn ho
    refine lv_aload_n hx hb dX10_dropReceive_42 rfl (lv_at hl 1 rfl) ?_
    refine va_get (D := DG E) (ci := 10) (v := .ref (rf 33)) (C := RX10) (T := TX10) (N := 49) hx hb hts iw_X10 hown hK.1 (va_one hM.1) 0 rfl rfl 33 (by decide) (hts _ fl_X10_98) (fun _ h9 => h9) rfl dX10_dropReceive_43 ?_
    refine lv_iload_n hx hb dX10_dropReceive_46 rfl (lv_at hl 0 rfl) ?_
    refine lv_aload_n hx hb dX10_dropReceive_47 rfl (lv_at hl 1 rfl) ?_
    refine va_get (D := DG E) (ci := 10) (v := .ref (rf 33)) (C := RX10) (T := TX10) (N := 49) hx hb hts iw_X10 hown hK.1 (va_one hM.1) 0 rfl rfl 33 (by decide) (hts _ fl_X10_98) (fun _ h9 => h9) rfl dX10_dropReceive_48 ?_
    refine lv_iload_n hx hb dX10_dropReceive_51 rfl (lv_at hl 0 rfl) ?_
    refine lv_iconst (v := 1) hx hb dX10_dropReceive_52 (by decide) ?_
    refine lv_iadd hx hb dX10_dropReceive_53 ?_
    refine W.eq (g2 := F0 m 54 ls [.int x_16, .ref (rf 33), .int ix_10, .ref (rf 33)]) (by rw [ex_16]) ?_
    have ha_28 : va_at (DG E) vwCl (rf 33, .inl (E.2.2 0, 16, .inl (u_10.2.1))) _ := hM.2 33 (by decide) (by decide) (by decide)
    refine va_iald (D := DG E) hx hb hK.1 (va_one ha_28) 0 0 rfl rfl hi_17 dX10_dropReceive_54 ?_
    refine W.eq (g2 := F0 m 55 ls [.int ((u_10.2.1) n_19), .int ix_10, .ref (rf 33)]) (by rw [en_19]) ?_
    have ha_29 : va_at (DG E) vwCl (rf 33, .inl (E.2.2 0, 16, .inl (u_10.2.1))) _ := hM.2 33 (by decide) (by decide) (by decide)
    refine rr_iast (D := DG E) hx hb hK.1 0 ha_29 hS (by show G (rf 33) ≠ 0; rw [hR.2 33 (by decide) (by decide) (by decide)]; decide) rfl hi_25 dX10_dropReceive_55 (fun H locs hn ho hz hS => ?_)
    rw [en_27] at hn
    obtain ⟨g_29, eg_29⟩ : ∃ z : Nat → Int32, z = upd (u_10.2.1) n_27 ((u_10.2.1) n_19) := ⟨_, rfl⟩
    have sg_29 : g_29 n_27 = ((u_10.2.1) n_19) := by rw [eg_29]; exact upd_s
    have ng_29 : ∀ k, k ≠ n_27 → g_29 k = (u_10.2.1) k := fun k hk => by rw [eg_29]; exact upd_n hk
    have hn : va_at (DG E) vwCl (rf 33, .inl (E.2.2 0, 16, .inl g_29)) H := by rw [eg_29]; exact hn
    have hM : MH E h0 rf t0 t1 t2 (uA (uA (uA (uA (uA (uA (uA A 30 g_8) 32 (u_10.1)) 33 (u_10.2.1)) 34 (u_10.2.2.1)) 35 (u_10.2.2.2)) 32 g_26) 33 g_29) cd pk H := hM.w hR 33 (by decide) (by decide) (by decide) hn ho
    refine lv_aload_n hx hb dX10_dropReceive_56 rfl (lv_at hl 1 rfl) ?_
    refine va_get (D := DG E) (ci := 10) (v := .ref (rf 34)) (C := RX10) (T := TX10) (N := 49) hx hb hts iw_X10 hown hK.1 (va_one hM.1) 0 rfl rfl 34 (by decide) (hts _ fl_X10_101) (fun _ h9 => h9) rfl dX10_dropReceive_57 ?_
    refine lv_iload_n hx hb dX10_dropReceive_60 rfl (lv_at hl 0 rfl) ?_
    refine lv_aload_n hx hb dX10_dropReceive_61 rfl (lv_at hl 1 rfl) ?_
    refine va_get (D := DG E) (ci := 10) (v := .ref (rf 34)) (C := RX10) (T := TX10) (N := 49) hx hb hts iw_X10 hown hK.1 (va_one hM.1) 0 rfl rfl 34 (by decide) (hts _ fl_X10_101) (fun _ h9 => h9) rfl dX10_dropReceive_62 ?_
    refine lv_iload_n hx hb dX10_dropReceive_65 rfl (lv_at hl 0 rfl) ?_
    refine lv_iconst (v := 1) hx hb dX10_dropReceive_66 (by decide) ?_
    refine lv_iadd hx hb dX10_dropReceive_67 ?_
    refine W.eq (g2 := F0 m 68 ls [.int x_16, .ref (rf 34), .int ix_10, .ref (rf 34)]) (by rw [ex_16]) ?_
    have ha_30 : va_at (DG E) vwCl (rf 34, .inl (E.2.2 0, 16, .inl (u_10.2.2.1))) _ := hM.2 34 (by decide) (by decide) (by decide)
    refine va_iald (D := DG E) hx hb hK.1 (va_one ha_30) 0 0 rfl rfl hi_17 dX10_dropReceive_68 ?_
    refine W.eq (g2 := F0 m 69 ls [.int ((u_10.2.2.1) n_19), .int ix_10, .ref (rf 34)]) (by rw [en_19]) ?_
    have ha_31 : va_at (DG E) vwCl (rf 34, .inl (E.2.2 0, 16, .inl (u_10.2.2.1))) _ := hM.2 34 (by decide) (by decide) (by decide)
    refine rr_iast (D := DG E) hx hb hK.1 0 ha_31 hS (by show G (rf 34) ≠ 0; rw [hR.2 34 (by decide) (by decide) (by decide)]; decide) rfl hi_25 dX10_dropReceive_69 (fun H locs hn ho hz hS => ?_)
    rw [en_27] at hn
    obtain ⟨g_31, eg_31⟩ : ∃ z : Nat → Int32, z = upd (u_10.2.2.1) n_27 ((u_10.2.2.1) n_19) := ⟨_, rfl⟩
    have sg_31 : g_31 n_27 = ((u_10.2.2.1) n_19) := by rw [eg_31]; exact upd_s
    have ng_31 : ∀ k, k ≠ n_27 → g_31 k = (u_10.2.2.1) k := fun k hk => by rw [eg_31]; exact upd_n hk
    have hn : va_at (DG E) vwCl (rf 34, .inl (E.2.2 0, 16, .inl g_31)) H := by rw [eg_31]; exact hn
    have hM : MH E h0 rf t0 t1 t2 (uA (uA (uA (uA (uA (uA (uA (uA A 30 g_8) 32 (u_10.1)) 33 (u_10.2.1)) 34 (u_10.2.2.1)) 35 (u_10.2.2.2)) 32 g_26) 33 g_29) 34 g_31) cd pk H := hM.w hR 34 (by decide) (by decide) (by decide) hn ho
    refine lv_aload_n hx hb dX10_dropReceive_70 rfl (lv_at hl 1 rfl) ?_
    refine va_get (D := DG E) (ci := 10) (v := .ref (rf 35)) (C := RX10) (T := TX10) (N := 49) hx hb hts iw_X10 hown hK.1 (va_one hM.1) 0 rfl rfl 35 (by decide) (hts _ fl_X10_104) (fun _ h9 => h9) rfl dX10_dropReceive_71 ?_
    refine lv_iload_n hx hb dX10_dropReceive_74 rfl (lv_at hl 0 rfl) ?_
    refine lv_aload_n hx hb dX10_dropReceive_75 rfl (lv_at hl 1 rfl) ?_
    refine va_get (D := DG E) (ci := 10) (v := .ref (rf 35)) (C := RX10) (T := TX10) (N := 49) hx hb hts iw_X10 hown hK.1 (va_one hM.1) 0 rfl rfl 35 (by decide) (hts _ fl_X10_104) (fun _ h9 => h9) rfl dX10_dropReceive_76 ?_
    refine lv_iload_n hx hb dX10_dropReceive_79 rfl (lv_at hl 0 rfl) ?_
    refine lv_iconst (v := 1) hx hb dX10_dropReceive_80 (by decide) ?_
    refine lv_iadd hx hb dX10_dropReceive_81 ?_
    refine W.eq (g2 := F0 m 82 ls [.int x_16, .ref (rf 35), .int ix_10, .ref (rf 35)]) (by rw [ex_16]) ?_
    have ha_32 : va_at (DG E) vwCl (rf 35, .inl (E.2.2 0, 16, .inl (u_10.2.2.2))) _ := hM.2 35 (by decide) (by decide) (by decide)
    refine va_iald (D := DG E) hx hb hK.1 (va_one ha_32) 0 0 rfl rfl hi_17 dX10_dropReceive_82 ?_
    refine W.eq (g2 := F0 m 83 ls [.int ((u_10.2.2.2) n_19), .int ix_10, .ref (rf 35)]) (by rw [en_19]) ?_
    have ha_33 : va_at (DG E) vwCl (rf 35, .inl (E.2.2 0, 16, .inl (u_10.2.2.2))) _ := hM.2 35 (by decide) (by decide) (by decide)
    refine rr_iast (D := DG E) hx hb hK.1 0 ha_33 hS (by show G (rf 35) ≠ 0; rw [hR.2 35 (by decide) (by decide) (by decide)]; decide) rfl hi_25 dX10_dropReceive_83 (fun H locs hn ho hz hS => ?_)
    rw [en_27] at hn
    obtain ⟨g_33, eg_33⟩ : ∃ z : Nat → Int32, z = upd (u_10.2.2.2) n_27 ((u_10.2.2.2) n_19) := ⟨_, rfl⟩
    have sg_33 : g_33 n_27 = ((u_10.2.2.2) n_19) := by rw [eg_33]; exact upd_s
    have ng_33 : ∀ k, k ≠ n_27 → g_33 k = (u_10.2.2.2) k := fun k hk => by rw [eg_33]; exact upd_n hk
    have hn : va_at (DG E) vwCl (rf 35, .inl (E.2.2 0, 16, .inl g_33)) H := by rw [eg_33]; exact hn
    have hM : MH E h0 rf t0 t1 t2 (uA (uA (uA (uA (uA (uA (uA (uA (uA A 30 g_8) 32 (u_10.1)) 33 (u_10.2.1)) 34 (u_10.2.2.1)) 35 (u_10.2.2.2)) 32 g_26) 33 g_29) 34 g_31) 35 g_33) cd pk H := hM.w hR 35 (by decide) (by decide) (by decide) hn ho
    obtain ⟨x_34, ex_34⟩ : ∃ z : Int32, ix_10 + Int32.ofInt 1 = z := ⟨_, rfl⟩
    have fx_34 : x_34.toInt = ix_10.toInt + 1 := by have h9 := s_add (x := ix_10) (y := 1) (by rw [i_1]; omega) (by rw [i_1]; omega); rw [i_1] at h9; rw [← ex_34]; exact h9
    refine lv_iinc (v := x_34) (lv' := [(2, .int x_34), (0, .ref h0), (1, .int p0)]) hx hb dX10_dropReceive_84 hl (k := 0) rfl ex_34 (by decide) rfl (fun ls hl => ?_)
    refine lv_goto (tgt := 14) hx hb dX10_dropReceive_87 (by decide) ?_
    have hI5_35 : I5 g_26 g_29 g_33 := by
      intro n9 hn9
      have h9 : 0 ≤ ((u_10.1) n9).toInt ∧ 0 ≤ ((u_10.2.2.2) n9).toInt ∧ ((u_10.2.2.2) n9).toInt ≤ ((u_10.2.1) n9).toInt ∧ ((u_10.1) n9).toInt + ((u_10.2.1) n9).toInt ≤ 32 := hI5_10 n9 hn9
      show 0 ≤ (g_26 n9).toInt ∧ 0 ≤ (g_33 n9).toInt ∧ (g_33 n9).toInt ≤ (g_29 n9).toInt ∧ (g_26 n9).toInt + (g_29 n9).toInt ≤ 32
      by_cases ezn_27 : n9 = n_27
      · rw [ezn_27] at h9 ⊢
        rw [sg_26]
        rw [sg_29]
        rw [sg_33]
        exact hI5_10 n_19 (by omega)
      · rw [ng_26 n9 ezn_27]
        rw [ng_29 n9 ezn_27]
        rw [ng_33 n9 ezn_27]
        exact h9
    obtain ⟨b9, hb9, s32, s33, s34, s35⟩ := hx_10
    obtain rfl : b9 = n_27 := by omega
    have e9 : n_19 = b9 + 1 := by omega
    have hX_36 : ∃ b : Nat, (b : Int) = x_34.toInt ∧ Sh (A 32) g_26 (4 * n_1) b ∧ Sh (A 33) g_29 (4 * n_1) b ∧ Sh (A 34) g_31 (4 * n_1) b ∧ Sh (A 35) g_33 (4 * n_1) b := ⟨b9 + 1, by omega, s32.s (by omega) (by rw [sg_26, e9]) (ng_26), s33.s (by omega) (by rw [sg_29, e9]) (ng_29), s34.s (by omega) (by rw [sg_31, e9]) (ng_31), s35.s (by omega) (by rw [sg_33, e9]) (ng_33)⟩
    exact ih_10 _ (by omega) _ _ _ ⟨x_34, (g_26, g_29, g_31, g_33), (by first | omega | decide), rfl, (by show MH E h0 rf t0 t1 t2 (uA (uA (uA (uA (uA A 30 g_8) 32 g_26) 33 g_29) 34 g_31) 35 g_33) cd pk _; exact hM.cg9 rfl rfl rfl rfl rfl rfl rfl rfl rfl rfl rfl rfl rfl rfl rfl rfl rfl rfl rfl rfl rfl rfl rfl rfl rfl rfl rfl rfl rfl rfl rfl rfl rfl rfl rfl rfl rfl rfl rfl rfl rfl rfl rfl rfl), hI5_35, hX_36, hS, hl⟩
theorem dX10_answerOne_0 : decode cX10_answerOne 0 = .ok (.aload_n 0, 1) := by decide +kernel
theorem dX10_answerOne_1 : decode cX10_answerOne 1 = .ok (.iload_n 1, 1) := by decide +kernel
theorem dX10_answerOne_2 : decode cX10_answerOne 2 = .ok (.aload_n 0, 1) := by decide +kernel
theorem dX10_answerOne_3 : decode cX10_answerOne 3 = .ok (.getfield 34, 3) := by decide +kernel
theorem dX10_answerOne_6 : decode cX10_answerOne 6 = .ok (.iload_n 1, 1) := by decide +kernel
theorem dX10_answerOne_7 : decode cX10_answerOne 7 = .ok (.iaload, 1) := by decide +kernel
theorem dX10_answerOne_8 : decode cX10_answerOne 8 = .ok (.invokevirtual 196, 3) := by decide +kernel
theorem dX10_answerOne_11 : decode cX10_answerOne 11 = .ok (.istore_n 2, 1) := by decide +kernel
theorem dX10_answerOne_12 : decode cX10_answerOne 12 = .ok (.aload_n 0, 1) := by decide +kernel
theorem dX10_answerOne_13 : decode cX10_answerOne 13 = .ok (.getfield 86, 3) := by decide +kernel
theorem dX10_answerOne_16 : decode cX10_answerOne 16 = .ok (.iload_n 2, 1) := by decide +kernel
theorem dX10_answerOne_17 : decode cX10_answerOne 17 = .ok (.iaload, 1) := by decide +kernel
theorem dX10_answerOne_18 : decode cX10_answerOne 18 = .ok (.aload_n 0, 1) := by decide +kernel
theorem dX10_answerOne_19 : decode cX10_answerOne 19 = .ok (.getfield 34, 3) := by decide +kernel
theorem dX10_answerOne_22 : decode cX10_answerOne 22 = .ok (.iload_n 1, 1) := by decide +kernel
theorem dX10_answerOne_23 : decode cX10_answerOne 23 = .ok (.iaload, 1) := by decide +kernel
theorem dX10_answerOne_24 : decode cX10_answerOne 24 = .ok (.invokestatic 174, 3) := by decide +kernel
theorem dX10_answerOne_27 : decode cX10_answerOne 27 = .ok (.aload_n 0, 1) := by decide +kernel
theorem dX10_answerOne_28 : decode cX10_answerOne 28 = .ok (.iload_n 2, 1) := by decide +kernel
theorem dX10_answerOne_29 : decode cX10_answerOne 29 = .ok (.invokevirtual 178, 3) := by decide +kernel
theorem dX10_answerOne_32 : decode cX10_answerOne 32 = .ok (.iconst 1, 1) := by decide +kernel
theorem dX10_answerOne_33 : decode cX10_answerOne 33 = .ok (.isub, 1) := by decide +kernel
theorem dX10_answerOne_34 : decode cX10_answerOne 34 = .ok (.if_icmp .ne 7, 3) := by decide +kernel
theorem dX10_answerOne_37 : decode cX10_answerOne 37 = .ok (.iconst 1, 1) := by decide +kernel
theorem dX10_answerOne_38 : decode cX10_answerOne 38 = .ok (.goto 4, 3) := by decide +kernel
theorem dX10_answerOne_41 : decode cX10_answerOne 41 = .ok (.iconst 0, 1) := by decide +kernel
theorem dX10_answerOne_42 : decode cX10_answerOne 42 = .ok (.istore_n 3, 1) := by decide +kernel
theorem dX10_answerOne_43 : decode cX10_answerOne 43 = .ok (.aload_n 0, 1) := by decide +kernel
theorem dX10_answerOne_44 : decode cX10_answerOne 44 = .ok (.getfield 34, 3) := by decide +kernel
theorem dX10_answerOne_47 : decode cX10_answerOne 47 = .ok (.iload_n 1, 1) := by decide +kernel
theorem dX10_answerOne_48 : decode cX10_answerOne 48 = .ok (.aload_n 0, 1) := by decide +kernel
theorem dX10_answerOne_49 : decode cX10_answerOne 49 = .ok (.getfield 34, 3) := by decide +kernel
theorem dX10_answerOne_52 : decode cX10_answerOne 52 = .ok (.iload_n 1, 1) := by decide +kernel
theorem dX10_answerOne_53 : decode cX10_answerOne 53 = .ok (.iaload, 1) := by decide +kernel
theorem dX10_answerOne_54 : decode cX10_answerOne 54 = .ok (.iconst 1, 1) := by decide +kernel
theorem dX10_answerOne_55 : decode cX10_answerOne 55 = .ok (.iadd, 1) := by decide +kernel
theorem dX10_answerOne_56 : decode cX10_answerOne 56 = .ok (.bipush 64, 2) := by decide +kernel
theorem dX10_answerOne_58 : decode cX10_answerOne 58 = .ok (.irem, 1) := by decide +kernel
theorem dX10_answerOne_59 : decode cX10_answerOne 59 = .ok (.iastore, 1) := by decide +kernel
theorem dX10_answerOne_60 : decode cX10_answerOne 60 = .ok (.aload_n 0, 1) := by decide +kernel
theorem dX10_answerOne_61 : decode cX10_answerOne 61 = .ok (.getfield 43, 3) := by decide +kernel
theorem dX10_answerOne_64 : decode cX10_answerOne 64 = .ok (.iload_n 1, 1) := by decide +kernel
theorem dX10_answerOne_65 : decode cX10_answerOne 65 = .ok (.iconst 0, 1) := by decide +kernel
theorem dX10_answerOne_66 : decode cX10_answerOne 66 = .ok (.iastore, 1) := by decide +kernel
theorem dX10_answerOne_67 : decode cX10_answerOne 67 = .ok (.aload_n 0, 1) := by decide +kernel
theorem dX10_answerOne_68 : decode cX10_answerOne 68 = .ok (.getfield 46, 3) := by decide +kernel
theorem dX10_answerOne_71 : decode cX10_answerOne 71 = .ok (.iload_n 1, 1) := by decide +kernel
theorem dX10_answerOne_72 : decode cX10_answerOne 72 = .ok (.iconst 0, 1) := by decide +kernel
theorem dX10_answerOne_73 : decode cX10_answerOne 73 = .ok (.iastore, 1) := by decide +kernel
theorem dX10_answerOne_74 : decode cX10_answerOne 74 = .ok (.aload_n 0, 1) := by decide +kernel
theorem dX10_answerOne_75 : decode cX10_answerOne 75 = .ok (.getfield 49, 3) := by decide +kernel
theorem dX10_answerOne_78 : decode cX10_answerOne 78 = .ok (.iload_n 1, 1) := by decide +kernel
theorem dX10_answerOne_79 : decode cX10_answerOne 79 = .ok (.iconst 0, 1) := by decide +kernel
theorem dX10_answerOne_80 : decode cX10_answerOne 80 = .ok (.iastore, 1) := by decide +kernel
theorem dX10_answerOne_81 : decode cX10_answerOne 81 = .ok (.aload_n 0, 1) := by decide +kernel
theorem dX10_answerOne_82 : decode cX10_answerOne 82 = .ok (.getfield 52, 3) := by decide +kernel
theorem dX10_answerOne_85 : decode cX10_answerOne 85 = .ok (.iload_n 1, 1) := by decide +kernel
theorem dX10_answerOne_86 : decode cX10_answerOne 86 = .ok (.iconst 0, 1) := by decide +kernel
theorem dX10_answerOne_87 : decode cX10_answerOne 87 = .ok (.bastore, 1) := by decide +kernel
theorem dX10_answerOne_88 : decode cX10_answerOne 88 = .ok (.iload_n 3, 1) := by decide +kernel
theorem dX10_answerOne_89 : decode cX10_answerOne 89 = .ok (.ifCond .ne 4, 3) := by decide +kernel
theorem dX10_answerOne_92 : decode cX10_answerOne 92 = .ok (.return_, 1) := by decide +kernel
theorem dX10_answerOne_93 : decode cX10_answerOne 93 = .ok (.aload_n 0, 1) := by decide +kernel
theorem dX10_answerOne_94 : decode cX10_answerOne 94 = .ok (.iload_n 1, 1) := by decide +kernel
theorem dX10_answerOne_95 : decode cX10_answerOne 95 = .ok (.aload_n 0, 1) := by decide +kernel
theorem dX10_answerOne_96 : decode cX10_answerOne 96 = .ok (.getfield 65, 3) := by decide +kernel
theorem dX10_answerOne_99 : decode cX10_answerOne 99 = .ok (.iload_n 2, 1) := by decide +kernel
theorem dX10_answerOne_100 : decode cX10_answerOne 100 = .ok (.iaload, 1) := by decide +kernel
theorem dX10_answerOne_101 : decode cX10_answerOne 101 = .ok (.aload_n 0, 1) := by decide +kernel
theorem dX10_answerOne_102 : decode cX10_answerOne 102 = .ok (.getfield 83, 3) := by decide +kernel
theorem dX10_answerOne_105 : decode cX10_answerOne 105 = .ok (.iload_n 2, 1) := by decide +kernel
theorem dX10_answerOne_106 : decode cX10_answerOne 106 = .ok (.iaload, 1) := by decide +kernel
theorem dX10_answerOne_107 : decode cX10_answerOne 107 = .ok (.iconst 0, 1) := by decide +kernel
theorem dX10_answerOne_108 : decode cX10_answerOne 108 = .ok (.aload_n 0, 1) := by decide +kernel
theorem dX10_answerOne_109 : decode cX10_answerOne 109 = .ok (.getfield 71, 3) := by decide +kernel
theorem dX10_answerOne_112 : decode cX10_answerOne 112 = .ok (.iload_n 2, 1) := by decide +kernel
theorem dX10_answerOne_113 : decode cX10_answerOne 113 = .ok (.iaload, 1) := by decide +kernel
theorem dX10_answerOne_114 : decode cX10_answerOne 114 = .ok (.invokevirtual 207, 3) := by decide +kernel
theorem dX10_answerOne_117 : decode cX10_answerOne 117 = .ok (.aload_n 0, 1) := by decide +kernel
theorem dX10_answerOne_118 : decode cX10_answerOne 118 = .ok (.iload_n 1, 1) := by decide +kernel
theorem dX10_answerOne_119 : decode cX10_answerOne 119 = .ok (.invokevirtual 211, 3) := by decide +kernel
theorem dX10_answerOne_122 : decode cX10_answerOne 122 = .ok (.return_, 1) := by decide +kernel
set_option maxHeartbeats 8000000 in
set_option maxRecDepth 100000 in
theorem u_X10_answerOne (l : Launch) (E : EE) (z0 : Nat) (G : Nat → Nat) (hGz : ∀ q, G q ≠ 0 → z0 ≤ q) (h0 : Nat) (rf : Nat → Nat) (hR : MG G h0 rf) (t0 t1 t2 : Int32) (A : AA) (cd pk : Int32) (p0 : Int32) (hI3 : I3 (A 8)) (hI4 : I4 (A 10) (A 20) (A 29) (A 24) (A 11) (A 12) (A 13)) (hI6 : I6 (A 22) (A 23) (A 24) (A 25) (A 26)) (hI8 : I8 (A 20) (A 30) (A 37) (A 36)) (hy0 : 0 ≤ p0.toInt ∧ p0.toInt ≤ 3) (hy1 : ∀ n : Nat, (n : Int) = p0.toInt → ((A 10) n).toInt = 1 ∧ ((A 13) n).toInt ≠ ((A 12) n).toInt) : Met l yX10_answerOne [Cond.code yX10_answerOne cX10_answerOne 4 none] ({ frames := 2, cells := 0, slots := 0, locals := 47 } : Room) (va_Pc [.ref h0, .int p0] (fun U => MH E h0 rf t0 t1 t2 A cd pk U.heap ∧ KS E z0 U)) (va_Qv (fun (u : (Nat → Int32) × (Nat → Int32) × (Nat → Int32) × (Nat → Int32) × (Nat → Int32) × (Nat → Int32) × (Nat → Int32) × (Nat → Int32) × (Nat → Int32) × (Nat → Int32) × (Nat → Int32) × (Nat → Int32) × (Nat → Int32) × (Nat → Int32) × (Nat → Int32) × (Nat → Int32)) => (I3 (u.1)) ∧ (I4 (A 10) (u.2.2.2.2.2.2.2.1) (u.2.2.2.2.2.2.2.2.2.2.2.2.2.2.2) (u.2.2.2.2.2.2.2.2.2.2.1) (A 11) (u.2.2.1) (A 13)) ∧ (I6 (u.2.2.2.2.2.2.2.2.1) (u.2.2.2.2.2.2.2.2.2.1) (u.2.2.2.2.2.2.2.2.2.2.1) (u.2.2.2.2.2.2.2.2.2.2.2.1) (u.2.2.2.2.2.2.2.2.2.2.2.2.1)) ∧ (I8 (u.2.2.2.2.2.2.2.1) (A 30) (A 37) (A 36)) ∧ (∀ n : Nat, (n : Int) = p0.toInt → (farI ((u.2.2.1) n) ((A 13) n)).toInt = (farI ((A 12) n) ((A 13) n)).toInt - 1) ∧ (D_X10_answerOne A cd pk p0 (uA (uA (uA (uA (uA (uA (uA (uA (uA (uA (uA (uA (uA (uA (uA (uA A 8 (u.1)) 9 (u.2.1)) 12 (u.2.2.1)) 15 (u.2.2.2.1)) 16 (u.2.2.2.2.1)) 17 (u.2.2.2.2.2.1)) 18 (u.2.2.2.2.2.2.1)) 20 (u.2.2.2.2.2.2.2.1)) 22 (u.2.2.2.2.2.2.2.2.1)) 23 (u.2.2.2.2.2.2.2.2.2.1)) 24 (u.2.2.2.2.2.2.2.2.2.2.1)) 25 (u.2.2.2.2.2.2.2.2.2.2.2.1)) 26 (u.2.2.2.2.2.2.2.2.2.2.2.2.1)) 27 (u.2.2.2.2.2.2.2.2.2.2.2.2.2.1)) 28 (u.2.2.2.2.2.2.2.2.2.2.2.2.2.2.1)) 29 (u.2.2.2.2.2.2.2.2.2.2.2.2.2.2.2)) cd pk)) (fun u t => MH E h0 rf t0 t1 t2 (uA (uA (uA (uA (uA (uA (uA (uA (uA (uA (uA (uA (uA (uA (uA (uA A 8 (u.1)) 9 (u.2.1)) 12 (u.2.2.1)) 15 (u.2.2.2.1)) 16 (u.2.2.2.2.1)) 17 (u.2.2.2.2.2.1)) 18 (u.2.2.2.2.2.2.1)) 20 (u.2.2.2.2.2.2.2.1)) 22 (u.2.2.2.2.2.2.2.2.1)) 23 (u.2.2.2.2.2.2.2.2.2.1)) 24 (u.2.2.2.2.2.2.2.2.2.2.1)) 25 (u.2.2.2.2.2.2.2.2.2.2.2.1)) 26 (u.2.2.2.2.2.2.2.2.2.2.2.2.1)) 27 (u.2.2.2.2.2.2.2.2.2.2.2.2.2.1)) 28 (u.2.2.2.2.2.2.2.2.2.2.2.2.2.2.1)) 29 (u.2.2.2.2.2.2.2.2.2.2.2.2.2.2.2)) cd pk t.heap) (fun q : Nat => G q ≠ 0)) 0 0 (fun q : Nat => G q ≠ 0) := by
  refine Met.ofW (cc := cX10_answerOne) (maxL := 4) (ret := none) (by decide) rfl ?_
  intro p e s m args below meth c s₁ B hml hv
  obtain ⟨rfl, hM, hK⟩ := hv
  have hx := B.exec
  have hb := B.bytes
  have hr := B.returns
  have hts : ∀ w ∈ TS, w.before ([.ref h0, .int p0] : List Value).toArray s = true := fun w hw => hK.2.1 w hw _
  have hown : s.vm.findClass RX10 = some m.cls := findClass_of_methodNamed B.named
  have hlocks := B.notSynchronized
  have hS : va_S (fun q : Nat => G q ≠ 0) s.heap s.heap [] := va_S.rf
  have hAz : ∀ q, (fun q : Nat => G q ≠ 0) q → z0 ≤ q := hGz
  have hl := lv_entry ([.ref h0, .int p0]) (n := 4) (Nat.le_of_ble_eq_true rfl)
  rw [lg_entry_eq]
  generalize (lg_sl ([.ref h0, .int p0]) ++ List.replicate (4 - (lg_sl ([.ref h0, .int p0])).length) Slot.unset).toArray = ls at hl ⊢
  have hl : lv_has ls 4 [(0, .ref h0), (1, .int p0)] := hl
  obtain ⟨n_1, hn_1, en_1⟩ := s_nat (x := p0) (by omega)
  obtain ⟨hst0, hne0⟩ := hy1 n_1 (by omega)
  have hP0 := (hI4 n_1 (by omega)).1 hst0
  have rg0 := hP0.rng
  have hr4 : ((A 20) n_1).toInt ≤ 4 := (hI8 n_1 (by omega)).2.1
  refine lv_aload_n hx hb dX10_answerOne_0 rfl (lv_at hl 0 rfl) ?_
  refine lv_iload_n hx hb dX10_answerOne_1 rfl (lv_at hl 1 rfl) ?_
  refine lv_aload_n hx hb dX10_answerOne_2 rfl (lv_at hl 0 rfl) ?_
  refine va_get (D := DG E) (ci := 10) (v := .ref (rf 12)) (C := RX10) (T := TX10) (N := 49) hx hb hts iw_X10 hown hK.1 (va_one hM.1) 0 rfl rfl 12 (by decide) (hts _ fl_X10_34) (fun _ h9 => h9) rfl dX10_answerOne_3 ?_
  refine lv_iload_n hx hb dX10_answerOne_6 rfl (lv_at hl 1 rfl) ?_
  have hi_2 : vp_in p0 4 := vp_in_iff.mpr (by omega)
  have ha_3 : va_at (DG E) vwCl (rf 12, .inl (E.2.2 0, 4, .inl (A 12))) _ := hM.2 12 (by decide) (by decide) (by decide)
  refine va_iald (D := DG E) hx hb hK.1 (va_one ha_3) 0 0 rfl rfl hi_2 dX10_answerOne_7 ?_
  refine W.eq (g2 := F0 m 8 ls [.int ((A 12) n_1), .int p0, .ref h0]) (by rw [en_1]) ?_
  refine va_calli (rnV (fun H => MH E h0 rf t0 t1 t2 A cd pk H) (As := [.int p0, .int ((A 12) n_1)]) (rest := []) ⟨hx, hb, hml, hown, hts⟩ (u_X10_requestOf l E z0 G hGz h0 rf hR t0 t1 t2 A cd pk p0 ((A 12) n_1) hI6 (show 0 ≤ p0.toInt ∧ p0.toInt ≤ 3 from by first | decide | omega)) (cwV 2 hts (gdV ml_X10_196 im_X10_requestOf se_X10_X10_requestOf in_X10 co_X10_requestOf rfl) rfl rfl rfl (by decide +kernel) ⟨Nat.le_of_ble_eq_true rfl, Nat.le_of_ble_eq_true rfl⟩) hM (fun U hU hW => hK.go hW hS hAz hU) (va_recv hK.1 (va_one hM.1) (ci := 10) (q0 := 0) rfl rfl) rfl rfl hl.1 rfl (lv_room (Nat.le_of_ble_eq_true rfl)) dX10_answerOne_8 ⟨Nat.le_of_ble_eq_true rfl, Nat.le_of_ble_eq_true rfl⟩) hS (fun q _ h => h.elim) (fun q h => h.elim) (fun r_4 ur_4 t H locs ht hvm hwr_4 hB hz hk hS => ?_)
  have hM := hM.kept (fun q hq => hk q hq (fun h => h))
  have hpr_4_0 : 0 ≤ r_4.toInt ∧ r_4.toInt ≤ 15 := hwr_4.1
  have hpr_4_1 : ∀ n : Nat, (n : Int) = p0.toInt → RO (A 29) (A 24) n ((A 12) n_1) r_4.toInt := hwr_4.2
  have iahpr_4_1 := hpr_4_1 n_1 (by omega)
  obtain ⟨er0, h1n, hk0, hk1, hz0, hz1, hfar, hA, hB0⟩ := hP0.ans hne0 iahpr_4_1
  obtain ⟨n_5, hn_5, en_5⟩ := s_nat (x := r_4) (by omega)
  have e9 : n_5 = 4 * n_1 := by omega
  subst e9
  refine lv_istore_n (lv' := [(2, .int r_4), (0, .ref h0), (1, .int p0)]) hx hb dX10_answerOne_11 rfl hl (by decide) rfl (fun ls hl => ?_)
  refine lv_aload_n hx hb dX10_answerOne_12 rfl (lv_at hl 1 rfl) ?_
  refine va_get (D := DG E) (ci := 10) (v := .ref (rf 29)) (C := RX10) (T := TX10) (N := 49) hx hb hts iw_X10 hown hK.1 (va_one hM.1) 0 rfl rfl 29 (by decide) (hts _ fl_X10_86) (fun _ h9 => h9) rfl dX10_answerOne_13 ?_
  refine lv_iload_n hx hb dX10_answerOne_16 rfl (lv_at hl 0 rfl) ?_
  have hi_6 : vp_in r_4 16 := vp_in_iff.mpr (by omega)
  have ha_7 : va_at (DG E) vwCl (rf 29, .inl (E.2.2 0, 16, .inl (A 29))) _ := hM.2 29 (by decide) (by decide) (by decide)
  refine va_iald (D := DG E) hx hb hK.1 (va_one ha_7) 0 0 rfl rfl hi_6 dX10_answerOne_17 ?_
  refine W.eq (g2 := F0 m 18 ls [.int ((A 29) (4 * n_1))]) (by rw [en_5]) ?_
  refine lv_aload_n hx hb dX10_answerOne_18 rfl (lv_at hl 1 rfl) ?_
  refine va_get (D := DG E) (ci := 10) (v := .ref (rf 12)) (C := RX10) (T := TX10) (N := 49) hx hb hts iw_X10 hown hK.1 (va_one hM.1) 0 rfl rfl 12 (by decide) (hts _ fl_X10_34) (fun _ h9 => h9) rfl dX10_answerOne_19 ?_
  refine lv_iload_n hx hb dX10_answerOne_22 rfl (lv_at hl 2 rfl) ?_
  have ha_8 : va_at (DG E) vwCl (rf 12, .inl (E.2.2 0, 4, .inl (A 12))) _ := hM.2 12 (by decide) (by decide) (by decide)
  refine va_iald (D := DG E) hx hb hK.1 (va_one ha_8) 0 0 rfl rfl hi_2 dX10_answerOne_23 ?_
  refine W.eq (g2 := F0 m 24 ls [.int ((A 12) n_1), .int ((A 29) (4 * n_1))]) (by rw [en_1]) ?_
  refine W.callR (W.runS (As := [.int ((A 29) (4 * n_1)), .int ((A 12) n_1)]) (rest := []) ⟨hx, hb, hml, hown, hts⟩ (c_X10_far l (((A 29) (4 * n_1))) (((A 12) n_1))) (cwS 2 hts (gdS ml_X10_174 st_X10_far in_X10 co_X10_far rfl) rfl rfl rfl (by decide +kernel) ⟨Nat.le_of_ble_eq_true rfl, Nat.le_of_ble_eq_true rfl⟩) preEq rfl rfl hl.1 rfl (lv_room (Nat.le_of_ble_eq_true rfl)) dX10_answerOne_24 ⟨Nat.le_of_ble_eq_true rfl, Nat.le_of_ble_eq_true rfl⟩) ?_
  refine W.eq (g2 := F0 m 27 ls [.int (((((A 12) n_1) - ((A 29) (4 * n_1))) + 64) - ((((A 12) n_1) - ((A 29) (4 * n_1))) + 64) / 64 * 64)]) (by rfl) ?_
  refine lv_topi (fun x_9 ex_9 => ?_)
  have kx_9 : x_9.toInt = (farI ((A 29) (4 * n_1)) ((A 12) n_1)).toInt := by rw [ex_9]; rfl
  refine lv_aload_n hx hb dX10_answerOne_27 rfl (lv_at hl 1 rfl) ?_
  refine lv_iload_n hx hb dX10_answerOne_28 rfl (lv_at hl 0 rfl) ?_
  refine va_calli (rnV (fun H => MH E h0 rf t0 t1 t2 A cd pk H) (As := [.int r_4]) (rest := [.int x_9]) ⟨hx, hb, hml, hown, hts⟩ (u_X10_numbersOf l E z0 G hGz h0 rf hR t0 t1 t2 A cd pk r_4 hI6 (show 0 ≤ r_4.toInt ∧ r_4.toInt ≤ 15 from by first | decide | omega)) (cwV 1 hts (gdV ml_X10_178 im_X10_numbersOf se_X10_X10_numbersOf in_X10 co_X10_numbersOf rfl) rfl rfl rfl (by decide +kernel) ⟨Nat.le_of_ble_eq_true rfl, Nat.le_of_ble_eq_true rfl⟩) hM (fun U hU hW => hK.go hW hS hAz hU) (va_recv hK.1 (va_one hM.1) (ci := 10) (q0 := 0) rfl rfl) rfl rfl hl.1 rfl (lv_room (Nat.le_of_ble_eq_true rfl)) dX10_answerOne_29 ⟨Nat.le_of_ble_eq_true rfl, Nat.le_of_ble_eq_true rfl⟩) hS (fun q _ h => h.elim) (fun q h => h.elim) (fun r_10 ur_10 t H locs ht hvm hwr_10 hB hz hk hS => ?_)
  have hM := hM.kept (fun q hq => hk q hq (fun h => h))
  have hDr_10 : D_X10_numbersOf A cd pk r_4 r_10 := hwr_10.2.2
  have hpr_10_0 : 0 ≤ r_10.toInt ∧ r_10.toInt ≤ 3 := hwr_10.1
  have hpr_10_1 : ∀ n : Nat, (n : Int) = r_4.toInt → r_10.toInt = NB (A 24) n := hwr_10.2.1
  have iahpr_10_1 := hpr_10_1 (4 * n_1) (by omega)
  refine lv_iconst (v := 1) hx hb dX10_answerOne_32 (by decide) ?_
  refine lv_isub hx hb dX10_answerOne_33 ?_
  refine lv_topi (fun x_11 ex_11 => ?_)
  have fx_11 : x_11.toInt = r_10.toInt - 1 := by have h9 := s_sub (x := r_10) (y := 1) (by rw [i_1]; omega) (by rw [i_1]; omega); rw [i_1] at h9; rw [ex_11]; exact h9
  refine lv_icmp_ne (tgt := 41) hx hb dX10_answerOne_34 (by decide) (fun c_12 => ?_) (fun c_12 => ?_)
  · simp only [lt_I, le_I, eq_I, i_0, i_1, i_2, i_3, i_4, i_5, i_6, i_7, i_8, i_10, i_12, i_16, i_20, i_23, i_24, i_31, i_32, i_63, i_64, i_m1, i_9, i_11, i_13, i_25, i_60, i_75, i_79, i_80, i_96, i_100] at c_12
    refine lv_iconst (v := 0) hx hb dX10_answerOne_41 (by decide) ?_
    refine lv_istore_n (lv' := [(3, .int 0), (2, .int r_4), (0, .ref h0), (1, .int p0)]) hx hb dX10_answerOne_42 rfl hl (by decide) rfl (fun ls hl => ?_)
    refine lv_aload_n hx hb dX10_answerOne_43 rfl (lv_at hl 2 rfl) ?_
    refine va_get (D := DG E) (ci := 10) (v := .ref (rf 12)) (C := RX10) (T := TX10) (N := 49) hx hb hts iw_X10 hown hK.1 (va_one hM.1) 0 rfl rfl 12 (by decide) (hts _ fl_X10_34) (fun _ h9 => h9) rfl dX10_answerOne_44 ?_
    refine lv_iload_n hx hb dX10_answerOne_47 rfl (lv_at hl 3 rfl) ?_
    refine lv_aload_n hx hb dX10_answerOne_48 rfl (lv_at hl 2 rfl) ?_
    refine va_get (D := DG E) (ci := 10) (v := .ref (rf 12)) (C := RX10) (T := TX10) (N := 49) hx hb hts iw_X10 hown hK.1 (va_one hM.1) 0 rfl rfl 12 (by decide) (hts _ fl_X10_34) (fun _ h9 => h9) rfl dX10_answerOne_49 ?_
    refine lv_iload_n hx hb dX10_answerOne_52 rfl (lv_at hl 3 rfl) ?_
    have ha_13 : va_at (DG E) vwCl (rf 12, .inl (E.2.2 0, 4, .inl (A 12))) _ := hM.2 12 (by decide) (by decide) (by decide)
    refine va_iald (D := DG E) hx hb hK.1 (va_one ha_13) 0 0 rfl rfl hi_2 dX10_answerOne_53 ?_
    refine W.eq (g2 := F0 m 54 ls [.int ((A 12) n_1), .int p0, .ref (rf 12)]) (by rw [en_1]) ?_
    refine lv_iconst (v := 1) hx hb dX10_answerOne_54 (by decide) ?_
    refine lv_iadd hx hb dX10_answerOne_55 ?_
    refine lv_topi (fun x_14 ex_14 => ?_)
    have fx_14 : x_14.toInt = ((A 12) n_1).toInt + 1 := by have h9 := s_add (x := ((A 12) n_1)) (y := 1) (by rw [i_1]; omega) (by rw [i_1]; omega); rw [i_1] at h9; rw [ex_14]; exact h9
    refine lv_bipush (v := 64) hx hb dX10_answerOne_56 (by decide) ?_
    refine lv_irem hx hb dX10_answerOne_58 (by decide) ?_
    refine lv_topi (fun x_15 ex_15 => ?_)
    have fx_15 : x_15.toInt = x_14.toInt % 64 := by have h9 := s_rem (x := x_14) 64 (by decide) (by decide) (by omega); rw [ex_15]; exact h9
    have ha_16 : va_at (DG E) vwCl (rf 12, .inl (E.2.2 0, 4, .inl (A 12))) _ := hM.2 12 (by decide) (by decide) (by decide)
    refine rr_iast (D := DG E) hx hb hK.1 0 ha_16 hS (by show G (rf 12) ≠ 0; rw [hR.2 12 (by decide) (by decide) (by decide)]; decide) rfl hi_2 dX10_answerOne_59 (fun H locs hn ho hz hS => ?_)
    rw [en_1] at hn
    obtain ⟨g_16, eg_16⟩ : ∃ z : Nat → Int32, z = upd (A 12) n_1 x_15 := ⟨_, rfl⟩
    have sg_16 : g_16 n_1 = x_15 := by rw [eg_16]; exact upd_s
    have ng_16 : ∀ k, k ≠ n_1 → g_16 k = (A 12) k := fun k hk => by rw [eg_16]; exact upd_n hk
    have hn : va_at (DG E) vwCl (rf 12, .inl (E.2.2 0, 4, .inl g_16)) H := by rw [eg_16]; exact hn
    have hM : MH E h0 rf t0 t1 t2 (uA A 12 g_16) cd pk H := hM.w hR 12 (by decide) (by decide) (by decide) hn ho
    refine lv_aload_n hx hb dX10_answerOne_60 rfl (lv_at hl 2 rfl) ?_
    refine va_get (D := DG E) (ci := 10) (v := .ref (rf 15)) (C := RX10) (T := TX10) (N := 49) hx hb hts iw_X10 hown hK.1 (va_one hM.1) 0 rfl rfl 15 (by decide) (hts _ fl_X10_43) (fun _ h9 => h9) rfl dX10_answerOne_61 ?_
    refine lv_iload_n hx hb dX10_answerOne_64 rfl (lv_at hl 3 rfl) ?_
    refine lv_iconst (v := 0) hx hb dX10_answerOne_65 (by decide) ?_
    have ha_17 : va_at (DG E) vwCl (rf 15, .inl (E.2.2 0, 4, .inl (A 15))) _ := hM.2 15 (by decide) (by decide) (by decide)
    refine rr_iast (D := DG E) hx hb hK.1 0 ha_17 hS (by show G (rf 15) ≠ 0; rw [hR.2 15 (by decide) (by decide) (by decide)]; decide) rfl hi_2 dX10_answerOne_66 (fun H locs hn ho hz hS => ?_)
    rw [en_1] at hn
    obtain ⟨g_17, eg_17⟩ : ∃ z : Nat → Int32, z = upd (A 15) n_1 0 := ⟨_, rfl⟩
    have sg_17 : g_17 n_1 = 0 := by rw [eg_17]; exact upd_s
    have ng_17 : ∀ k, k ≠ n_1 → g_17 k = (A 15) k := fun k hk => by rw [eg_17]; exact upd_n hk
    have hn : va_at (DG E) vwCl (rf 15, .inl (E.2.2 0, 4, .inl g_17)) H := by rw [eg_17]; exact hn
    have hM : MH E h0 rf t0 t1 t2 (uA (uA A 12 g_16) 15 g_17) cd pk H := hM.w hR 15 (by decide) (by decide) (by decide) hn ho
    refine lv_aload_n hx hb dX10_answerOne_67 rfl (lv_at hl 2 rfl) ?_
    refine va_get (D := DG E) (ci := 10) (v := .ref (rf 16)) (C := RX10) (T := TX10) (N := 49) hx hb hts iw_X10 hown hK.1 (va_one hM.1) 0 rfl rfl 16 (by decide) (hts _ fl_X10_46) (fun _ h9 => h9) rfl dX10_answerOne_68 ?_
    refine lv_iload_n hx hb dX10_answerOne_71 rfl (lv_at hl 3 rfl) ?_
    refine lv_iconst (v := 0) hx hb dX10_answerOne_72 (by decide) ?_
    have ha_18 : va_at (DG E) vwCl (rf 16, .inl (E.2.2 0, 4, .inl (A 16))) _ := hM.2 16 (by decide) (by decide) (by decide)
    refine rr_iast (D := DG E) hx hb hK.1 0 ha_18 hS (by show G (rf 16) ≠ 0; rw [hR.2 16 (by decide) (by decide) (by decide)]; decide) rfl hi_2 dX10_answerOne_73 (fun H locs hn ho hz hS => ?_)
    rw [en_1] at hn
    obtain ⟨g_18, eg_18⟩ : ∃ z : Nat → Int32, z = upd (A 16) n_1 0 := ⟨_, rfl⟩
    have sg_18 : g_18 n_1 = 0 := by rw [eg_18]; exact upd_s
    have ng_18 : ∀ k, k ≠ n_1 → g_18 k = (A 16) k := fun k hk => by rw [eg_18]; exact upd_n hk
    have hn : va_at (DG E) vwCl (rf 16, .inl (E.2.2 0, 4, .inl g_18)) H := by rw [eg_18]; exact hn
    have hM : MH E h0 rf t0 t1 t2 (uA (uA (uA A 12 g_16) 15 g_17) 16 g_18) cd pk H := hM.w hR 16 (by decide) (by decide) (by decide) hn ho
    refine lv_aload_n hx hb dX10_answerOne_74 rfl (lv_at hl 2 rfl) ?_
    refine va_get (D := DG E) (ci := 10) (v := .ref (rf 17)) (C := RX10) (T := TX10) (N := 49) hx hb hts iw_X10 hown hK.1 (va_one hM.1) 0 rfl rfl 17 (by decide) (hts _ fl_X10_49) (fun _ h9 => h9) rfl dX10_answerOne_75 ?_
    refine lv_iload_n hx hb dX10_answerOne_78 rfl (lv_at hl 3 rfl) ?_
    refine lv_iconst (v := 0) hx hb dX10_answerOne_79 (by decide) ?_
    have ha_19 : va_at (DG E) vwCl (rf 17, .inl (E.2.2 0, 4, .inl (A 17))) _ := hM.2 17 (by decide) (by decide) (by decide)
    refine rr_iast (D := DG E) hx hb hK.1 0 ha_19 hS (by show G (rf 17) ≠ 0; rw [hR.2 17 (by decide) (by decide) (by decide)]; decide) rfl hi_2 dX10_answerOne_80 (fun H locs hn ho hz hS => ?_)
    rw [en_1] at hn
    obtain ⟨g_19, eg_19⟩ : ∃ z : Nat → Int32, z = upd (A 17) n_1 0 := ⟨_, rfl⟩
    have sg_19 : g_19 n_1 = 0 := by rw [eg_19]; exact upd_s
    have ng_19 : ∀ k, k ≠ n_1 → g_19 k = (A 17) k := fun k hk => by rw [eg_19]; exact upd_n hk
    have hn : va_at (DG E) vwCl (rf 17, .inl (E.2.2 0, 4, .inl g_19)) H := by rw [eg_19]; exact hn
    have hM : MH E h0 rf t0 t1 t2 (uA (uA (uA (uA A 12 g_16) 15 g_17) 16 g_18) 17 g_19) cd pk H := hM.w hR 17 (by decide) (by decide) (by decide) hn ho
    refine lv_aload_n hx hb dX10_answerOne_81 rfl (lv_at hl 2 rfl) ?_
    refine va_get (D := DG E) (ci := 10) (v := .ref (rf 18)) (C := RX10) (T := TX10) (N := 49) hx hb hts iw_X10 hown hK.1 (va_one hM.1) 0 rfl rfl 18 (by decide) (hts _ fl_X10_52) (fun _ h9 => h9) rfl dX10_answerOne_82 ?_
    refine lv_iload_n hx hb dX10_answerOne_85 rfl (lv_at hl 3 rfl) ?_
    refine lv_iconst (v := 0) hx hb dX10_answerOne_86 (by decide) ?_
    have ha_20 : va_at (DG E) vwCl (rf 18, .inl (E.2.2 1, 4, .inl (A 18))) _ := hM.2 18 (by decide) (by decide) (by decide)
    refine rr_zast (D := DG E) hx hb hK.1 1 ha_20 hS (by show G (rf 18) ≠ 0; rw [hR.2 18 (by decide) (by decide) (by decide)]; decide) rfl hi_2 dX10_answerOne_87 (fun H locs hn ho hz hS => ?_)
    rw [en_1] at hn
    obtain ⟨g_20, eg_20⟩ : ∃ z : Nat → Int32, z = upd (A 18) n_1 0 := ⟨_, rfl⟩
    have sg_20 : g_20 n_1 = 0 := by rw [eg_20]; exact upd_s
    have ng_20 : ∀ k, k ≠ n_1 → g_20 k = (A 18) k := fun k hk => by rw [eg_20]; exact upd_n hk
    have hn : va_at (DG E) vwCl (rf 18, .inl (E.2.2 1, 4, .inl g_20)) H := by rw [eg_20]; exact hn
    have hM : MH E h0 rf t0 t1 t2 (uA (uA (uA (uA (uA A 12 g_16) 15 g_17) 16 g_18) 17 g_19) 18 g_20) cd pk H := hM.w hR 18 (by decide) (by decide) (by decide) hn ho
    refine lv_iload_n hx hb dX10_answerOne_88 rfl (lv_at hl 0 rfl) ?_
    refine lv_if_ne (tgt := 93) hx hb dX10_answerOne_89 (by decide) (fun c_21 => absurd c_21 (by decide)) (fun c_21 => ?_)
    have hI4_22 : I4 (A 10) (A 20) (A 29) (A 24) (A 11) g_16 (A 13) := by
      intro k hk
      by_cases e : k = n_1
      · rw [e]
        exact ⟨fun _ => hA (by omega) _ (by rw [sg_16]; omega), Or.inl hst0⟩
      · exact (hI4 k hk).cg rfl rfl (fun _ _ => rfl) (fun _ _ => rfl) rfl (ng_16 k e) rfl
    exact W.vret hx hb hr (fun t ht hW => ⟨⟨((A 8), (A 9), g_16, g_17, g_18, g_19, g_20, (A 20), (A 22), (A 23), (A 24), (A 25), (A 26), (A 27), (A 28), (A 29)), rfl, ⟨hI3, hI4_22, hI6, hI8, (show ∀ n : Nat, (n : Int) = p0.toInt → (farI (g_16 n) ((A 13) n)).toInt = (farI ((A 12) n) ((A 13) n)).toInt - 1 from (fun n hn => by
        obtain rfl : n_1 = n := by omega
        exact hfar _ (by rw [sg_16]; omega))), (Or.inl ⟨n_1, hn_1, r_4, hpr_4_0, hpr_4_1, hn_5, x_9, ex_9, r_10, hDr_10, hpr_10_0, hpr_10_1, x_11, ex_11, fx_11, c_12, x_14, ex_14, fx_14, x_15, ex_15, fx_15, g_16, eg_16, g_17, eg_17, g_18, eg_18, g_19, eg_19, g_20, eg_20, rfl, rfl, rfl⟩)⟩, (by show MH E h0 rf t0 t1 t2 (uA (uA (uA (uA (uA (uA (uA (uA (uA (uA (uA (uA (uA (uA (uA (uA A 8 (A 8)) 9 (A 9)) 12 g_16) 15 g_17) 16 g_18) 17 g_19) 18 g_20) 20 (A 20)) 22 (A 22)) 23 (A 23)) 24 (A 24)) 25 (A 25)) 26 (A 26)) 27 (A 27)) 28 (A 28)) 29 (A 29)) cd pk t.heap; rw [ht]; exact hM.cg9 rfl rfl rfl rfl rfl rfl rfl rfl rfl rfl rfl rfl rfl rfl rfl rfl rfl rfl rfl rfl rfl rfl rfl rfl rfl rfl rfl rfl rfl rfl rfl rfl rfl rfl rfl rfl rfl rfl rfl rfl rfl rfl rfl rfl)⟩, hS.F ht⟩) hS.2.2 dX10_answerOne_92
  · simp only [lt_I, le_I, eq_I, i_0, i_1, i_2, i_3, i_4, i_5, i_6, i_7, i_8, i_10, i_12, i_16, i_20, i_23, i_24, i_31, i_32, i_63, i_64, i_m1, i_9, i_11, i_13, i_25, i_60, i_75, i_79, i_80, i_96, i_100] at c_12
    refine lv_iconst (v := 1) hx hb dX10_answerOne_37 (by decide) ?_
    refine lv_goto (tgt := 42) hx hb dX10_answerOne_38 (by decide) ?_
    refine lv_istore_n (lv' := [(3, .int 1), (2, .int r_4), (0, .ref h0), (1, .int p0)]) hx hb dX10_answerOne_42 rfl hl (by decide) rfl (fun ls hl => ?_)
    refine lv_aload_n hx hb dX10_answerOne_43 rfl (lv_at hl 2 rfl) ?_
    refine va_get (D := DG E) (ci := 10) (v := .ref (rf 12)) (C := RX10) (T := TX10) (N := 49) hx hb hts iw_X10 hown hK.1 (va_one hM.1) 0 rfl rfl 12 (by decide) (hts _ fl_X10_34) (fun _ h9 => h9) rfl dX10_answerOne_44 ?_
    refine lv_iload_n hx hb dX10_answerOne_47 rfl (lv_at hl 3 rfl) ?_
    refine lv_aload_n hx hb dX10_answerOne_48 rfl (lv_at hl 2 rfl) ?_
    refine va_get (D := DG E) (ci := 10) (v := .ref (rf 12)) (C := RX10) (T := TX10) (N := 49) hx hb hts iw_X10 hown hK.1 (va_one hM.1) 0 rfl rfl 12 (by decide) (hts _ fl_X10_34) (fun _ h9 => h9) rfl dX10_answerOne_49 ?_
    refine lv_iload_n hx hb dX10_answerOne_52 rfl (lv_at hl 3 rfl) ?_
    have ha_23 : va_at (DG E) vwCl (rf 12, .inl (E.2.2 0, 4, .inl (A 12))) _ := hM.2 12 (by decide) (by decide) (by decide)
    refine va_iald (D := DG E) hx hb hK.1 (va_one ha_23) 0 0 rfl rfl hi_2 dX10_answerOne_53 ?_
    refine W.eq (g2 := F0 m 54 ls [.int ((A 12) n_1), .int p0, .ref (rf 12)]) (by rw [en_1]) ?_
    refine lv_iconst (v := 1) hx hb dX10_answerOne_54 (by decide) ?_
    refine lv_iadd hx hb dX10_answerOne_55 ?_
    refine lv_topi (fun x_24 ex_24 => ?_)
    have fx_24 : x_24.toInt = ((A 12) n_1).toInt + 1 := by have h9 := s_add (x := ((A 12) n_1)) (y := 1) (by rw [i_1]; omega) (by rw [i_1]; omega); rw [i_1] at h9; rw [ex_24]; exact h9
    refine lv_bipush (v := 64) hx hb dX10_answerOne_56 (by decide) ?_
    refine lv_irem hx hb dX10_answerOne_58 (by decide) ?_
    refine lv_topi (fun x_25 ex_25 => ?_)
    have fx_25 : x_25.toInt = x_24.toInt % 64 := by have h9 := s_rem (x := x_24) 64 (by decide) (by decide) (by omega); rw [ex_25]; exact h9
    have ha_26 : va_at (DG E) vwCl (rf 12, .inl (E.2.2 0, 4, .inl (A 12))) _ := hM.2 12 (by decide) (by decide) (by decide)
    refine rr_iast (D := DG E) hx hb hK.1 0 ha_26 hS (by show G (rf 12) ≠ 0; rw [hR.2 12 (by decide) (by decide) (by decide)]; decide) rfl hi_2 dX10_answerOne_59 (fun H locs hn ho hz hS => ?_)
    rw [en_1] at hn
    obtain ⟨g_26, eg_26⟩ : ∃ z : Nat → Int32, z = upd (A 12) n_1 x_25 := ⟨_, rfl⟩
    have sg_26 : g_26 n_1 = x_25 := by rw [eg_26]; exact upd_s
    have ng_26 : ∀ k, k ≠ n_1 → g_26 k = (A 12) k := fun k hk => by rw [eg_26]; exact upd_n hk
    have hn : va_at (DG E) vwCl (rf 12, .inl (E.2.2 0, 4, .inl g_26)) H := by rw [eg_26]; exact hn
    have hM : MH E h0 rf t0 t1 t2 (uA A 12 g_26) cd pk H := hM.w hR 12 (by decide) (by decide) (by decide) hn ho
    refine lv_aload_n hx hb dX10_answerOne_60 rfl (lv_at hl 2 rfl) ?_
    refine va_get (D := DG E) (ci := 10) (v := .ref (rf 15)) (C := RX10) (T := TX10) (N := 49) hx hb hts iw_X10 hown hK.1 (va_one hM.1) 0 rfl rfl 15 (by decide) (hts _ fl_X10_43) (fun _ h9 => h9) rfl dX10_answerOne_61 ?_
    refine lv_iload_n hx hb dX10_answerOne_64 rfl (lv_at hl 3 rfl) ?_
    refine lv_iconst (v := 0) hx hb dX10_answerOne_65 (by decide) ?_
    have ha_27 : va_at (DG E) vwCl (rf 15, .inl (E.2.2 0, 4, .inl (A 15))) _ := hM.2 15 (by decide) (by decide) (by decide)
    refine rr_iast (D := DG E) hx hb hK.1 0 ha_27 hS (by show G (rf 15) ≠ 0; rw [hR.2 15 (by decide) (by decide) (by decide)]; decide) rfl hi_2 dX10_answerOne_66 (fun H locs hn ho hz hS => ?_)
    rw [en_1] at hn
    obtain ⟨g_27, eg_27⟩ : ∃ z : Nat → Int32, z = upd (A 15) n_1 0 := ⟨_, rfl⟩
    have sg_27 : g_27 n_1 = 0 := by rw [eg_27]; exact upd_s
    have ng_27 : ∀ k, k ≠ n_1 → g_27 k = (A 15) k := fun k hk => by rw [eg_27]; exact upd_n hk
    have hn : va_at (DG E) vwCl (rf 15, .inl (E.2.2 0, 4, .inl g_27)) H := by rw [eg_27]; exact hn
    have hM : MH E h0 rf t0 t1 t2 (uA (uA A 12 g_26) 15 g_27) cd pk H := hM.w hR 15 (by decide) (by decide) (by decide) hn ho
    refine lv_aload_n hx hb dX10_answerOne_67 rfl (lv_at hl 2 rfl) ?_
    refine va_get (D := DG E) (ci := 10) (v := .ref (rf 16)) (C := RX10) (T := TX10) (N := 49) hx hb hts iw_X10 hown hK.1 (va_one hM.1) 0 rfl rfl 16 (by decide) (hts _ fl_X10_46) (fun _ h9 => h9) rfl dX10_answerOne_68 ?_
    refine lv_iload_n hx hb dX10_answerOne_71 rfl (lv_at hl 3 rfl) ?_
    refine lv_iconst (v := 0) hx hb dX10_answerOne_72 (by decide) ?_
    have ha_28 : va_at (DG E) vwCl (rf 16, .inl (E.2.2 0, 4, .inl (A 16))) _ := hM.2 16 (by decide) (by decide) (by decide)
    refine rr_iast (D := DG E) hx hb hK.1 0 ha_28 hS (by show G (rf 16) ≠ 0; rw [hR.2 16 (by decide) (by decide) (by decide)]; decide) rfl hi_2 dX10_answerOne_73 (fun H locs hn ho hz hS => ?_)
    rw [en_1] at hn
    obtain ⟨g_28, eg_28⟩ : ∃ z : Nat → Int32, z = upd (A 16) n_1 0 := ⟨_, rfl⟩
    have sg_28 : g_28 n_1 = 0 := by rw [eg_28]; exact upd_s
    have ng_28 : ∀ k, k ≠ n_1 → g_28 k = (A 16) k := fun k hk => by rw [eg_28]; exact upd_n hk
    have hn : va_at (DG E) vwCl (rf 16, .inl (E.2.2 0, 4, .inl g_28)) H := by rw [eg_28]; exact hn
    have hM : MH E h0 rf t0 t1 t2 (uA (uA (uA A 12 g_26) 15 g_27) 16 g_28) cd pk H := hM.w hR 16 (by decide) (by decide) (by decide) hn ho
    refine lv_aload_n hx hb dX10_answerOne_74 rfl (lv_at hl 2 rfl) ?_
    refine va_get (D := DG E) (ci := 10) (v := .ref (rf 17)) (C := RX10) (T := TX10) (N := 49) hx hb hts iw_X10 hown hK.1 (va_one hM.1) 0 rfl rfl 17 (by decide) (hts _ fl_X10_49) (fun _ h9 => h9) rfl dX10_answerOne_75 ?_
    refine lv_iload_n hx hb dX10_answerOne_78 rfl (lv_at hl 3 rfl) ?_
    refine lv_iconst (v := 0) hx hb dX10_answerOne_79 (by decide) ?_
    have ha_29 : va_at (DG E) vwCl (rf 17, .inl (E.2.2 0, 4, .inl (A 17))) _ := hM.2 17 (by decide) (by decide) (by decide)
    refine rr_iast (D := DG E) hx hb hK.1 0 ha_29 hS (by show G (rf 17) ≠ 0; rw [hR.2 17 (by decide) (by decide) (by decide)]; decide) rfl hi_2 dX10_answerOne_80 (fun H locs hn ho hz hS => ?_)
    rw [en_1] at hn
    obtain ⟨g_29, eg_29⟩ : ∃ z : Nat → Int32, z = upd (A 17) n_1 0 := ⟨_, rfl⟩
    have sg_29 : g_29 n_1 = 0 := by rw [eg_29]; exact upd_s
    have ng_29 : ∀ k, k ≠ n_1 → g_29 k = (A 17) k := fun k hk => by rw [eg_29]; exact upd_n hk
    have hn : va_at (DG E) vwCl (rf 17, .inl (E.2.2 0, 4, .inl g_29)) H := by rw [eg_29]; exact hn
    have hM : MH E h0 rf t0 t1 t2 (uA (uA (uA (uA A 12 g_26) 15 g_27) 16 g_28) 17 g_29) cd pk H := hM.w hR 17 (by decide) (by decide) (by decide) hn ho
    refine lv_aload_n hx hb dX10_answerOne_81 rfl (lv_at hl 2 rfl) ?_
    refine va_get (D := DG E) (ci := 10) (v := .ref (rf 18)) (C := RX10) (T := TX10) (N := 49) hx hb hts iw_X10 hown hK.1 (va_one hM.1) 0 rfl rfl 18 (by decide) (hts _ fl_X10_52) (fun _ h9 => h9) rfl dX10_answerOne_82 ?_
    refine lv_iload_n hx hb dX10_answerOne_85 rfl (lv_at hl 3 rfl) ?_
    refine lv_iconst (v := 0) hx hb dX10_answerOne_86 (by decide) ?_
    have ha_30 : va_at (DG E) vwCl (rf 18, .inl (E.2.2 1, 4, .inl (A 18))) _ := hM.2 18 (by decide) (by decide) (by decide)
    refine rr_zast (D := DG E) hx hb hK.1 1 ha_30 hS (by show G (rf 18) ≠ 0; rw [hR.2 18 (by decide) (by decide) (by decide)]; decide) rfl hi_2 dX10_answerOne_87 (fun H locs hn ho hz hS => ?_)
    rw [en_1] at hn
    obtain ⟨g_30, eg_30⟩ : ∃ z : Nat → Int32, z = upd (A 18) n_1 0 := ⟨_, rfl⟩
    have sg_30 : g_30 n_1 = 0 := by rw [eg_30]; exact upd_s
    have ng_30 : ∀ k, k ≠ n_1 → g_30 k = (A 18) k := fun k hk => by rw [eg_30]; exact upd_n hk
    have hn : va_at (DG E) vwCl (rf 18, .inl (E.2.2 1, 4, .inl g_30)) H := by rw [eg_30]; exact hn
    have hM : MH E h0 rf t0 t1 t2 (uA (uA (uA (uA (uA A 12 g_26) 15 g_27) 16 g_28) 17 g_29) 18 g_30) cd pk H := hM.w hR 18 (by decide) (by decide) (by decide) hn ho
    refine lv_iload_n hx hb dX10_answerOne_88 rfl (lv_at hl 0 rfl) ?_
    refine lv_if_ne (tgt := 93) hx hb dX10_answerOne_89 (by decide) (fun c_31 => ?_) (fun c_31 => absurd c_31 (by decide))
    refine lv_aload_n hx hb dX10_answerOne_93 rfl (lv_at hl 2 rfl) ?_
    refine lv_iload_n hx hb dX10_answerOne_94 rfl (lv_at hl 3 rfl) ?_
    refine lv_aload_n hx hb dX10_answerOne_95 rfl (lv_at hl 2 rfl) ?_
    refine va_get (D := DG E) (ci := 10) (v := .ref (rf 22)) (C := RX10) (T := TX10) (N := 49) hx hb hts iw_X10 hown hK.1 (va_one hM.1) 0 rfl rfl 22 (by decide) (hts _ fl_X10_65) (fun _ h9 => h9) rfl dX10_answerOne_96 ?_
    refine lv_iload_n hx hb dX10_answerOne_99 rfl (lv_at hl 1 rfl) ?_
    have ha_32 : va_at (DG E) vwCl (rf 22, .inl (E.2.2 0, 16, .inl (A 22))) _ := hM.2 22 (by decide) (by decide) (by decide)
    refine va_iald (D := DG E) hx hb hK.1 (va_one ha_32) 0 0 rfl rfl hi_6 dX10_answerOne_100 ?_
    refine W.eq (g2 := F0 m 101 ls [.int ((A 22) (4 * n_1)), .int p0, .ref h0]) (by rw [en_5]) ?_
    have hk_33 : (4 * n_1) < 16 := by omega
    have q_34 : 0 ≤ ((A 22) (4 * n_1)).toInt := (hI6 (4 * n_1) hk_33).1
    have q_35 : ((A 22) (4 * n_1)).toInt ≤ 3 := (hI6 (4 * n_1) hk_33).2.1
    refine lv_aload_n hx hb dX10_answerOne_101 rfl (lv_at hl 2 rfl) ?_
    refine va_get (D := DG E) (ci := 10) (v := .ref (rf 28)) (C := RX10) (T := TX10) (N := 49) hx hb hts iw_X10 hown hK.1 (va_one hM.1) 0 rfl rfl 28 (by decide) (hts _ fl_X10_83) (fun _ h9 => h9) rfl dX10_answerOne_102 ?_
    refine lv_iload_n hx hb dX10_answerOne_105 rfl (lv_at hl 1 rfl) ?_
    have ha_36 : va_at (DG E) vwCl (rf 28, .inl (E.2.2 0, 16, .inl (A 28))) _ := hM.2 28 (by decide) (by decide) (by decide)
    refine va_iald (D := DG E) hx hb hK.1 (va_one ha_36) 0 0 rfl rfl hi_6 dX10_answerOne_106 ?_
    refine W.eq (g2 := F0 m 107 ls [.int ((A 28) (4 * n_1)), .int ((A 22) (4 * n_1)), .int p0, .ref h0]) (by rw [en_5]) ?_
    refine lv_iconst (v := 0) hx hb dX10_answerOne_107 (by decide) ?_
    refine lv_aload_n hx hb dX10_answerOne_108 rfl (lv_at hl 2 rfl) ?_
    refine va_get (D := DG E) (ci := 10) (v := .ref (rf 24)) (C := RX10) (T := TX10) (N := 49) hx hb hts iw_X10 hown hK.1 (va_one hM.1) 0 rfl rfl 24 (by decide) (hts _ fl_X10_71) (fun _ h9 => h9) rfl dX10_answerOne_109 ?_
    refine lv_iload_n hx hb dX10_answerOne_112 rfl (lv_at hl 1 rfl) ?_
    have ha_37 : va_at (DG E) vwCl (rf 24, .inl (E.2.2 0, 16, .inl (A 24))) _ := hM.2 24 (by decide) (by decide) (by decide)
    refine va_iald (D := DG E) hx hb hK.1 (va_one ha_37) 0 0 rfl rfl hi_6 dX10_answerOne_113 ?_
    refine W.eq (g2 := F0 m 114 ls [.int ((A 24) (4 * n_1)), .int 0, .int ((A 28) (4 * n_1)), .int ((A 22) (4 * n_1)), .int p0, .ref h0]) (by rw [en_5]) ?_
    have q_38 : 0 ≤ ((A 24) (4 * n_1)).toInt := (hI6 (4 * n_1) hk_33).2.2.2.1
    have q_39 : ((A 24) (4 * n_1)).toInt ≤ 12 := (hI6 (4 * n_1) hk_33).2.2.2.2.1
    have q_40 : ((A 23) (4 * n_1)).toInt + ((A 24) (4 * n_1)).toInt ≤ 32 := (hI6 (4 * n_1) hk_33).2.2.2.2.2.1
    refine va_callv (rnV (fun H => MH E h0 rf t0 t1 t2 (uA (uA (uA (uA (uA A 12 g_26) 15 g_27) 16 g_28) 17 g_29) 18 g_30) cd pk H) (As := [.int p0, .int ((A 22) (4 * n_1)), .int ((A 28) (4 * n_1)), .int 0, .int ((A 24) (4 * n_1))]) (rest := []) ⟨hx, hb, hml, hown, hts⟩ (u_X10_complete l E z0 G hGz h0 rf hR t0 t1 t2 (uA (uA (uA (uA (uA A 12 g_26) 15 g_27) 16 g_28) 17 g_29) 18 g_30) cd pk p0 ((A 22) (4 * n_1)) ((A 28) (4 * n_1)) 0 ((A 24) (4 * n_1)) hI3 (show 0 ≤ p0.toInt ∧ p0.toInt ≤ 3 from by have := i_0; first | decide | omega)) (cwV 5 hts (gdV ml_X10_207 im_X10_complete se_X10_X10_complete in_X10 co_X10_complete rfl) rfl rfl rfl (by decide +kernel) ⟨Nat.le_of_ble_eq_true rfl, Nat.le_of_ble_eq_true rfl⟩) hM (fun U hU hW => hK.go hW hS hAz hU) (va_recv hK.1 (va_one hM.1) (ci := 10) (q0 := 0) rfl rfl) rfl rfl hl.1 rfl (lv_room (Nat.le_of_ble_eq_true rfl)) dX10_answerOne_114 ⟨Nat.le_of_ble_eq_true rfl, Nat.le_of_ble_eq_true rfl⟩) hS (fun q _ h => h) (fun q h => h) (fun ur_41 t H locs ht hvm hwr_41 hB hz hk hS => ?_)
    have hM : MH E h0 rf t0 t1 t2 (uA (uA (uA (uA (uA (uA (uA A 12 g_26) 15 g_27) 16 g_28) 17 g_29) 18 g_30) 8 (ur_41.1)) 9 (ur_41.2)) cd pk H := by rw [ht] at hB; exact hB
    have hDr_41 : D_X10_complete (uA (uA (uA (uA (uA A 12 g_26) 15 g_27) 16 g_28) 17 g_29) 18 g_30) cd pk p0 ((A 22) (4 * n_1)) ((A 28) (4 * n_1)) (0 : Int32) ((A 24) (4 * n_1)) (uA (uA (uA (uA (uA (uA (uA A 12 g_26) 15 g_27) 16 g_28) 17 g_29) 18 g_30) 8 (ur_41.1)) 9 (ur_41.2)) cd pk := hwr_41.2
    have hpr_41_0 : I3 (ur_41.1) := hwr_41.1
    have := i_0
    refine lv_aload_n hx hb dX10_answerOne_117 rfl (lv_at hl 2 rfl) ?_
    refine lv_iload_n hx hb dX10_answerOne_118 rfl (lv_at hl 3 rfl) ?_
    refine va_callv (rnV (fun H => MH E h0 rf t0 t1 t2 (uA (uA (uA (uA (uA (uA (uA A 12 g_26) 15 g_27) 16 g_28) 17 g_29) 18 g_30) 8 (ur_41.1)) 9 (ur_41.2)) cd pk H) (As := [.int p0]) (rest := []) ⟨hx, hb, hml, hown, hts⟩ (u_X10_dropRequest l E z0 G hGz h0 rf hR t0 t1 t2 (uA (uA (uA (uA (uA (uA (uA A 12 g_26) 15 g_27) 16 g_28) 17 g_29) 18 g_30) 8 (ur_41.1)) 9 (ur_41.2)) cd pk p0 hI6 hI8 (show 0 ≤ p0.toInt ∧ p0.toInt ≤ 3 from by first | decide | omega) (show ∀ n : Nat, (n : Int) = p0.toInt → 1 ≤ ((A 20) n).toInt from (fun n hn => by
        obtain rfl : n_1 = n := by omega
        omega))) (cwV 1 hts (gdV ml_X10_211 im_X10_dropRequest se_X10_X10_dropRequest in_X10 co_X10_dropRequest rfl) rfl rfl rfl (by decide +kernel) ⟨Nat.le_of_ble_eq_true rfl, Nat.le_of_ble_eq_true rfl⟩) hM (fun U hU hW => hK.go hW hS hAz hU) (va_recv hK.1 (va_one hM.1) (ci := 10) (q0 := 0) rfl rfl) rfl rfl hl.1 rfl (lv_room (Nat.le_of_ble_eq_true rfl)) dX10_answerOne_119 ⟨Nat.le_of_ble_eq_true rfl, Nat.le_of_ble_eq_true rfl⟩) hS (fun q _ h => h) (fun q h => h) (fun ur_42 t H locs ht hvm hwr_42 hB hz hk hS => ?_)
    have hM : MH E h0 rf t0 t1 t2 (uA (uA (uA (uA (uA (uA (uA (uA (uA (uA (uA (uA (uA (uA (uA (uA A 12 g_26) 15 g_27) 16 g_28) 17 g_29) 18 g_30) 8 (ur_41.1)) 9 (ur_41.2)) 20 (ur_42.1)) 22 (ur_42.2.1)) 23 (ur_42.2.2.1)) 24 (ur_42.2.2.2.1)) 25 (ur_42.2.2.2.2.1)) 26 (ur_42.2.2.2.2.2.1)) 27 (ur_42.2.2.2.2.2.2.1)) 28 (ur_42.2.2.2.2.2.2.2.1)) 29 (ur_42.2.2.2.2.2.2.2.2)) cd pk H := by rw [ht] at hB; exact hB
    have hDr_42 : D_X10_dropRequest (uA (uA (uA (uA (uA (uA (uA A 12 g_26) 15 g_27) 16 g_28) 17 g_29) 18 g_30) 8 (ur_41.1)) 9 (ur_41.2)) cd pk p0 (uA (uA (uA (uA (uA (uA (uA (uA (uA (uA (uA (uA (uA (uA (uA (uA A 12 g_26) 15 g_27) 16 g_28) 17 g_29) 18 g_30) 8 (ur_41.1)) 9 (ur_41.2)) 20 (ur_42.1)) 22 (ur_42.2.1)) 23 (ur_42.2.2.1)) 24 (ur_42.2.2.2.1)) 25 (ur_42.2.2.2.2.1)) 26 (ur_42.2.2.2.2.2.1)) 27 (ur_42.2.2.2.2.2.2.1)) 28 (ur_42.2.2.2.2.2.2.2.1)) 29 (ur_42.2.2.2.2.2.2.2.2)) cd pk := hwr_42.2.2.2
    have hpr_42_0 : I6 (ur_42.2.1) (ur_42.2.2.1) (ur_42.2.2.2.1) (ur_42.2.2.2.2.1) (ur_42.2.2.2.2.2.1) := hwr_42.1
    have hpr_42_1 : I8 (ur_42.1) (A 30) (A 37) (A 36) := hwr_42.2.1
    have hpr_42_2 : ∀ n : Nat, (n : Int) = p0.toInt → ((ur_42.1) n).toInt = ((A 20) n).toInt - 1 ∧ (∀ k, k ≠ n → (ur_42.1) k = (A 20) k) ∧ ∃ b : Nat, (b : Int) = 4 * (n : Int) + ((A 20) n).toInt - 1 ∧ Sh (A 29) (ur_42.2.2.2.2.2.2.2.2) (4 * n) b ∧ Sh (A 24) (ur_42.2.2.2.1) (4 * n) b := hwr_42.2.2.1
    have iahpr_42_2 := hpr_42_2 n_1 (by omega)
    have hI4_43 : I4 (A 10) (ur_42.1) (ur_42.2.2.2.2.2.2.2.2) (ur_42.2.2.2.1) (A 11) g_26 (A 13) := by
      obtain ⟨d1, d2, b9, hb9, s29, s24⟩ := iahpr_42_2
      intro k hk
      by_cases e : k = n_1
      · rw [e]
        exact ⟨fun _ => hB0 (by omega) _ _ _ _ (by rw [sg_26]; omega) d1 (fun i hi => ⟨by rw [s29, if_pos ⟨by omega, by omega⟩], by rw [s24, if_pos ⟨by omega, by omega⟩]⟩), Or.inl hst0⟩
      · exact (hI4 k hk).cg rfl (d2 k e) (fun i hi => by rw [s29, if_neg (by omega)]) (fun i hi => by rw [s24, if_neg (by omega)]) rfl (ng_26 k e) rfl
    exact W.vret hx hb hr (fun t ht hW => ⟨⟨((ur_41.1), (ur_41.2), g_26, g_27, g_28, g_29, g_30, (ur_42.1), (ur_42.2.1), (ur_42.2.2.1), (ur_42.2.2.2.1), (ur_42.2.2.2.2.1), (ur_42.2.2.2.2.2.1), (ur_42.2.2.2.2.2.2.1), (ur_42.2.2.2.2.2.2.2.1), (ur_42.2.2.2.2.2.2.2.2)), rfl, ⟨hpr_41_0, hI4_43, hpr_42_0, hpr_42_1, (show ∀ n : Nat, (n : Int) = p0.toInt → (farI (g_26 n) ((A 13) n)).toInt = (farI ((A 12) n) ((A 13) n)).toInt - 1 from (fun n hn => by
        obtain rfl : n_1 = n := by omega
        exact hfar _ (by rw [sg_26]; omega))), (Or.inr ⟨n_1, hn_1, r_4, hpr_4_0, hpr_4_1, hn_5, x_9, ex_9, r_10, hDr_10, hpr_10_0, hpr_10_1, x_11, ex_11, fx_11, c_12, x_24, ex_24, fx_24, x_25, ex_25, fx_25, g_26, eg_26, g_27, eg_27, g_28, eg_28, g_29, eg_29, g_30, eg_30, ur_41, hDr_41, hpr_41_0, ur_42, hDr_42, hpr_42_0, hpr_42_1, hpr_42_2, rfl, rfl, rfl⟩)⟩, (by show MH E h0 rf t0 t1 t2 (uA (uA (uA (uA (uA (uA (uA (uA (uA (uA (uA (uA (uA (uA (uA (uA A 8 (ur_41.1)) 9 (ur_41.2)) 12 g_26) 15 g_27) 16 g_28) 17 g_29) 18 g_30) 20 (ur_42.1)) 22 (ur_42.2.1)) 23 (ur_42.2.2.1)) 24 (ur_42.2.2.2.1)) 25 (ur_42.2.2.2.2.1)) 26 (ur_42.2.2.2.2.2.1)) 27 (ur_42.2.2.2.2.2.2.1)) 28 (ur_42.2.2.2.2.2.2.2.1)) 29 (ur_42.2.2.2.2.2.2.2.2)) cd pk t.heap; rw [ht]; exact hM.cg9 rfl rfl rfl rfl rfl rfl rfl rfl rfl rfl rfl rfl rfl rfl rfl rfl rfl rfl rfl rfl rfl rfl rfl rfl rfl rfl rfl rfl rfl rfl rfl rfl rfl rfl rfl rfl rfl rfl rfl rfl rfl rfl rfl rfl)⟩, hS.F ht⟩) hS.2.2 dX10_answerOne_122
theorem dX10_answerSome_0 : decode cX10_answerSome 0 = .ok (.iload_n 2, 1) := by decide +kernel
theorem dX10_answerSome_1 : decode cX10_answerSome 1 = .ok (.aload_n 0, 1) := by decide +kernel
theorem dX10_answerSome_2 : decode cX10_answerSome 2 = .ok (.getfield 34, 3) := by decide +kernel
theorem dX10_answerSome_5 : decode cX10_answerSome 5 = .ok (.iload_n 1, 1) := by decide +kernel
theorem dX10_answerSome_6 : decode cX10_answerSome 6 = .ok (.iaload, 1) := by decide +kernel
theorem dX10_answerSome_7 : decode cX10_answerSome 7 = .ok (.aload_n 0, 1) := by decide +kernel
theorem dX10_answerSome_8 : decode cX10_answerSome 8 = .ok (.getfield 37, 3) := by decide +kernel
theorem dX10_answerSome_11 : decode cX10_answerSome 11 = .ok (.iload_n 1, 1) := by decide +kernel
theorem dX10_answerSome_12 : decode cX10_answerSome 12 = .ok (.iaload, 1) := by decide +kernel
theorem dX10_answerSome_13 : decode cX10_answerSome 13 = .ok (.invokestatic 174, 3) := by decide +kernel
theorem dX10_answerSome_16 : decode cX10_answerSome 16 = .ok (.if_icmp .le 4, 3) := by decide +kernel
theorem dX10_answerSome_19 : decode cX10_answerSome 19 = .ok (.return_, 1) := by decide +kernel
theorem dX10_answerSome_20 : decode cX10_answerSome 20 = .ok (.iload_n 2, 1) := by decide +kernel
theorem dX10_answerSome_21 : decode cX10_answerSome 21 = .ok (.istore_n 3, 1) := by decide +kernel
theorem dX10_answerSome_22 : decode cX10_answerSome 22 = .ok (.iload_n 3, 1) := by decide +kernel
theorem dX10_answerSome_23 : decode cX10_answerSome 23 = .ok (.ifCond .le 37, 3) := by decide +kernel
theorem dX10_answerSome_26 : decode cX10_answerSome 26 = .ok (.aload_n 0, 1) := by decide +kernel
theorem dX10_answerSome_27 : decode cX10_answerSome 27 = .ok (.aload_n 0, 1) := by decide +kernel
theorem dX10_answerSome_28 : decode cX10_answerSome 28 = .ok (.iload_n 1, 1) := by decide +kernel
theorem dX10_answerSome_29 : decode cX10_answerSome 29 = .ok (.aload_n 0, 1) := by decide +kernel
theorem dX10_answerSome_30 : decode cX10_answerSome 30 = .ok (.getfield 34, 3) := by decide +kernel
theorem dX10_answerSome_33 : decode cX10_answerSome 33 = .ok (.iload_n 1, 1) := by decide +kernel
theorem dX10_answerSome_34 : decode cX10_answerSome 34 = .ok (.iaload, 1) := by decide +kernel
theorem dX10_answerSome_35 : decode cX10_answerSome 35 = .ok (.invokevirtual 196, 3) := by decide +kernel
theorem dX10_answerSome_38 : decode cX10_answerSome 38 = .ok (.invokevirtual 215, 3) := by decide +kernel
theorem dX10_answerSome_41 : decode cX10_answerSome 41 = .ok (.ifCond .eq 8, 3) := by decide +kernel
theorem dX10_answerSome_44 : decode cX10_answerSome 44 = .ok (.iconst 0, 1) := by decide +kernel
theorem dX10_answerSome_45 : decode cX10_answerSome 45 = .ok (.istore_n 3, 1) := by decide +kernel
theorem dX10_answerSome_46 : decode cX10_answerSome 46 = .ok (.goto 8, 3) := by decide +kernel
theorem dX10_answerSome_49 : decode cX10_answerSome 49 = .ok (.aload_n 0, 1) := by decide +kernel
theorem dX10_answerSome_50 : decode cX10_answerSome 50 = .ok (.iload_n 1, 1) := by decide +kernel
theorem dX10_answerSome_51 : decode cX10_answerSome 51 = .ok (.invokevirtual 218, 3) := by decide +kernel
theorem dX10_answerSome_54 : decode cX10_answerSome 54 = .ok (.iinc 3 (-1), 3) := by decide +kernel
theorem dX10_answerSome_57 : decode cX10_answerSome 57 = .ok (.goto (-35), 3) := by decide +kernel
theorem dX10_answerSome_60 : decode cX10_answerSome 60 = .ok (.return_, 1) := by decide +kernel
set_option maxHeartbeats 8000000 in
set_option maxRecDepth 100000 in
theorem u_X10_answerSome (l : Launch) (E : EE) (z0 : Nat) (G : Nat → Nat) (hGz : ∀ q, G q ≠ 0 → z0 ≤ q) (h0 : Nat) (rf : Nat → Nat) (hR : MG G h0 rf) (t0 t1 t2 : Int32) (A : AA) (cd pk : Int32) (p0 : Int32) (p1 : Int32) (hI3 : I3 (A 8)) (hI4 : I4 (A 10) (A 20) (A 29) (A 24) (A 11) (A 12) (A 13)) (hI6 : I6 (A 22) (A 23) (A 24) (A 25) (A 26)) (hI8 : I8 (A 20) (A 30) (A 37) (A 36)) (hy0 : 0 ≤ p0.toInt ∧ p0.toInt ≤ 3) (hy1 : ∀ n : Nat, (n : Int) = p0.toInt → ((A 10) n).toInt = 1) : Met l yX10_answerSome [Cond.code yX10_answerSome cX10_answerSome 4 none] ({ frames := 3, cells := 0, slots := 0, locals := 70 } : Room) (va_Pc [.ref h0, .int p0, .int p1] (fun U => MH E h0 rf t0 t1 t2 A cd pk U.heap ∧ KS E z0 U)) (va_Qv (fun (u : (Nat → Int32) × (Nat → Int32) × (Nat → Int32) × (Nat → Int32) × (Nat → Int32) × (Nat → Int32) × (Nat → Int32) × (Nat → Int32) × (Nat → Int32) × (Nat → Int32) × (Nat → Int32) × (Nat → Int32) × (Nat → Int32) × (Nat → Int32) × (Nat → Int32) × (Nat → Int32)) => (I3 (u.1)) ∧ (I4 (A 10) (u.2.2.2.2.2.2.2.1) (u.2.2.2.2.2.2.2.2.2.2.2.2.2.2.2) (u.2.2.2.2.2.2.2.2.2.2.1) (A 11) (u.2.2.1) (A 13)) ∧ (I6 (u.2.2.2.2.2.2.2.2.1) (u.2.2.2.2.2.2.2.2.2.1) (u.2.2.2.2.2.2.2.2.2.2.1) (u.2.2.2.2.2.2.2.2.2.2.2.1) (u.2.2.2.2.2.2.2.2.2.2.2.2.1)) ∧ (I8 (u.2.2.2.2.2.2.2.1) (A 30) (A 37) (A 36)) ∧ (D_X10_answerSome A cd pk p0 p1 (uA (uA (uA (uA (uA (uA (uA (uA (uA (uA (uA (uA (uA (uA (uA (uA A 8 (u.1)) 9 (u.2.1)) 12 (u.2.2.1)) 15 (u.2.2.2.1)) 16 (u.2.2.2.2.1)) 17 (u.2.2.2.2.2.1)) 18 (u.2.2.2.2.2.2.1)) 20 (u.2.2.2.2.2.2.2.1)) 22 (u.2.2.2.2.2.2.2.2.1)) 23 (u.2.2.2.2.2.2.2.2.2.1)) 24 (u.2.2.2.2.2.2.2.2.2.2.1)) 25 (u.2.2.2.2.2.2.2.2.2.2.2.1)) 26 (u.2.2.2.2.2.2.2.2.2.2.2.2.1)) 27 (u.2.2.2.2.2.2.2.2.2.2.2.2.2.1)) 28 (u.2.2.2.2.2.2.2.2.2.2.2.2.2.2.1)) 29 (u.2.2.2.2.2.2.2.2.2.2.2.2.2.2.2)) cd pk)) (fun u t => MH E h0 rf t0 t1 t2 (uA (uA (uA (uA (uA (uA (uA (uA (uA (uA (uA (uA (uA (uA (uA (uA A 8 (u.1)) 9 (u.2.1)) 12 (u.2.2.1)) 15 (u.2.2.2.1)) 16 (u.2.2.2.2.1)) 17 (u.2.2.2.2.2.1)) 18 (u.2.2.2.2.2.2.1)) 20 (u.2.2.2.2.2.2.2.1)) 22 (u.2.2.2.2.2.2.2.2.1)) 23 (u.2.2.2.2.2.2.2.2.2.1)) 24 (u.2.2.2.2.2.2.2.2.2.2.1)) 25 (u.2.2.2.2.2.2.2.2.2.2.2.1)) 26 (u.2.2.2.2.2.2.2.2.2.2.2.2.1)) 27 (u.2.2.2.2.2.2.2.2.2.2.2.2.2.1)) 28 (u.2.2.2.2.2.2.2.2.2.2.2.2.2.2.1)) 29 (u.2.2.2.2.2.2.2.2.2.2.2.2.2.2.2)) cd pk t.heap) (fun q : Nat => G q ≠ 0)) 0 0 (fun q : Nat => G q ≠ 0) := by
  refine Met.ofW (cc := cX10_answerSome) (maxL := 4) (ret := none) (by decide) rfl ?_
  intro p e s m args below meth c s₁ B hml hv
  obtain ⟨rfl, hM, hK⟩ := hv
  have hx := B.exec
  have hb := B.bytes
  have hr := B.returns
  have hts : ∀ w ∈ TS, w.before ([.ref h0, .int p0, .int p1] : List Value).toArray s = true := fun w hw => hK.2.1 w hw _
  have hown : s.vm.findClass RX10 = some m.cls := findClass_of_methodNamed B.named
  have hlocks := B.notSynchronized
  have hS : va_S (fun q : Nat => G q ≠ 0) s.heap s.heap [] := va_S.rf
  have hAz : ∀ q, (fun q : Nat => G q ≠ 0) q → z0 ≤ q := hGz
  have hl := lv_entry ([.ref h0, .int p0, .int p1]) (n := 4) (Nat.le_of_ble_eq_true rfl)
  rw [lg_entry_eq]
  generalize (lg_sl ([.ref h0, .int p0, .int p1]) ++ List.replicate (4 - (lg_sl ([.ref h0, .int p0, .int p1])).length) Slot.unset).toArray = ls at hl ⊢
  have hl : lv_has ls 4 [(0, .ref h0), (1, .int p0), (2, .int p1)] := hl
  obtain ⟨n_1, hn_1, en_1⟩ := s_nat (x := p0) (by omega)
  have hst0 := hy1 n_1 (by omega)
  have hP0 := (hI4 n_1 (by omega)).1 hst0
  have rg0 := hP0.rng
  refine lv_iload_n hx hb dX10_answerSome_0 rfl (lv_at hl 2 rfl) ?_
  refine lv_aload_n hx hb dX10_answerSome_1 rfl (lv_at hl 0 rfl) ?_
  refine va_get (D := DG E) (ci := 10) (v := .ref (rf 12)) (C := RX10) (T := TX10) (N := 49) hx hb hts iw_X10 hown hK.1 (va_one hM.1) 0 rfl rfl 12 (by decide) (hts _ fl_X10_34) (fun _ h9 => h9) rfl dX10_answerSome_2 ?_
  refine lv_iload_n hx hb dX10_answerSome_5 rfl (lv_at hl 1 rfl) ?_
  have hi_2 : vp_in p0 4 := vp_in_iff.mpr (by omega)
  have ha_3 : va_at (DG E) vwCl (rf 12, .inl (E.2.2 0, 4, .inl (A 12))) _ := hM.2 12 (by decide) (by decide) (by decide)
  refine va_iald (D := DG E) hx hb hK.1 (va_one ha_3) 0 0 rfl rfl hi_2 dX10_answerSome_6 ?_
  refine W.eq (g2 := F0 m 7 ls [.int ((A 12) n_1), .int p1]) (by rw [en_1]) ?_
  refine lv_aload_n hx hb dX10_answerSome_7 rfl (lv_at hl 0 rfl) ?_
  refine va_get (D := DG E) (ci := 10) (v := .ref (rf 13)) (C := RX10) (T := TX10) (N := 49) hx hb hts iw_X10 hown hK.1 (va_one hM.1) 0 rfl rfl 13 (by decide) (hts _ fl_X10_37) (fun _ h9 => h9) rfl dX10_answerSome_8 ?_
  refine lv_iload_n hx hb dX10_answerSome_11 rfl (lv_at hl 1 rfl) ?_
  have ha_4 : va_at (DG E) vwCl (rf 13, .inl (E.2.2 0, 4, .inl (A 13))) _ := hM.2 13 (by decide) (by decide) (by decide)
  refine va_iald (D := DG E) hx hb hK.1 (va_one ha_4) 0 0 rfl rfl hi_2 dX10_answerSome_12 ?_
  refine W.eq (g2 := F0 m 13 ls [.int ((A 13) n_1), .int ((A 12) n_1), .int p1]) (by rw [en_1]) ?_
  refine W.callR (W.runS (As := [.int ((A 12) n_1), .int ((A 13) n_1)]) (rest := [.int p1]) ⟨hx, hb, hml, hown, hts⟩ (c_X10_far l (((A 12) n_1)) (((A 13) n_1))) (cwS 2 hts (gdS ml_X10_174 st_X10_far in_X10 co_X10_far rfl) rfl rfl rfl (by decide +kernel) ⟨Nat.le_of_ble_eq_true rfl, Nat.le_of_ble_eq_true rfl⟩) preEq rfl rfl hl.1 rfl (lv_room (Nat.le_of_ble_eq_true rfl)) dX10_answerSome_13 ⟨Nat.le_of_ble_eq_true rfl, Nat.le_of_ble_eq_true rfl⟩) ?_
  refine W.eq (g2 := F0 m 16 ls [.int (((((A 13) n_1) - ((A 12) n_1)) + 64) - ((((A 13) n_1) - ((A 12) n_1)) + 64) / 64 * 64), .int p1]) (by rfl) ?_
  refine lv_topi (fun x_5 ex_5 => ?_)
  have fx_5 : x_5.toInt = (((A 13) n_1).toInt - ((A 12) n_1).toInt + 64) % 64 := by rw [ex_5]; exact far_t (by omega) (by omega)
  have kx_5 : x_5.toInt = (farI ((A 12) n_1) ((A 13) n_1)).toInt := by rw [ex_5]; rfl
  refine lv_icmp_le (tgt := 20) hx hb dX10_answerSome_16 (by decide) (fun c_6 => ?_) (fun c_6 => ?_)
  · simp only [lt_I, le_I, eq_I, i_0, i_1, i_2, i_3, i_4, i_5, i_6, i_7, i_8, i_10, i_12, i_16, i_20, i_23, i_24, i_31, i_32, i_63, i_64, i_m1, i_9, i_11, i_13, i_25, i_60, i_75, i_79, i_80, i_96, i_100] at c_6
    refine lv_iload_n hx hb dX10_answerSome_20 rfl (lv_at hl 2 rfl) ?_
    refine lv_istore_n (lv' := [(3, .int p1), (0, .ref h0), (1, .int p0), (2, .int p1)]) hx hb dX10_answerSome_21 rfl hl (by decide) rfl (fun ls hl => ?_)
    have hX_8 : (p1.toInt ≤ (farI ((A 12) n_1) ((A 13) n_1)).toInt ∧ (farI ((A 12) n_1) ((A 13) n_1)).toInt ≤ 63) ∧ ∃ b : Nat, ASR A cd pk p0 n_1 b (uA (uA (uA (uA (uA (uA (uA (uA (uA (uA (uA (uA (uA (uA (uA (uA A 8 (A 8)) 9 (A 9)) 12 (A 12)) 15 (A 15)) 16 (A 16)) 17 (A 17)) 18 (A 18)) 20 (A 20)) 22 (A 22)) 23 (A 23)) 24 (A 24)) 25 (A 25)) 26 (A 26)) 27 (A 27)) 28 (A 28)) 29 (A 29)) ∧ ((p1.toInt = p1.toInt - b ∧ (0 ≤ p1.toInt ∨ b = 0)) ∨ (p1.toInt = -1 ∧ (b : Int) < p1.toInt ∧ ∃ w : Int32, HC (uA (uA (uA (uA (uA (uA (uA (uA (uA (uA (uA (uA (uA (uA (uA (uA A 8 (A 8)) 9 (A 9)) 12 (A 12)) 15 (A 15)) 16 (A 16)) 17 (A 17)) 18 (A 18)) 20 (A 20)) 22 (A 22)) 23 (A 23)) 24 (A 24)) 25 (A 25)) 26 (A 26)) 27 (A 27)) 28 (A 28)) 29 (A 29)) cd pk p0 n_1 w ∧ w.toInt ≠ 0)) := ⟨⟨by omega, by omega⟩, 0, (by show (uA (uA (uA (uA (uA (uA (uA (uA (uA (uA (uA (uA (uA (uA (uA (uA A 8 (A 8)) 9 (A 9)) 12 (A 12)) 15 (A 15)) 16 (A 16)) 17 (A 17)) 18 (A 18)) 20 (A 20)) 22 (A 22)) 23 (A 23)) 24 (A 24)) 25 (A 25)) 26 (A 26)) 27 (A 27)) 28 (A 28)) 29 (A 29)) = A; exact uu_ids), Or.inl ⟨by omega, Or.inr rfl⟩⟩
    refine lp_nat (fun n H locs ls => ∃ (ix_7 : Int32) (u_7 : (Nat → Int32) × (Nat → Int32) × (Nat → Int32) × (Nat → Int32) × (Nat → Int32) × (Nat → Int32) × (Nat → Int32) × (Nat → Int32) × (Nat → Int32) × (Nat → Int32) × (Nat → Int32) × (Nat → Int32) × (Nat → Int32) × (Nat → Int32) × (Nat → Int32) × (Nat → Int32)), (ix_7.toInt ≤ 63) ∧ (ix_7.toInt).toNat = n ∧ MH E h0 rf t0 t1 t2 (uA (uA (uA (uA (uA (uA (uA (uA (uA (uA (uA (uA (uA (uA (uA (uA A 8 (u_7.1)) 9 (u_7.2.1)) 12 (u_7.2.2.1)) 15 (u_7.2.2.2.1)) 16 (u_7.2.2.2.2.1)) 17 (u_7.2.2.2.2.2.1)) 18 (u_7.2.2.2.2.2.2.1)) 20 (u_7.2.2.2.2.2.2.2.1)) 22 (u_7.2.2.2.2.2.2.2.2.1)) 23 (u_7.2.2.2.2.2.2.2.2.2.1)) 24 (u_7.2.2.2.2.2.2.2.2.2.2.1)) 25 (u_7.2.2.2.2.2.2.2.2.2.2.2.1)) 26 (u_7.2.2.2.2.2.2.2.2.2.2.2.2.1)) 27 (u_7.2.2.2.2.2.2.2.2.2.2.2.2.2.1)) 28 (u_7.2.2.2.2.2.2.2.2.2.2.2.2.2.2.1)) 29 (u_7.2.2.2.2.2.2.2.2.2.2.2.2.2.2.2)) cd pk H ∧ (I3 (u_7.1)) ∧ (I4 (A 10) (u_7.2.2.2.2.2.2.2.1) (u_7.2.2.2.2.2.2.2.2.2.2.2.2.2.2.2) (u_7.2.2.2.2.2.2.2.2.2.2.1) (A 11) (u_7.2.2.1) (A 13)) ∧ (I6 (u_7.2.2.2.2.2.2.2.2.1) (u_7.2.2.2.2.2.2.2.2.2.1) (u_7.2.2.2.2.2.2.2.2.2.2.1) (u_7.2.2.2.2.2.2.2.2.2.2.2.1) (u_7.2.2.2.2.2.2.2.2.2.2.2.2.1)) ∧ (I8 (u_7.2.2.2.2.2.2.2.1) (A 30) (A 37) (A 36)) ∧ ((ix_7.toInt ≤ (farI ((u_7.2.2.1) n_1) ((A 13) n_1)).toInt ∧ (farI ((u_7.2.2.1) n_1) ((A 13) n_1)).toInt ≤ 63) ∧ ∃ b : Nat, ASR A cd pk p0 n_1 b (uA (uA (uA (uA (uA (uA (uA (uA (uA (uA (uA (uA (uA (uA (uA (uA A 8 (u_7.1)) 9 (u_7.2.1)) 12 (u_7.2.2.1)) 15 (u_7.2.2.2.1)) 16 (u_7.2.2.2.2.1)) 17 (u_7.2.2.2.2.2.1)) 18 (u_7.2.2.2.2.2.2.1)) 20 (u_7.2.2.2.2.2.2.2.1)) 22 (u_7.2.2.2.2.2.2.2.2.1)) 23 (u_7.2.2.2.2.2.2.2.2.2.1)) 24 (u_7.2.2.2.2.2.2.2.2.2.2.1)) 25 (u_7.2.2.2.2.2.2.2.2.2.2.2.1)) 26 (u_7.2.2.2.2.2.2.2.2.2.2.2.2.1)) 27 (u_7.2.2.2.2.2.2.2.2.2.2.2.2.2.1)) 28 (u_7.2.2.2.2.2.2.2.2.2.2.2.2.2.2.1)) 29 (u_7.2.2.2.2.2.2.2.2.2.2.2.2.2.2.2)) ∧ ((ix_7.toInt = p1.toInt - b ∧ (0 ≤ ix_7.toInt ∨ b = 0)) ∨ (ix_7.toInt = -1 ∧ (b : Int) < p1.toInt ∧ ∃ w : Int32, HC (uA (uA (uA (uA (uA (uA (uA (uA (uA (uA (uA (uA (uA (uA (uA (uA A 8 (u_7.1)) 9 (u_7.2.1)) 12 (u_7.2.2.1)) 15 (u_7.2.2.2.1)) 16 (u_7.2.2.2.2.1)) 17 (u_7.2.2.2.2.2.1)) 18 (u_7.2.2.2.2.2.2.1)) 20 (u_7.2.2.2.2.2.2.2.1)) 22 (u_7.2.2.2.2.2.2.2.2.1)) 23 (u_7.2.2.2.2.2.2.2.2.2.1)) 24 (u_7.2.2.2.2.2.2.2.2.2.2.1)) 25 (u_7.2.2.2.2.2.2.2.2.2.2.2.1)) 26 (u_7.2.2.2.2.2.2.2.2.2.2.2.2.1)) 27 (u_7.2.2.2.2.2.2.2.2.2.2.2.2.2.1)) 28 (u_7.2.2.2.2.2.2.2.2.2.2.2.2.2.2.1)) 29 (u_7.2.2.2.2.2.2.2.2.2.2.2.2.2.2.2)) cd pk p0 n_1 w ∧ w.toInt ≠ 0))) ∧ va_S (fun q : Nat => G q ≠ 0) s.heap H locs ∧ lv_has ls 4 [(3, .int ix_7), (0, .ref h0), (1, .int p0), (2, .int p1)]) (fun n_7 H locs ls ih_7 hI => ?_) ⟨p1, ((A 8), (A 9), (A 12), (A 15), (A 16), (A 17), (A 18), (A 20), (A 22), (A 23), (A 24), (A 25), (A 26), (A 27), (A 28), (A 29)), (by first | omega | decide), rfl, (by show MH E h0 rf t0 t1 t2 (uA (uA (uA (uA (uA (uA (uA (uA (uA (uA (uA (uA (uA (uA (uA (uA A 8 (A 8)) 9 (A 9)) 12 (A 12)) 15 (A 15)) 16 (A 16)) 17 (A 17)) 18 (A 18)) 20 (A 20)) 22 (A 22)) 23 (A 23)) 24 (A 24)) 25 (A 25)) 26 (A 26)) 27 (A 27)) 28 (A 28)) 29 (A 29)) cd pk _; exact hM.cg9 rfl rfl rfl rfl rfl rfl rfl rfl rfl rfl rfl rfl rfl rfl rfl rfl rfl rfl rfl rfl rfl rfl rfl rfl rfl rfl rfl rfl rfl rfl rfl rfl rfl rfl rfl rfl rfl rfl rfl rfl rfl rfl rfl rfl), hI3, hI4, hI6, hI8, hX_8, hS, hl⟩
    obtain ⟨ix_7, u_7, hb_7, hn_7, hM, hI3_7, hI4_7, hI6_7, hI8_7, hx_7, hS, hl⟩ := hI
    refine lv_iload_n hx hb dX10_answerSome_22 rfl (lv_at hl 0 rfl) ?_
    refine lv_if_le (tgt := 60) hx hb dX10_answerSome_23 (by decide) (fun c_9 => ?_) (fun c_9 => ?_)
    · simp only [lt_I, le_I, eq_I, i_0, i_1, i_2, i_3, i_4, i_5, i_6, i_7, i_8, i_10, i_12, i_16, i_20, i_23, i_24, i_31, i_32, i_63, i_64, i_m1, i_9, i_11, i_13, i_25, i_60, i_75, i_79, i_80, i_96, i_100] at c_9
      exact W.vret hx hb hr (fun t ht hW => ⟨⟨((u_7.1), (u_7.2.1), (u_7.2.2.1), (u_7.2.2.2.1), (u_7.2.2.2.2.1), (u_7.2.2.2.2.2.1), (u_7.2.2.2.2.2.2.1), (u_7.2.2.2.2.2.2.2.1), (u_7.2.2.2.2.2.2.2.2.1), (u_7.2.2.2.2.2.2.2.2.2.1), (u_7.2.2.2.2.2.2.2.2.2.2.1), (u_7.2.2.2.2.2.2.2.2.2.2.2.1), (u_7.2.2.2.2.2.2.2.2.2.2.2.2.1), (u_7.2.2.2.2.2.2.2.2.2.2.2.2.2.1), (u_7.2.2.2.2.2.2.2.2.2.2.2.2.2.2.1), (u_7.2.2.2.2.2.2.2.2.2.2.2.2.2.2.2)), rfl, ⟨hI3_7, hI4_7, hI6_7, hI8_7, (Or.inl ⟨n_1, hn_1, x_5, ex_5, fx_5, c_6, ix_7, u_7, hb_7, hI3_7, hI4_7, hI6_7, hI8_7, hx_7, c_9, rfl, rfl, rfl⟩)⟩, (by show MH E h0 rf t0 t1 t2 (uA (uA (uA (uA (uA (uA (uA (uA (uA (uA (uA (uA (uA (uA (uA (uA A 8 (u_7.1)) 9 (u_7.2.1)) 12 (u_7.2.2.1)) 15 (u_7.2.2.2.1)) 16 (u_7.2.2.2.2.1)) 17 (u_7.2.2.2.2.2.1)) 18 (u_7.2.2.2.2.2.2.1)) 20 (u_7.2.2.2.2.2.2.2.1)) 22 (u_7.2.2.2.2.2.2.2.2.1)) 23 (u_7.2.2.2.2.2.2.2.2.2.1)) 24 (u_7.2.2.2.2.2.2.2.2.2.2.1)) 25 (u_7.2.2.2.2.2.2.2.2.2.2.2.1)) 26 (u_7.2.2.2.2.2.2.2.2.2.2.2.2.1)) 27 (u_7.2.2.2.2.2.2.2.2.2.2.2.2.2.1)) 28 (u_7.2.2.2.2.2.2.2.2.2.2.2.2.2.2.1)) 29 (u_7.2.2.2.2.2.2.2.2.2.2.2.2.2.2.2)) cd pk t.heap; rw [ht]; exact hM)⟩, hS.F ht⟩) hS.2.2 dX10_answerSome_60
    · simp only [lt_I, le_I, eq_I, i_0, i_1, i_2, i_3, i_4, i_5, i_6, i_7, i_8, i_10, i_12, i_16, i_20, i_23, i_24, i_31, i_32, i_63, i_64, i_m1, i_9, i_11, i_13, i_25, i_60, i_75, i_79, i_80, i_96, i_100] at c_9
      have hP_10 := (hI4_7 n_1 (by omega)).1 hst0
      have rg_10 := hP_10.rng
      have ft_10 := farI_t (a := (u_7.2.2.1) n_1) (b := (A 13) n_1) (by omega) (by omega)
      refine lv_aload_n hx hb dX10_answerSome_26 rfl (lv_at hl 1 rfl) ?_
      refine lv_aload_n hx hb dX10_answerSome_27 rfl (lv_at hl 1 rfl) ?_
      refine lv_iload_n hx hb dX10_answerSome_28 rfl (lv_at hl 2 rfl) ?_
      refine lv_aload_n hx hb dX10_answerSome_29 rfl (lv_at hl 1 rfl) ?_
      refine va_get (D := DG E) (ci := 10) (v := .ref (rf 12)) (C := RX10) (T := TX10) (N := 49) hx hb hts iw_X10 hown hK.1 (va_one hM.1) 0 rfl rfl 12 (by decide) (hts _ fl_X10_34) (fun _ h9 => h9) rfl dX10_answerSome_30 ?_
      refine lv_iload_n hx hb dX10_answerSome_33 rfl (lv_at hl 2 rfl) ?_
      have ha_11 : va_at (DG E) vwCl (rf 12, .inl (E.2.2 0, 4, .inl (u_7.2.2.1))) _ := hM.2 12 (by decide) (by decide) (by decide)
      refine va_iald (D := DG E) hx hb hK.1 (va_one ha_11) 0 0 rfl rfl hi_2 dX10_answerSome_34 ?_
      refine W.eq (g2 := F0 m 35 ls [.int ((u_7.2.2.1) n_1), .int p0, .ref h0, .ref h0]) (by rw [en_1]) ?_
      refine va_calli (rnV (fun H => MH E h0 rf t0 t1 t2 (uA (uA (uA (uA (uA (uA (uA (uA (uA (uA (uA (uA (uA (uA (uA (uA A 8 (u_7.1)) 9 (u_7.2.1)) 12 (u_7.2.2.1)) 15 (u_7.2.2.2.1)) 16 (u_7.2.2.2.2.1)) 17 (u_7.2.2.2.2.2.1)) 18 (u_7.2.2.2.2.2.2.1)) 20 (u_7.2.2.2.2.2.2.2.1)) 22 (u_7.2.2.2.2.2.2.2.2.1)) 23 (u_7.2.2.2.2.2.2.2.2.2.1)) 24 (u_7.2.2.2.2.2.2.2.2.2.2.1)) 25 (u_7.2.2.2.2.2.2.2.2.2.2.2.1)) 26 (u_7.2.2.2.2.2.2.2.2.2.2.2.2.1)) 27 (u_7.2.2.2.2.2.2.2.2.2.2.2.2.2.1)) 28 (u_7.2.2.2.2.2.2.2.2.2.2.2.2.2.2.1)) 29 (u_7.2.2.2.2.2.2.2.2.2.2.2.2.2.2.2)) cd pk H) (As := [.int p0, .int ((u_7.2.2.1) n_1)]) (rest := [.ref h0]) ⟨hx, hb, hml, hown, hts⟩ (u_X10_requestOf l E z0 G hGz h0 rf hR t0 t1 t2 (uA (uA (uA (uA (uA (uA (uA (uA (uA (uA (uA (uA (uA (uA (uA (uA A 8 (u_7.1)) 9 (u_7.2.1)) 12 (u_7.2.2.1)) 15 (u_7.2.2.2.1)) 16 (u_7.2.2.2.2.1)) 17 (u_7.2.2.2.2.2.1)) 18 (u_7.2.2.2.2.2.2.1)) 20 (u_7.2.2.2.2.2.2.2.1)) 22 (u_7.2.2.2.2.2.2.2.2.1)) 23 (u_7.2.2.2.2.2.2.2.2.2.1)) 24 (u_7.2.2.2.2.2.2.2.2.2.2.1)) 25 (u_7.2.2.2.2.2.2.2.2.2.2.2.1)) 26 (u_7.2.2.2.2.2.2.2.2.2.2.2.2.1)) 27 (u_7.2.2.2.2.2.2.2.2.2.2.2.2.2.1)) 28 (u_7.2.2.2.2.2.2.2.2.2.2.2.2.2.2.1)) 29 (u_7.2.2.2.2.2.2.2.2.2.2.2.2.2.2.2)) cd pk p0 ((u_7.2.2.1) n_1) hI6_7 (show 0 ≤ p0.toInt ∧ p0.toInt ≤ 3 from by first | decide | omega)) (cwV 2 hts (gdV ml_X10_196 im_X10_requestOf se_X10_X10_requestOf in_X10 co_X10_requestOf rfl) rfl rfl rfl (by decide +kernel) ⟨Nat.le_of_ble_eq_true rfl, Nat.le_of_ble_eq_true rfl⟩) hM (fun U hU hW => hK.go hW hS hAz hU) (va_recv hK.1 (va_one hM.1) (ci := 10) (q0 := 0) rfl rfl) rfl rfl hl.1 rfl (lv_room (Nat.le_of_ble_eq_true rfl)) dX10_answerSome_35 ⟨Nat.le_of_ble_eq_true rfl, Nat.le_of_ble_eq_true rfl⟩) hS (fun q _ h => h.elim) (fun q h => h.elim) (fun r_12 ur_12 t H locs ht hvm hwr_12 hB hz hk hS => ?_)
      have hM := hM.kept (fun q hq => hk q hq (fun h => h))
      have hpr_12_0 : 0 ≤ r_12.toInt ∧ r_12.toInt ≤ 15 := hwr_12.1
      have hpr_12_1 : ∀ n : Nat, (n : Int) = p0.toInt → RO (u_7.2.2.2.2.2.2.2.2.2.2.2.2.2.2.2) (u_7.2.2.2.2.2.2.2.2.2.2.1) n ((u_7.2.2.1) n_1) r_12.toInt := hwr_12.2
      have iahpr_12_1 := hpr_12_1 n_1 (by omega)
      refine va_calli (rnV (fun H => MH E h0 rf t0 t1 t2 (uA (uA (uA (uA (uA (uA (uA (uA (uA (uA (uA (uA (uA (uA (uA (uA A 8 (u_7.1)) 9 (u_7.2.1)) 12 (u_7.2.2.1)) 15 (u_7.2.2.2.1)) 16 (u_7.2.2.2.2.1)) 17 (u_7.2.2.2.2.2.1)) 18 (u_7.2.2.2.2.2.2.1)) 20 (u_7.2.2.2.2.2.2.2.1)) 22 (u_7.2.2.2.2.2.2.2.2.1)) 23 (u_7.2.2.2.2.2.2.2.2.2.1)) 24 (u_7.2.2.2.2.2.2.2.2.2.2.1)) 25 (u_7.2.2.2.2.2.2.2.2.2.2.2.1)) 26 (u_7.2.2.2.2.2.2.2.2.2.2.2.2.1)) 27 (u_7.2.2.2.2.2.2.2.2.2.2.2.2.2.1)) 28 (u_7.2.2.2.2.2.2.2.2.2.2.2.2.2.2.1)) 29 (u_7.2.2.2.2.2.2.2.2.2.2.2.2.2.2.2)) cd pk H) (As := [.int r_12]) (rest := []) ⟨hx, hb, hml, hown, hts⟩ (u_X10_hasCells l E z0 G hGz h0 rf hR t0 t1 t2 (uA (uA (uA (uA (uA (uA (uA (uA (uA (uA (uA (uA (uA (uA (uA (uA A 8 (u_7.1)) 9 (u_7.2.1)) 12 (u_7.2.2.1)) 15 (u_7.2.2.2.1)) 16 (u_7.2.2.2.2.1)) 17 (u_7.2.2.2.2.2.1)) 18 (u_7.2.2.2.2.2.2.1)) 20 (u_7.2.2.2.2.2.2.2.1)) 22 (u_7.2.2.2.2.2.2.2.2.1)) 23 (u_7.2.2.2.2.2.2.2.2.2.1)) 24 (u_7.2.2.2.2.2.2.2.2.2.2.1)) 25 (u_7.2.2.2.2.2.2.2.2.2.2.2.1)) 26 (u_7.2.2.2.2.2.2.2.2.2.2.2.2.1)) 27 (u_7.2.2.2.2.2.2.2.2.2.2.2.2.2.1)) 28 (u_7.2.2.2.2.2.2.2.2.2.2.2.2.2.2.1)) 29 (u_7.2.2.2.2.2.2.2.2.2.2.2.2.2.2.2)) cd pk r_12 hI6_7 (show 0 ≤ r_12.toInt ∧ r_12.toInt ≤ 15 from by first | decide | omega)) (cwV 1 hts (gdV ml_X10_215 im_X10_hasCells se_X10_X10_hasCells in_X10 co_X10_hasCells rfl) rfl rfl rfl (by decide +kernel) ⟨Nat.le_of_ble_eq_true rfl, Nat.le_of_ble_eq_true rfl⟩) hM (fun U hU hW => hK.go hW hS hAz hU) (va_recv hK.1 (va_one hM.1) (ci := 10) (q0 := 0) rfl rfl) rfl rfl hl.1 rfl (lv_room (Nat.le_of_ble_eq_true rfl)) dX10_answerSome_38 ⟨Nat.le_of_ble_eq_true rfl, Nat.le_of_ble_eq_true rfl⟩) hS (fun q _ h => h.elim) (fun q h => h.elim) (fun r_13 ur_13 t H locs ht hvm hwr_13 hB hz hk hS => ?_)
      have hM := hM.kept (fun q hq => hk q hq (fun h => h))
      have hDr_13 : D_X10_hasCells (uA (uA (uA (uA (uA (uA (uA (uA (uA (uA (uA (uA (uA (uA (uA (uA A 8 (u_7.1)) 9 (u_7.2.1)) 12 (u_7.2.2.1)) 15 (u_7.2.2.2.1)) 16 (u_7.2.2.2.2.1)) 17 (u_7.2.2.2.2.2.1)) 18 (u_7.2.2.2.2.2.2.1)) 20 (u_7.2.2.2.2.2.2.2.1)) 22 (u_7.2.2.2.2.2.2.2.2.1)) 23 (u_7.2.2.2.2.2.2.2.2.2.1)) 24 (u_7.2.2.2.2.2.2.2.2.2.2.1)) 25 (u_7.2.2.2.2.2.2.2.2.2.2.2.1)) 26 (u_7.2.2.2.2.2.2.2.2.2.2.2.2.1)) 27 (u_7.2.2.2.2.2.2.2.2.2.2.2.2.2.1)) 28 (u_7.2.2.2.2.2.2.2.2.2.2.2.2.2.2.1)) 29 (u_7.2.2.2.2.2.2.2.2.2.2.2.2.2.2.2)) cd pk r_12 r_13 := hwr_13.2
      have hpr_13_0 : r_13 = 0 ∨ r_13 = 1 := hwr_13.1
      have hzr_13 := s_rng hpr_13_0
      refine lv_if_eq (tgt := 49) hx hb dX10_answerSome_41 (by decide) (fun c_14 => ?_) (fun c_14 => ?_)
      · simp only [lt_I, le_I, eq_I, i_0, i_1, i_2, i_3, i_4, i_5, i_6, i_7, i_8, i_10, i_12, i_16, i_20, i_23, i_24, i_31, i_32, i_63, i_64, i_m1, i_9, i_11, i_13, i_25, i_60, i_75, i_79, i_80, i_96, i_100] at c_14
        refine lv_aload_n hx hb dX10_answerSome_49 rfl (lv_at hl 1 rfl) ?_
        refine lv_iload_n hx hb dX10_answerSome_50 rfl (lv_at hl 2 rfl) ?_
        refine va_callv (rnV (fun H => MH E h0 rf t0 t1 t2 (uA (uA (uA (uA (uA (uA (uA (uA (uA (uA (uA (uA (uA (uA (uA (uA A 8 (u_7.1)) 9 (u_7.2.1)) 12 (u_7.2.2.1)) 15 (u_7.2.2.2.1)) 16 (u_7.2.2.2.2.1)) 17 (u_7.2.2.2.2.2.1)) 18 (u_7.2.2.2.2.2.2.1)) 20 (u_7.2.2.2.2.2.2.2.1)) 22 (u_7.2.2.2.2.2.2.2.2.1)) 23 (u_7.2.2.2.2.2.2.2.2.2.1)) 24 (u_7.2.2.2.2.2.2.2.2.2.2.1)) 25 (u_7.2.2.2.2.2.2.2.2.2.2.2.1)) 26 (u_7.2.2.2.2.2.2.2.2.2.2.2.2.1)) 27 (u_7.2.2.2.2.2.2.2.2.2.2.2.2.2.1)) 28 (u_7.2.2.2.2.2.2.2.2.2.2.2.2.2.2.1)) 29 (u_7.2.2.2.2.2.2.2.2.2.2.2.2.2.2.2)) cd pk H) (As := [.int p0]) (rest := []) ⟨hx, hb, hml, hown, hts⟩ (u_X10_answerOne l E z0 G hGz h0 rf hR t0 t1 t2 (uA (uA (uA (uA (uA (uA (uA (uA (uA (uA (uA (uA (uA (uA (uA (uA A 8 (u_7.1)) 9 (u_7.2.1)) 12 (u_7.2.2.1)) 15 (u_7.2.2.2.1)) 16 (u_7.2.2.2.2.1)) 17 (u_7.2.2.2.2.2.1)) 18 (u_7.2.2.2.2.2.2.1)) 20 (u_7.2.2.2.2.2.2.2.1)) 22 (u_7.2.2.2.2.2.2.2.2.1)) 23 (u_7.2.2.2.2.2.2.2.2.2.1)) 24 (u_7.2.2.2.2.2.2.2.2.2.2.1)) 25 (u_7.2.2.2.2.2.2.2.2.2.2.2.1)) 26 (u_7.2.2.2.2.2.2.2.2.2.2.2.2.1)) 27 (u_7.2.2.2.2.2.2.2.2.2.2.2.2.2.1)) 28 (u_7.2.2.2.2.2.2.2.2.2.2.2.2.2.2.1)) 29 (u_7.2.2.2.2.2.2.2.2.2.2.2.2.2.2.2)) cd pk p0 hI3_7 hI4_7 hI6_7 hI8_7 (show 0 ≤ p0.toInt ∧ p0.toInt ≤ 3 from by first | decide | omega) (show ∀ n : Nat, (n : Int) = p0.toInt → ((A 10) n).toInt = 1 ∧ ((A 13) n).toInt ≠ ((u_7.2.2.1) n).toInt from (fun n hn => by
        obtain rfl : n_1 = n := by omega
        exact ⟨hst0, by omega⟩))) (cwV 1 hts (gdV ml_X10_218 im_X10_answerOne se_X10_X10_answerOne in_X10 co_X10_answerOne rfl) rfl rfl rfl (by decide +kernel) ⟨Nat.le_of_ble_eq_true rfl, Nat.le_of_ble_eq_true rfl⟩) hM (fun U hU hW => hK.go hW hS hAz hU) (va_recv hK.1 (va_one hM.1) (ci := 10) (q0 := 0) rfl rfl) rfl rfl hl.1 rfl (lv_room (Nat.le_of_ble_eq_true rfl)) dX10_answerSome_51 ⟨Nat.le_of_ble_eq_true rfl, Nat.le_of_ble_eq_true rfl⟩) hS (fun q _ h => h) (fun q h => h) (fun ur_15 t H locs ht hvm hwr_15 hB hz hk hS => ?_)
        have hM : MH E h0 rf t0 t1 t2 (uA (uA (uA (uA (uA (uA (uA (uA (uA (uA (uA (uA (uA (uA (uA (uA (uA (uA (uA (uA (uA (uA (uA (uA (uA (uA (uA (uA (uA (uA (uA (uA A 8 (u_7.1)) 9 (u_7.2.1)) 12 (u_7.2.2.1)) 15 (u_7.2.2.2.1)) 16 (u_7.2.2.2.2.1)) 17 (u_7.2.2.2.2.2.1)) 18 (u_7.2.2.2.2.2.2.1)) 20 (u_7.2.2.2.2.2.2.2.1)) 22 (u_7.2.2.2.2.2.2.2.2.1)) 23 (u_7.2.2.2.2.2.2.2.2.2.1)) 24 (u_7.2.2.2.2.2.2.2.2.2.2.1)) 25 (u_7.2.2.2.2.2.2.2.2.2.2.2.1)) 26 (u_7.2.2.2.2.2.2.2.2.2.2.2.2.1)) 27 (u_7.2.2.2.2.2.2.2.2.2.2.2.2.2.1)) 28 (u_7.2.2.2.2.2.2.2.2.2.2.2.2.2.2.1)) 29 (u_7.2.2.2.2.2.2.2.2.2.2.2.2.2.2.2)) 8 (ur_15.1)) 9 (ur_15.2.1)) 12 (ur_15.2.2.1)) 15 (ur_15.2.2.2.1)) 16 (ur_15.2.2.2.2.1)) 17 (ur_15.2.2.2.2.2.1)) 18 (ur_15.2.2.2.2.2.2.1)) 20 (ur_15.2.2.2.2.2.2.2.1)) 22 (ur_15.2.2.2.2.2.2.2.2.1)) 23 (ur_15.2.2.2.2.2.2.2.2.2.1)) 24 (ur_15.2.2.2.2.2.2.2.2.2.2.1)) 25 (ur_15.2.2.2.2.2.2.2.2.2.2.2.1)) 26 (ur_15.2.2.2.2.2.2.2.2.2.2.2.2.1)) 27 (ur_15.2.2.2.2.2.2.2.2.2.2.2.2.2.1)) 28 (ur_15.2.2.2.2.2.2.2.2.2.2.2.2.2.2.1)) 29 (ur_15.2.2.2.2.2.2.2.2.2.2.2.2.2.2.2)) cd pk H := by rw [ht] at hB; exact hB
        have hDr_15 : D_X10_answerOne (uA (uA (uA (uA (uA (uA (uA (uA (uA (uA (uA (uA (uA (uA (uA (uA A 8 (u_7.1)) 9 (u_7.2.1)) 12 (u_7.2.2.1)) 15 (u_7.2.2.2.1)) 16 (u_7.2.2.2.2.1)) 17 (u_7.2.2.2.2.2.1)) 18 (u_7.2.2.2.2.2.2.1)) 20 (u_7.2.2.2.2.2.2.2.1)) 22 (u_7.2.2.2.2.2.2.2.2.1)) 23 (u_7.2.2.2.2.2.2.2.2.2.1)) 24 (u_7.2.2.2.2.2.2.2.2.2.2.1)) 25 (u_7.2.2.2.2.2.2.2.2.2.2.2.1)) 26 (u_7.2.2.2.2.2.2.2.2.2.2.2.2.1)) 27 (u_7.2.2.2.2.2.2.2.2.2.2.2.2.2.1)) 28 (u_7.2.2.2.2.2.2.2.2.2.2.2.2.2.2.1)) 29 (u_7.2.2.2.2.2.2.2.2.2.2.2.2.2.2.2)) cd pk p0 (uA (uA (uA (uA (uA (uA (uA (uA (uA (uA (uA (uA (uA (uA (uA (uA (uA (uA (uA (uA (uA (uA (uA (uA (uA (uA (uA (uA (uA (uA (uA (uA A 8 (u_7.1)) 9 (u_7.2.1)) 12 (u_7.2.2.1)) 15 (u_7.2.2.2.1)) 16 (u_7.2.2.2.2.1)) 17 (u_7.2.2.2.2.2.1)) 18 (u_7.2.2.2.2.2.2.1)) 20 (u_7.2.2.2.2.2.2.2.1)) 22 (u_7.2.2.2.2.2.2.2.2.1)) 23 (u_7.2.2.2.2.2.2.2.2.2.1)) 24 (u_7.2.2.2.2.2.2.2.2.2.2.1)) 25 (u_7.2.2.2.2.2.2.2.2.2.2.2.1)) 26 (u_7.2.2.2.2.2.2.2.2.2.2.2.2.1)) 27 (u_7.2.2.2.2.2.2.2.2.2.2.2.2.2.1)) 28 (u_7.2.2.2.2.2.2.2.2.2.2.2.2.2.2.1)) 29 (u_7.2.2.2.2.2.2.2.2.2.2.2.2.2.2.2)) 8 (ur_15.1)) 9 (ur_15.2.1)) 12 (ur_15.2.2.1)) 15 (ur_15.2.2.2.1)) 16 (ur_15.2.2.2.2.1)) 17 (ur_15.2.2.2.2.2.1)) 18 (ur_15.2.2.2.2.2.2.1)) 20 (ur_15.2.2.2.2.2.2.2.1)) 22 (ur_15.2.2.2.2.2.2.2.2.1)) 23 (ur_15.2.2.2.2.2.2.2.2.2.1)) 24 (ur_15.2.2.2.2.2.2.2.2.2.2.1)) 25 (ur_15.2.2.2.2.2.2.2.2.2.2.2.1)) 26 (ur_15.2.2.2.2.2.2.2.2.2.2.2.2.1)) 27 (ur_15.2.2.2.2.2.2.2.2.2.2.2.2.2.1)) 28 (ur_15.2.2.2.2.2.2.2.2.2.2.2.2.2.2.1)) 29 (ur_15.2.2.2.2.2.2.2.2.2.2.2.2.2.2.2)) cd pk := hwr_15.2.2.2.2.2
        have hpr_15_0 : I3 (ur_15.1) := hwr_15.1
        have hpr_15_1 : I4 (A 10) (ur_15.2.2.2.2.2.2.2.1) (ur_15.2.2.2.2.2.2.2.2.2.2.2.2.2.2.2) (ur_15.2.2.2.2.2.2.2.2.2.2.1) (A 11) (ur_15.2.2.1) (A 13) := hwr_15.2.1
        have hpr_15_2 : I6 (ur_15.2.2.2.2.2.2.2.2.1) (ur_15.2.2.2.2.2.2.2.2.2.1) (ur_15.2.2.2.2.2.2.2.2.2.2.1) (ur_15.2.2.2.2.2.2.2.2.2.2.2.1) (ur_15.2.2.2.2.2.2.2.2.2.2.2.2.1) := hwr_15.2.2.1
        have hpr_15_3 : I8 (ur_15.2.2.2.2.2.2.2.1) (A 30) (A 37) (A 36) := hwr_15.2.2.2.1
        have hpr_15_4 : ∀ n : Nat, (n : Int) = p0.toInt → (farI ((ur_15.2.2.1) n) ((A 13) n)).toInt = (farI ((u_7.2.2.1) n) ((A 13) n)).toInt - 1 := hwr_15.2.2.2.2.1
        have iahpr_15_4 := hpr_15_4 n_1 (by omega)
        obtain ⟨x_16, ex_16⟩ : ∃ z : Int32, ix_7 + Int32.ofInt (-1) = z := ⟨_, rfl⟩
        have fx_16 : x_16.toInt = ix_7.toInt + (-1) := by have h9 := s_add (x := ix_7) (y := (-1)) (by rw [i_m1]; omega) (by rw [i_m1]; omega); rw [i_m1] at h9; rw [← ex_16]; exact h9
        refine lv_iinc (v := x_16) (lv' := [(3, .int x_16), (0, .ref h0), (1, .int p0), (2, .int p1)]) hx hb dX10_answerSome_54 hl (k := 0) rfl ex_16 (by decide) rfl (fun ls hl => ?_)
        refine lv_goto (tgt := 22) hx hb dX10_answerSome_57 (by decide) ?_
        obtain ⟨hx9, b9, f9, o9⟩ := hx_7
        have o9 := o9.resolve_right (fun h => by omega)
        have w9 : r_13 = 0 := by rw [eq_I, i_0]; omega
        rw [uu_as A (u_7.1) (u_7.2.1) (u_7.2.2.1) (u_7.2.2.2.1) (u_7.2.2.2.2.1) (u_7.2.2.2.2.2.1) (u_7.2.2.2.2.2.2.1) (u_7.2.2.2.2.2.2.2.1) (u_7.2.2.2.2.2.2.2.2.1) (u_7.2.2.2.2.2.2.2.2.2.1) (u_7.2.2.2.2.2.2.2.2.2.2.1) (u_7.2.2.2.2.2.2.2.2.2.2.2.1) (u_7.2.2.2.2.2.2.2.2.2.2.2.2.1) (u_7.2.2.2.2.2.2.2.2.2.2.2.2.2.1) (u_7.2.2.2.2.2.2.2.2.2.2.2.2.2.2.1) (u_7.2.2.2.2.2.2.2.2.2.2.2.2.2.2.2) (ur_15.1) (ur_15.2.1) (ur_15.2.2.1) (ur_15.2.2.2.1) (ur_15.2.2.2.2.1) (ur_15.2.2.2.2.2.1) (ur_15.2.2.2.2.2.2.1) (ur_15.2.2.2.2.2.2.2.1) (ur_15.2.2.2.2.2.2.2.2.1) (ur_15.2.2.2.2.2.2.2.2.2.1) (ur_15.2.2.2.2.2.2.2.2.2.2.1) (ur_15.2.2.2.2.2.2.2.2.2.2.2.1) (ur_15.2.2.2.2.2.2.2.2.2.2.2.2.1) (ur_15.2.2.2.2.2.2.2.2.2.2.2.2.2.1) (ur_15.2.2.2.2.2.2.2.2.2.2.2.2.2.2.1) (ur_15.2.2.2.2.2.2.2.2.2.2.2.2.2.2.2)] at hDr_15
        have hX_17 : (x_16.toInt ≤ (farI ((ur_15.2.2.1) n_1) ((A 13) n_1)).toInt ∧ (farI ((ur_15.2.2.1) n_1) ((A 13) n_1)).toInt ≤ 63) ∧ ∃ b : Nat, ASR A cd pk p0 n_1 b (uA (uA (uA (uA (uA (uA (uA (uA (uA (uA (uA (uA (uA (uA (uA (uA A 8 (ur_15.1)) 9 (ur_15.2.1)) 12 (ur_15.2.2.1)) 15 (ur_15.2.2.2.1)) 16 (ur_15.2.2.2.2.1)) 17 (ur_15.2.2.2.2.2.1)) 18 (ur_15.2.2.2.2.2.2.1)) 20 (ur_15.2.2.2.2.2.2.2.1)) 22 (ur_15.2.2.2.2.2.2.2.2.1)) 23 (ur_15.2.2.2.2.2.2.2.2.2.1)) 24 (ur_15.2.2.2.2.2.2.2.2.2.2.1)) 25 (ur_15.2.2.2.2.2.2.2.2.2.2.2.1)) 26 (ur_15.2.2.2.2.2.2.2.2.2.2.2.2.1)) 27 (ur_15.2.2.2.2.2.2.2.2.2.2.2.2.2.1)) 28 (ur_15.2.2.2.2.2.2.2.2.2.2.2.2.2.2.1)) 29 (ur_15.2.2.2.2.2.2.2.2.2.2.2.2.2.2.2)) ∧ ((x_16.toInt = p1.toInt - b ∧ (0 ≤ x_16.toInt ∨ b = 0)) ∨ (x_16.toInt = -1 ∧ (b : Int) < p1.toInt ∧ ∃ w : Int32, HC (uA (uA (uA (uA (uA (uA (uA (uA (uA (uA (uA (uA (uA (uA (uA (uA A 8 (ur_15.1)) 9 (ur_15.2.1)) 12 (ur_15.2.2.1)) 15 (ur_15.2.2.2.1)) 16 (ur_15.2.2.2.2.1)) 17 (ur_15.2.2.2.2.2.1)) 18 (ur_15.2.2.2.2.2.2.1)) 20 (ur_15.2.2.2.2.2.2.2.1)) 22 (ur_15.2.2.2.2.2.2.2.2.1)) 23 (ur_15.2.2.2.2.2.2.2.2.2.1)) 24 (ur_15.2.2.2.2.2.2.2.2.2.2.1)) 25 (ur_15.2.2.2.2.2.2.2.2.2.2.2.1)) 26 (ur_15.2.2.2.2.2.2.2.2.2.2.2.2.1)) 27 (ur_15.2.2.2.2.2.2.2.2.2.2.2.2.2.1)) 28 (ur_15.2.2.2.2.2.2.2.2.2.2.2.2.2.2.1)) 29 (ur_15.2.2.2.2.2.2.2.2.2.2.2.2.2.2.2)) cd pk p0 n_1 w ∧ w.toInt ≠ 0)) := ⟨⟨by omega, by omega⟩, b9 + 1, ⟨_, f9, ⟨_, iahpr_12_1, by rw [← w9]; exact hDr_13⟩, hDr_15⟩, Or.inl ⟨by omega, Or.inl (by omega)⟩⟩
        exact ih_7 _ (by omega) _ _ _ ⟨x_16, ((ur_15.1), (ur_15.2.1), (ur_15.2.2.1), (ur_15.2.2.2.1), (ur_15.2.2.2.2.1), (ur_15.2.2.2.2.2.1), (ur_15.2.2.2.2.2.2.1), (ur_15.2.2.2.2.2.2.2.1), (ur_15.2.2.2.2.2.2.2.2.1), (ur_15.2.2.2.2.2.2.2.2.2.1), (ur_15.2.2.2.2.2.2.2.2.2.2.1), (ur_15.2.2.2.2.2.2.2.2.2.2.2.1), (ur_15.2.2.2.2.2.2.2.2.2.2.2.2.1), (ur_15.2.2.2.2.2.2.2.2.2.2.2.2.2.1), (ur_15.2.2.2.2.2.2.2.2.2.2.2.2.2.2.1), (ur_15.2.2.2.2.2.2.2.2.2.2.2.2.2.2.2)), (by first | omega | decide), rfl, (by show MH E h0 rf t0 t1 t2 (uA (uA (uA (uA (uA (uA (uA (uA (uA (uA (uA (uA (uA (uA (uA (uA A 8 (ur_15.1)) 9 (ur_15.2.1)) 12 (ur_15.2.2.1)) 15 (ur_15.2.2.2.1)) 16 (ur_15.2.2.2.2.1)) 17 (ur_15.2.2.2.2.2.1)) 18 (ur_15.2.2.2.2.2.2.1)) 20 (ur_15.2.2.2.2.2.2.2.1)) 22 (ur_15.2.2.2.2.2.2.2.2.1)) 23 (ur_15.2.2.2.2.2.2.2.2.2.1)) 24 (ur_15.2.2.2.2.2.2.2.2.2.2.1)) 25 (ur_15.2.2.2.2.2.2.2.2.2.2.2.1)) 26 (ur_15.2.2.2.2.2.2.2.2.2.2.2.2.1)) 27 (ur_15.2.2.2.2.2.2.2.2.2.2.2.2.2.1)) 28 (ur_15.2.2.2.2.2.2.2.2.2.2.2.2.2.2.1)) 29 (ur_15.2.2.2.2.2.2.2.2.2.2.2.2.2.2.2)) cd pk _; exact hM.cg9 rfl rfl rfl rfl rfl rfl rfl rfl rfl rfl rfl rfl rfl rfl rfl rfl rfl rfl rfl rfl rfl rfl rfl rfl rfl rfl rfl rfl rfl rfl rfl rfl rfl rfl rfl rfl rfl rfl rfl rfl rfl rfl rfl rfl), hpr_15_0, hpr_15_1, hpr_15_2, hpr_15_3, hX_17, hS, hl⟩
      · simp only [lt_I, le_I, eq_I, i_0, i_1, i_2, i_3, i_4, i_5, i_6, i_7, i_8, i_10, i_12, i_16, i_20, i_23, i_24, i_31, i_32, i_63, i_64, i_m1, i_9, i_11, i_13, i_25, i_60, i_75, i_79, i_80, i_96, i_100] at c_14
        refine lv_iconst (v := 0) hx hb dX10_answerSome_44 (by decide) ?_
        refine lv_istore_n (lv' := [(3, .int 0), (0, .ref h0), (1, .int p0), (2, .int p1)]) hx hb dX10_answerSome_45 rfl hl (by decide) rfl (fun ls hl => ?_)
        refine lv_goto (tgt := 54) hx hb dX10_answerSome_46 (by decide) ?_
        refine lv_iinc (v := (-1)) (lv' := [(3, .int (-1)), (0, .ref h0), (1, .int p0), (2, .int p1)]) hx hb dX10_answerSome_54 hl (k := 0) rfl (by decide) (by decide) rfl (fun ls hl => ?_)
        refine lv_goto (tgt := 22) hx hb dX10_answerSome_57 (by decide) ?_
        obtain ⟨hx9, b9, f9, o9⟩ := hx_7
        have o9 := o9.resolve_right (fun h => by omega)
        have hX_18 : ((-1 : Int32).toInt ≤ (farI ((u_7.2.2.1) n_1) ((A 13) n_1)).toInt ∧ (farI ((u_7.2.2.1) n_1) ((A 13) n_1)).toInt ≤ 63) ∧ ∃ b : Nat, ASR A cd pk p0 n_1 b (uA (uA (uA (uA (uA (uA (uA (uA (uA (uA (uA (uA (uA (uA (uA (uA A 8 (u_7.1)) 9 (u_7.2.1)) 12 (u_7.2.2.1)) 15 (u_7.2.2.2.1)) 16 (u_7.2.2.2.2.1)) 17 (u_7.2.2.2.2.2.1)) 18 (u_7.2.2.2.2.2.2.1)) 20 (u_7.2.2.2.2.2.2.2.1)) 22 (u_7.2.2.2.2.2.2.2.2.1)) 23 (u_7.2.2.2.2.2.2.2.2.2.1)) 24 (u_7.2.2.2.2.2.2.2.2.2.2.1)) 25 (u_7.2.2.2.2.2.2.2.2.2.2.2.1)) 26 (u_7.2.2.2.2.2.2.2.2.2.2.2.2.1)) 27 (u_7.2.2.2.2.2.2.2.2.2.2.2.2.2.1)) 28 (u_7.2.2.2.2.2.2.2.2.2.2.2.2.2.2.1)) 29 (u_7.2.2.2.2.2.2.2.2.2.2.2.2.2.2.2)) ∧ (((-1 : Int32).toInt = p1.toInt - b ∧ (0 ≤ (-1 : Int32).toInt ∨ b = 0)) ∨ ((-1 : Int32).toInt = -1 ∧ (b : Int) < p1.toInt ∧ ∃ w : Int32, HC (uA (uA (uA (uA (uA (uA (uA (uA (uA (uA (uA (uA (uA (uA (uA (uA A 8 (u_7.1)) 9 (u_7.2.1)) 12 (u_7.2.2.1)) 15 (u_7.2.2.2.1)) 16 (u_7.2.2.2.2.1)) 17 (u_7.2.2.2.2.2.1)) 18 (u_7.2.2.2.2.2.2.1)) 20 (u_7.2.2.2.2.2.2.2.1)) 22 (u_7.2.2.2.2.2.2.2.2.1)) 23 (u_7.2.2.2.2.2.2.2.2.2.1)) 24 (u_7.2.2.2.2.2.2.2.2.2.2.1)) 25 (u_7.2.2.2.2.2.2.2.2.2.2.2.1)) 26 (u_7.2.2.2.2.2.2.2.2.2.2.2.2.1)) 27 (u_7.2.2.2.2.2.2.2.2.2.2.2.2.2.1)) 28 (u_7.2.2.2.2.2.2.2.2.2.2.2.2.2.2.1)) 29 (u_7.2.2.2.2.2.2.2.2.2.2.2.2.2.2.2)) cd pk p0 n_1 w ∧ w.toInt ≠ 0)) := ⟨⟨by have := i_m1; omega, by omega⟩, b9, f9, Or.inr ⟨by have := i_m1; omega, by omega, _, ⟨_, iahpr_12_1, hDr_13⟩, by omega⟩⟩
        exact ih_7 _ (by have := i_m1; omega) _ _ _ ⟨(-1), ((u_7.1), (u_7.2.1), (u_7.2.2.1), (u_7.2.2.2.1), (u_7.2.2.2.2.1), (u_7.2.2.2.2.2.1), (u_7.2.2.2.2.2.2.1), (u_7.2.2.2.2.2.2.2.1), (u_7.2.2.2.2.2.2.2.2.1), (u_7.2.2.2.2.2.2.2.2.2.1), (u_7.2.2.2.2.2.2.2.2.2.2.1), (u_7.2.2.2.2.2.2.2.2.2.2.2.1), (u_7.2.2.2.2.2.2.2.2.2.2.2.2.1), (u_7.2.2.2.2.2.2.2.2.2.2.2.2.2.1), (u_7.2.2.2.2.2.2.2.2.2.2.2.2.2.2.1), (u_7.2.2.2.2.2.2.2.2.2.2.2.2.2.2.2)), (by have := i_m1; first | omega | decide), rfl, hM, hI3_7, hI4_7, hI6_7, hI8_7, hX_18, hS, hl⟩
  · simp only [lt_I, le_I, eq_I, i_0, i_1, i_2, i_3, i_4, i_5, i_6, i_7, i_8, i_10, i_12, i_16, i_20, i_23, i_24, i_31, i_32, i_63, i_64, i_m1, i_9, i_11, i_13, i_25, i_60, i_75, i_79, i_80, i_96, i_100] at c_6
    exact W.vret hx hb hr (fun t ht hW => ⟨⟨((A 8), (A 9), (A 12), (A 15), (A 16), (A 17), (A 18), (A 20), (A 22), (A 23), (A 24), (A 25), (A 26), (A 27), (A 28), (A 29)), rfl, ⟨hI3, hI4, hI6, hI8, (Or.inr ⟨n_1, hn_1, x_5, ex_5, fx_5, c_6, rfl, rfl, rfl⟩)⟩, (by show MH E h0 rf t0 t1 t2 (uA (uA (uA (uA (uA (uA (uA (uA (uA (uA (uA (uA (uA (uA (uA (uA A 8 (A 8)) 9 (A 9)) 12 (A 12)) 15 (A 15)) 16 (A 16)) 17 (A 17)) 18 (A 18)) 20 (A 20)) 22 (A 22)) 23 (A 23)) 24 (A 24)) 25 (A 25)) 26 (A 26)) 27 (A 27)) 28 (A 28)) 29 (A 29)) cd pk t.heap; rw [ht]; exact hM.cg9 rfl rfl rfl rfl rfl rfl rfl rfl rfl rfl rfl rfl rfl rfl rfl rfl rfl rfl rfl rfl rfl rfl rfl rfl rfl rfl rfl rfl rfl rfl rfl rfl rfl rfl rfl rfl rfl rfl rfl rfl rfl rfl rfl rfl)⟩, hS.F ht⟩) hS.2.2 dX10_answerSome_19

