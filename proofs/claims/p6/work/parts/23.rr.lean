theorem dX9_init_0 : decode cX9_init 0 = .ok (.aload_n 0, 1) := by decide +kernel
theorem dX9_init_1 : decode cX9_init 1 = .ok (.invokespecial 3, 3) := by decide +kernel
theorem dX9_init_4 : decode cX9_init 4 = .ok (.iload_n 1, 1) := by decide +kernel
theorem dX9_init_5 : decode cX9_init 5 = .ok (.iconst 2, 1) := by decide +kernel
theorem dX9_init_6 : decode cX9_init 6 = .ok (.bipush 20, 2) := by decide +kernel
theorem dX9_init_8 : decode cX9_init 8 = .ok (.invokestatic 9, 3) := by decide +kernel
theorem dX9_init_11 : decode cX9_init 11 = .ok (.istore 4, 2) := by decide +kernel
theorem dX9_init_13 : decode cX9_init 13 = .ok (.iload_n 2, 1) := by decide +kernel
theorem dX9_init_14 : decode cX9_init 14 = .ok (.iconst 0, 1) := by decide +kernel
theorem dX9_init_15 : decode cX9_init 15 = .ok (.bipush 7, 2) := by decide +kernel
theorem dX9_init_17 : decode cX9_init 17 = .ok (.invokestatic 9, 3) := by decide +kernel
theorem dX9_init_20 : decode cX9_init 20 = .ok (.istore 5, 2) := by decide +kernel
theorem dX9_init_22 : decode cX9_init 22 = .ok (.iload_n 3, 1) := by decide +kernel
theorem dX9_init_23 : decode cX9_init 23 = .ok (.iconst 0, 1) := by decide +kernel
theorem dX9_init_24 : decode cX9_init 24 = .ok (.bipush 7, 2) := by decide +kernel
theorem dX9_init_26 : decode cX9_init 26 = .ok (.invokestatic 9, 3) := by decide +kernel
theorem dX9_init_29 : decode cX9_init 29 = .ok (.istore 6, 2) := by decide +kernel
theorem dX9_init_31 : decode cX9_init 31 = .ok (.aload_n 0, 1) := by decide +kernel
theorem dX9_init_32 : decode cX9_init 32 = .ok (.new 13, 3) := by decide +kernel
theorem dX9_init_35 : decode cX9_init 35 = .ok (.dup, 1) := by decide +kernel
theorem dX9_init_36 : decode cX9_init 36 = .ok (.invokespecial 15, 3) := by decide +kernel
theorem dX9_init_39 : decode cX9_init 39 = .ok (.putfield 16, 3) := by decide +kernel
theorem dX9_init_42 : decode cX9_init 42 = .ok (.aload_n 0, 1) := by decide +kernel
theorem dX9_init_43 : decode cX9_init 43 = .ok (.iconst 2, 1) := by decide +kernel
theorem dX9_init_44 : decode cX9_init 44 = .ok (.anewarray 20, 3) := by decide +kernel
theorem dX9_init_47 : decode cX9_init 47 = .ok (.putfield 22, 3) := by decide +kernel
theorem dX9_init_50 : decode cX9_init 50 = .ok (.iconst 0, 1) := by decide +kernel
theorem dX9_init_51 : decode cX9_init 51 = .ok (.istore 7, 2) := by decide +kernel
theorem dX9_init_53 : decode cX9_init 53 = .ok (.iload 7, 2) := by decide +kernel
theorem dX9_init_55 : decode cX9_init 55 = .ok (.iconst 2, 1) := by decide +kernel
theorem dX9_init_56 : decode cX9_init 56 = .ok (.if_icmp .ge 23, 3) := by decide +kernel
theorem dX9_init_59 : decode cX9_init 59 = .ok (.aload_n 0, 1) := by decide +kernel
theorem dX9_init_60 : decode cX9_init 60 = .ok (.getfield 22, 3) := by decide +kernel
theorem dX9_init_63 : decode cX9_init 63 = .ok (.iload 7, 2) := by decide +kernel
theorem dX9_init_65 : decode cX9_init 65 = .ok (.new 20, 3) := by decide +kernel
theorem dX9_init_68 : decode cX9_init 68 = .ok (.dup, 1) := by decide +kernel
theorem dX9_init_69 : decode cX9_init 69 = .ok (.invokespecial 26, 3) := by decide +kernel
theorem dX9_init_72 : decode cX9_init 72 = .ok (.aastore, 1) := by decide +kernel
theorem dX9_init_73 : decode cX9_init 73 = .ok (.iinc 7 1, 3) := by decide +kernel
theorem dX9_init_76 : decode cX9_init 76 = .ok (.goto (-23), 3) := by decide +kernel
theorem dX9_init_79 : decode cX9_init 79 = .ok (.aload_n 0, 1) := by decide +kernel
theorem dX9_init_80 : decode cX9_init 80 = .ok (.iconst 4, 1) := by decide +kernel
theorem dX9_init_81 : decode cX9_init 81 = .ok (.anewarray 27, 3) := by decide +kernel
theorem dX9_init_84 : decode cX9_init 84 = .ok (.putfield 29, 3) := by decide +kernel
theorem dX9_init_87 : decode cX9_init 87 = .ok (.iconst 0, 1) := by decide +kernel
theorem dX9_init_88 : decode cX9_init 88 = .ok (.istore 7, 2) := by decide +kernel
theorem dX9_init_90 : decode cX9_init 90 = .ok (.iload 7, 2) := by decide +kernel
theorem dX9_init_92 : decode cX9_init 92 = .ok (.iconst 4, 1) := by decide +kernel
theorem dX9_init_93 : decode cX9_init 93 = .ok (.if_icmp .ge 74, 3) := by decide +kernel
theorem dX9_init_96 : decode cX9_init 96 = .ok (.aload_n 0, 1) := by decide +kernel
theorem dX9_init_97 : decode cX9_init 97 = .ok (.getfield 22, 3) := by decide +kernel
theorem dX9_init_100 : decode cX9_init 100 = .ok (.iload 7, 2) := by decide +kernel
theorem dX9_init_102 : decode cX9_init 102 = .ok (.iconst 2, 1) := by decide +kernel
theorem dX9_init_103 : decode cX9_init 103 = .ok (.irem, 1) := by decide +kernel
theorem dX9_init_104 : decode cX9_init 104 = .ok (.aaload, 1) := by decide +kernel
theorem dX9_init_105 : decode cX9_init 105 = .ok (.astore 8, 2) := by decide +kernel
theorem dX9_init_107 : decode cX9_init 107 = .ok (.new 33, 3) := by decide +kernel
theorem dX9_init_110 : decode cX9_init 110 = .ok (.dup, 1) := by decide +kernel
theorem dX9_init_111 : decode cX9_init 111 = .ok (.iload 7, 2) := by decide +kernel
theorem dX9_init_113 : decode cX9_init 113 = .ok (.aload 8, 2) := by decide +kernel
theorem dX9_init_115 : decode cX9_init 115 = .ok (.aload_n 0, 1) := by decide +kernel
theorem dX9_init_116 : decode cX9_init 116 = .ok (.getfield 16, 3) := by decide +kernel
theorem dX9_init_119 : decode cX9_init 119 = .ok (.iload 4, 2) := by decide +kernel
theorem dX9_init_121 : decode cX9_init 121 = .ok (.iload 5, 2) := by decide +kernel
theorem dX9_init_123 : decode cX9_init 123 = .ok (.iload 6, 2) := by decide +kernel
theorem dX9_init_125 : decode cX9_init 125 = .ok (.invokespecial 35, 3) := by decide +kernel
theorem dX9_init_128 : decode cX9_init 128 = .ok (.astore 9, 2) := by decide +kernel
theorem dX9_init_130 : decode cX9_init 130 = .ok (.aload_n 0, 1) := by decide +kernel
theorem dX9_init_131 : decode cX9_init 131 = .ok (.getfield 29, 3) := by decide +kernel
theorem dX9_init_134 : decode cX9_init 134 = .ok (.iload 7, 2) := by decide +kernel
theorem dX9_init_136 : decode cX9_init 136 = .ok (.new 27, 3) := by decide +kernel
theorem dX9_init_139 : decode cX9_init 139 = .ok (.dup, 1) := by decide +kernel
theorem dX9_init_140 : decode cX9_init 140 = .ok (.aload 9, 2) := by decide +kernel
theorem dX9_init_142 : decode cX9_init 142 = .ok (.new 38, 3) := by decide +kernel
theorem dX9_init_145 : decode cX9_init 145 = .ok (.dup, 1) := by decide +kernel
theorem dX9_init_146 : decode cX9_init 146 = .ok (.iload 7, 2) := by decide +kernel
theorem dX9_init_148 : decode cX9_init 148 = .ok (.aload 8, 2) := by decide +kernel
theorem dX9_init_150 : decode cX9_init 150 = .ok (.aload_n 0, 1) := by decide +kernel
theorem dX9_init_151 : decode cX9_init 151 = .ok (.getfield 16, 3) := by decide +kernel
theorem dX9_init_154 : decode cX9_init 154 = .ok (.invokespecial 40, 3) := by decide +kernel
theorem dX9_init_157 : decode cX9_init 157 = .ok (.invokespecial 43, 3) := by decide +kernel
theorem dX9_init_160 : decode cX9_init 160 = .ok (.aastore, 1) := by decide +kernel
theorem dX9_init_161 : decode cX9_init 161 = .ok (.iinc 7 1, 3) := by decide +kernel
theorem dX9_init_164 : decode cX9_init 164 = .ok (.goto (-74), 3) := by decide +kernel
theorem dX9_init_167 : decode cX9_init 167 = .ok (.return_, 1) := by decide +kernel
set_option maxHeartbeats 16000000 in
set_option maxRecDepth 100000 in
theorem c_X9_init (l : Launch) (E : EE) (z0 : Nat) (G : Nat → Nat) (h0 sz : Nat) (p0 : Int32) (p1 : Int32) (p2 : Int32) (hG0 : G h0 = 0) (hz0 : z0 ≤ h0) (hz1 : z0 ≤ sz)  : Met l yX9_init [Cond.code yX9_init cX9_init 10 none] ({ frames := 4, cells := 144, slots := 1148, locals := 89 } : Room) (va_Pc [.ref h0, .int p0, .int p1, .int p2] (fun U => (U.heap.size = sz ∧ va_at (DG E) vwCl (h0, .inr (9, [.null, .null, .null])) U.heap ∧ TH E (T0 E) G [] U.heap) ∧ KS E z0 U)) (va_Qv (fun (G1 : Nat → Nat) => GX G G1 h0 1 sz) (fun G1 t => TH E (T0 E) G1 [] t.heap) (AC h0 sz)) 144 1148 (AC h0 sz) := by
  refine Met.ofW (cc := cX9_init) (maxL := 10) (ret := none) (by decide) rfl ?_
  intro p e s m args below meth c s₁ B hml hv
  obtain ⟨rfl, ⟨hsz, hr0, hT⟩, hK⟩ := hv
  have hx := B.exec
  have hb := B.bytes
  have hr := B.returns
  have hts : ∀ w ∈ TS, w.before ([.ref h0, .int p0, .int p1, .int p2] : List Value).toArray s = true := fun w hw => hK.2.1 w hw _
  have hown : s.vm.findClass RX9 = some m.cls := findClass_of_methodNamed B.named
  have hlocks := B.notSynchronized
  have hin : meth.name = "<init>" := (name_of_methodNamed B.named B.method).1
  have hS : va_S (AC h0 sz) s.heap s.heap [] := va_S.rf
  have hAz : ∀ q, AC h0 sz q → z0 ≤ q := fun q h => h.elim (fun e => by omega) (fun e => by omega)
  have hE : GE G G h0 sz := GE.rf
  have hlt0 : h0 < sz := by have h9 := hr0.lt; have h8 : h0 < _ := h9; omega
  obtain ⟨H, eH⟩ : ∃ H, H = s.heap := ⟨_, rfl⟩
  rw [← eH] at hr0 hT
  have hS : va_S (AC h0 sz) s.heap H [] := by rw [eH]; exact hS
  rw [← eH]
  have hsz : s.heap.size = sz := hsz
  have hl := lv_entry ([.ref h0, .int p0, .int p1, .int p2]) (n := 10) (Nat.le_of_ble_eq_true rfl)
  rw [lg_entry_eq]
  generalize (lg_sl ([.ref h0, .int p0, .int p1, .int p2]) ++ List.replicate (10 - (lg_sl ([.ref h0, .int p0, .int p1, .int p2])).length) Slot.unset).toArray = ls at hl ⊢
  have hl : lv_has ls 10 [(0, .ref h0), (1, .int p0), (2, .int p1), (3, .int p2)] := hl
  refine lv_aload_n hx hb dX9_init_0 rfl (lv_at hl 0 rfl) ?_
  refine W.objInit hx hb hown (hts _ ml_X9_3) (hts _ im_Object__init_) (hts _ co_Object__init_) rfl (by rw [hml]; exact hl.1) rfl dX9_init_1 (Nat.le_of_ble_eq_true rfl) (Nat.le_of_ble_eq_true rfl) ?_
  refine W.eq (g2 := F0 m 4 ls []) rfl ?_
  refine lv_iload_n hx hb dX9_init_4 rfl (lv_at hl 1 rfl) ?_
  refine lv_iconst (v := 2) hx hb dX9_init_5 (by decide) ?_
  refine lv_bipush (v := 20) hx hb dX9_init_6 (by decide) ?_
  refine va_calli (rnS (fun _ => True) (As := [.int p0, .int 2, .int 20]) (rest := []) ⟨hx, hb, hml, hown, hts⟩ (c_X9_within l E z0 p0 2 20) (cwS 3 hts (gdS ml_X9_9 st_X9_within in_X9 co_X9_within rfl) rfl rfl rfl (by decide +kernel) ⟨Nat.le_of_ble_eq_true rfl, Nat.le_of_ble_eq_true rfl⟩) trivial (fun U hU hW => hK.go hW hS hAz hU) rfl rfl hl.1 rfl (lv_room (Nat.le_of_ble_eq_true rfl)) dX9_init_8 ⟨Nat.le_of_ble_eq_true rfl, Nat.le_of_ble_eq_true rfl⟩) hS (fun q _ h => h.elim) (fun q h => h.elim) (fun x_1 _ t H locs ht hvm hw hB hz hk hS => ?_)
  have hr0 := hr0.kept (hk _ hr0.lt (fun h => h))
  have hT := hT.kept (fun q hq => hk q hq (fun h => h))
  refine lv_istore (lv' := [(4, .int x_1), (0, .ref h0), (1, .int p0), (2, .int p1), (3, .int p2)]) hx hb dX9_init_11 hl (by decide) rfl (fun ls hl => ?_)
  refine lv_iload_n hx hb dX9_init_13 rfl (lv_at hl 3 rfl) ?_
  refine lv_iconst (v := 0) hx hb dX9_init_14 (by decide) ?_
  refine lv_bipush (v := 7) hx hb dX9_init_15 (by decide) ?_
  refine va_calli (rnS (fun _ => True) (As := [.int p1, .int 0, .int 7]) (rest := []) ⟨hx, hb, hml, hown, hts⟩ (c_X9_within l E z0 p1 0 7) (cwS 3 hts (gdS ml_X9_9 st_X9_within in_X9 co_X9_within rfl) rfl rfl rfl (by decide +kernel) ⟨Nat.le_of_ble_eq_true rfl, Nat.le_of_ble_eq_true rfl⟩) trivial (fun U hU hW => hK.go hW hS hAz hU) rfl rfl hl.1 rfl (lv_room (Nat.le_of_ble_eq_true rfl)) dX9_init_17 ⟨Nat.le_of_ble_eq_true rfl, Nat.le_of_ble_eq_true rfl⟩) hS (fun q _ h => h.elim) (fun q h => h.elim) (fun x_2 _ t H locs ht hvm hw hB hz hk hS => ?_)
  have hr0 := hr0.kept (hk _ hr0.lt (fun h => h))
  have hT := hT.kept (fun q hq => hk q hq (fun h => h))
  refine lv_istore (lv' := [(5, .int x_2), (4, .int x_1), (0, .ref h0), (1, .int p0), (2, .int p1), (3, .int p2)]) hx hb dX9_init_20 hl (by decide) rfl (fun ls hl => ?_)
  refine lv_iload_n hx hb dX9_init_22 rfl (lv_at hl 5 rfl) ?_
  refine lv_iconst (v := 0) hx hb dX9_init_23 (by decide) ?_
  refine lv_bipush (v := 7) hx hb dX9_init_24 (by decide) ?_
  refine va_calli (rnS (fun _ => True) (As := [.int p2, .int 0, .int 7]) (rest := []) ⟨hx, hb, hml, hown, hts⟩ (c_X9_within l E z0 p2 0 7) (cwS 3 hts (gdS ml_X9_9 st_X9_within in_X9 co_X9_within rfl) rfl rfl rfl (by decide +kernel) ⟨Nat.le_of_ble_eq_true rfl, Nat.le_of_ble_eq_true rfl⟩) trivial (fun U hU hW => hK.go hW hS hAz hU) rfl rfl hl.1 rfl (lv_room (Nat.le_of_ble_eq_true rfl)) dX9_init_26 ⟨Nat.le_of_ble_eq_true rfl, Nat.le_of_ble_eq_true rfl⟩) hS (fun q _ h => h.elim) (fun q h => h.elim) (fun x_3 _ t H locs ht hvm hw hB hz hk hS => ?_)
  have hr0 := hr0.kept (hk _ hr0.lt (fun h => h))
  have hT := hT.kept (fun q hq => hk q hq (fun h => h))
  refine lv_istore (lv' := [(6, .int x_3), (5, .int x_2), (4, .int x_1), (0, .ref h0), (1, .int p0), (2, .int p1), (3, .int p2)]) hx hb dX9_init_29 hl (by decide) rfl (fun ls hl => ?_)
  refine lv_aload_n hx hb dX9_init_31 rfl (lv_at hl 3 rfl) ?_
  have hSo : s.heap.size ≤ _ := hS.1
  refine rr_new (ci := 0) (fs := [.null, .int 0, .null, .null]) (C := RX0) (T := TX0) (N := 4) hx hb hts iw_X0 tyX0 tyX0_ok hown (hts _ cl_X9_13) (hts _ ia_X0) (hts _ in_X0) hK.1 hS rfl (fun j hj => by rcases (show j = 0 ∨ j = 1 ∨ j = 2 ∨ j = 3 by omega) with rfl | rfl | rfl | rfl <;> rfl) (Nat.le_of_ble_eq_true rfl) (Nat.le_of_ble_eq_true rfl) dX9_init_32 (fun q_4 H hq hat hz ho hS => ?_)
  have hr_5 := hat
  have zq_4 := hT.fresh hq
  have neq_4_h0 : h0 ≠ q_4 := ne_q hr0.lt hq
  have hr0 := hr0.kept (ho _ hr0.lt)
  have szq_4 : sz ≤ q_4 := le_q hsz hSo hq
  have hT := hT.kept ho
  refine lv_dup hx hb dX9_init_35 rfl ?_
  obtain ⟨sz_hs_6, hs_6⟩ : ∃ z, z = H.size := ⟨_, rfl⟩
  have szshs_6 : sz ≤ sz_hs_6 := le_q hsz hS.1 hs_6
  refine va_callv (rnI (fun H => H.size = sz_hs_6 ∧ va_at (DG E) vwCl (q_4, .inr (0, [.null, .int 0, .null, .null])) H ∧ TH E (T0 E) G [] H) (As := []) (rest := [.ref q_4, .ref h0]) ⟨hx, hb, hml, hown, hts⟩ (c_X0_init l E z0 G q_4 sz_hs_6  zq_4 (Nat.le_trans hz1 szq_4) (Nat.le_trans hz1 szshs_6) ) (cwI 0 hts (gd1 co_X0_init rfl) rfl rfl rfl (hts _ in_X0) (hts _ ml_X9_15) (hts _ im_X0_init) rfl (by decide +kernel) ⟨Nat.le_of_ble_eq_true rfl, Nat.le_of_ble_eq_true rfl⟩) ⟨hs_6.symm, hr_5, hT⟩ (fun U hU hW => hK.go hW hS hAz hU) rfl rfl hl.1 rfl (lv_room (Nat.le_of_ble_eq_true rfl)) dX9_init_36 ⟨Nat.le_of_ble_eq_true rfl, Nat.le_of_ble_eq_true rfl⟩) hS (fun q _ h => h.elim (fun e => by rw [e]; exact (Or.inr szq_4)) (fun h => Or.inr (Nat.le_trans szshs_6 h))) (fun q h => h.elim (fun e => by rw [e]; exact (Or.inr szq_4)) (fun h => Or.inr (Nat.le_trans szshs_6 h))) (fun G_7 t H locs ht hvm hw hB hz hk hS => ?_)
  have hw_8 := hw
  rw [ht] at hB
  have lth0 : h0 < sz_hs_6 := ltz_s hr0.lt hs_6
  have hr0 := hr0.kept (hk _ hr0.lt (fun h => h.elim neq_4_h0 (fun h => absurd h (Nat.not_le.mpr lth0))))
  have hG0 : G_7 h0 = 0 := gx_0 hw_8 hG0 neq_4_h0 lth0
  have gq_9 : G_7 q_4 = 4 := hw_8.2
  have hE := hE.step hw_8 szq_4 szshs_6
  have hT : TH E (T0 E) G_7 [] H := hB
  refine rr_putF (D := DG E) (ci := 9) (v := .ref q_4) (ty := .object "RemoteReach$Fabric") (C := RX9) (T := TX9) (N := 3) hx hb hts iw_X9 tyX9 tyX9_ok nmX9 hown hK.1 hr0 hS (Or.inl rfl) rfl 2 (by decide) (hts _ fl_X9_16) (fun _ h9 => h9) rfl hin rfl (by decide +kernel) rfl rfl (Nat.le_of_ble_eq_true rfl) dX9_init_39 (fun H locs hn ho hz hS => ?_)
  have hr_10 : va_at (DG E) vwCl (h0, .inr (9, [.null, .null, .ref q_4])) H := hn
  have hT := hT.off hG0 ho
  refine lv_aload_n hx hb dX9_init_42 rfl (lv_at hl 3 rfl) ?_
  refine lv_iconst (v := 2) hx hb dX9_init_43 (by decide) ?_
  have hSo : s.heap.size ≤ _ := hS.1
  refine rr_newq (D := DG E) (N' := 2) hx hb hown (hts _ cl_X9_20) (hts _ ao_X1) hK.1 3 rfl hS (by decide) (by decide) (by decide) (Nat.le_of_ble_eq_true rfl) (Nat.le_of_ble_eq_true rfl) dX9_init_44 (fun q_11 H hq hat hz ho hS => ?_)
  have hr_12 := hat
  have zq_11 := hT.fresh hq
  have neq_11_h0 : h0 ≠ q_11 := ne_q hr_10.lt hq
  have hr_10 := hr_10.kept (ho _ hr_10.lt)
  have szq_11 : sz ≤ q_11 := le_q hsz hSo hq
  have hT := hT.kept ho
  have hf_13 : ∀ j, j < 0 → ∃ b, (fun _ : Nat => (none : Option Nat)) j = some b ∧ G_7 b = 5 := af_0
  refine rr_putF (D := DG E) (ci := 9) (v := .ref q_11) (ty := .array (.object "RemoteReach$Node")) (C := RX9) (T := TX9) (N := 3) hx hb hts iw_X9 tyX9 tyX9_ok nmX9 hown hK.1 hr_10 hS (Or.inl rfl) rfl 0 (by decide) (hts _ fl_X9_22) (fun _ h9 => h9) rfl hin rfl (by decide +kernel) rfl rfl (Nat.le_of_ble_eq_true rfl) dX9_init_47 (fun H locs hn ho hz hS => ?_)
  have hr_14 : va_at (DG E) vwCl (h0, .inr (9, [.ref q_11, .null, .ref q_4])) H := hn
  have hr_12 := hr_12.kept (ho _ (Ne.symm neq_11_h0))
  have hT := hT.off hG0 ho
  refine lv_iconst (v := 0) hx hb dX9_init_50 (by decide) ?_
  refine lv_istore (lv' := [(7, .int 0), (6, .int x_3), (5, .int x_2), (4, .int x_1), (0, .ref h0), (1, .int p0), (2, .int p1), (3, .int p2)]) hx hb dX9_init_51 hl (by decide) rfl (fun ls hl => ?_)
  refine lv_iload hx hb dX9_init_53 (lv_at hl 0 rfl) ?_
  refine lv_iconst (v := 2) hx hb dX9_init_55 (by decide) ?_
  refine lv_icmp_ge (tgt := 79) hx hb dX9_init_56 (by decide) (fun c_15 => absurd c_15 (by decide)) (fun c_15 => ?_)
  refine lv_aload_n hx hb dX9_init_59 rfl (lv_at hl 4 rfl) ?_
  refine va_get (D := DG E) (ci := 9) (v := .ref q_11) (C := RX9) (T := TX9) (N := 3) hx hb hts iw_X9 hown hK.1 (va_one hr_14) 0 rfl rfl 0 (by decide) (hts _ fl_X9_22) (fun _ h9 => h9) rfl dX9_init_60 ?_
  refine lv_iload hx hb dX9_init_63 (lv_at hl 0 rfl) ?_
  have hSo : s.heap.size ≤ _ := hS.1
  refine rr_new (ci := 1) (fs := [.null, .null, .null, .int 0, .int 0]) (C := RX1) (T := TX1) (N := 5) hx hb hts iw_X1 tyX1 tyX1_ok hown (hts _ cl_X9_20) (hts _ ia_X1) (hts _ in_X1) hK.1 hS rfl (fun j hj => by rcases (show j = 0 ∨ j = 1 ∨ j = 2 ∨ j = 3 ∨ j = 4 by omega) with rfl | rfl | rfl | rfl | rfl <;> rfl) (Nat.le_of_ble_eq_true rfl) (Nat.le_of_ble_eq_true rfl) dX9_init_65 (fun q_16 H hq hat hz ho hS => ?_)
  have hr_17 := hat
  have zq_16 := hT.fresh hq
  have neq_16_h0 : h0 ≠ q_16 := ne_q hr_14.lt hq
  have hr_14 := hr_14.kept (ho _ hr_14.lt)
  have neq_16_q_11 : q_11 ≠ q_16 := ne_q hr_12.lt hq
  have hr_12 := hr_12.kept (ho _ hr_12.lt)
  have szq_16 : sz ≤ q_16 := le_q hsz hSo hq
  have hT := hT.kept ho
  refine lv_dup hx hb dX9_init_68 rfl ?_
  obtain ⟨sz_hs_18, hs_18⟩ : ∃ z, z = H.size := ⟨_, rfl⟩
  have szshs_18 : sz ≤ sz_hs_18 := le_q hsz hS.1 hs_18
  refine va_callv (rnI (fun H => H.size = sz_hs_18 ∧ va_at (DG E) vwCl (q_16, .inr (1, [.null, .null, .null, .int 0, .int 0])) H ∧ TH E (T0 E) G_7 [] H) (As := []) (rest := [.ref q_16, .int 0, .ref q_11]) ⟨hx, hb, hml, hown, hts⟩ (c_X1_init l E z0 G_7 q_16 sz_hs_18  zq_16 (Nat.le_trans hz1 szq_16) (Nat.le_trans hz1 szshs_18) ) (cwI 0 hts (gd1 co_X1_init rfl) rfl rfl rfl (hts _ in_X1) (hts _ ml_X9_26) (hts _ im_X1_init) rfl (by decide +kernel) ⟨Nat.le_of_ble_eq_true rfl, Nat.le_of_ble_eq_true rfl⟩) ⟨hs_18.symm, hr_17, hT⟩ (fun U hU hW => hK.go hW hS hAz hU) rfl rfl hl.1 rfl (lv_room (Nat.le_of_ble_eq_true rfl)) dX9_init_69 ⟨Nat.le_of_ble_eq_true rfl, Nat.le_of_ble_eq_true rfl⟩) hS (fun q _ h => h.elim (fun e => by rw [e]; exact (Or.inr szq_16)) (fun h => Or.inr (Nat.le_trans szshs_18 h))) (fun q h => h.elim (fun e => by rw [e]; exact (Or.inr szq_16)) (fun h => Or.inr (Nat.le_trans szshs_18 h))) (fun G_19 t H locs ht hvm hw hB hz hk hS => ?_)
  have hw_20 := hw
  rw [ht] at hB
  have lth0 : h0 < sz_hs_18 := ltz_s hr_14.lt hs_18
  have hr_14 := hr_14.kept (hk _ hr_14.lt (fun h => h.elim neq_16_h0 (fun h => absurd h (Nat.not_le.mpr lth0))))
  have hG0 : G_19 h0 = 0 := gx_0 hw_20 hG0 neq_16_h0 lth0
  have ltq_11 : q_11 < sz_hs_18 := ltz_s hr_12.lt hs_18
  have hr_12 := hr_12.kept (hk _ hr_12.lt (fun h => h.elim neq_16_q_11 (fun h => absurd h (Nat.not_le.mpr ltq_11))))
  have zq_11 : G_19 q_11 = 0 := gx_0 hw_20 zq_11 neq_16_q_11 ltq_11
  have hf_13 := af_x hw_20 (by decide) hf_13
  have gp_21 : G_19 q_4 = 4 := gx_k hw_20 gq_9 (by decide)
  have gq_22 : G_19 q_16 = 5 := hw_20.2
  have hE := hE.step hw_20 szq_16 szshs_18
  have hT : TH E (T0 E) G_19 [] H := hB
  obtain ⟨cs_23, rg_23, rn_23, ha_23, hg_23_0, hg_23_1, hg_23_2⟩ := tg_5 hT gq_22 nx_0
  refine rr_aast (D := DG E) hx hb hK.1 3 1 hr_12 hS (Or.inr szq_11) rfl ha_23 rfl (show vp_in (0) 2 from vp_in_iff.mpr ⟨by decide, by decide⟩) dX9_init_72 (fun H locs hn ho hz hS => ?_)
  have hr_24 : va_at (DG E) vwCl (q_11, .inl (E.2.2 3, 2, .inr (.inr (.inr (.inr (va_up (fun _ => none) 0 (some q_16))))))) H := hn
  have hf_13 := af_push hf_13 gq_22
  have hr_14 := hr_14.kept (ho _ neq_11_h0)
  have hT := hT.off zq_11 ho
  refine lv_iinc (v := 1) (lv' := [(7, .int 1), (6, .int x_3), (5, .int x_2), (4, .int x_1), (0, .ref h0), (1, .int p0), (2, .int p1), (3, .int p2)]) hx hb dX9_init_73 hl (k := 0) rfl (by decide) (by decide) rfl (fun ls hl => ?_)
  refine lv_goto (tgt := 53) hx hb dX9_init_76 (by decide) ?_
  refine lv_iload hx hb dX9_init_53 (lv_at hl 0 rfl) ?_
  refine lv_iconst (v := 2) hx hb dX9_init_55 (by decide) ?_
  refine lv_icmp_ge (tgt := 79) hx hb dX9_init_56 (by decide) (fun c_25 => absurd c_25 (by decide)) (fun c_25 => ?_)
  refine lv_aload_n hx hb dX9_init_59 rfl (lv_at hl 4 rfl) ?_
  refine va_get (D := DG E) (ci := 9) (v := .ref q_11) (C := RX9) (T := TX9) (N := 3) hx hb hts iw_X9 hown hK.1 (va_one hr_14) 0 rfl rfl 0 (by decide) (hts _ fl_X9_22) (fun _ h9 => h9) rfl dX9_init_60 ?_
  refine lv_iload hx hb dX9_init_63 (lv_at hl 0 rfl) ?_
  have hSo : s.heap.size ≤ _ := hS.1
  refine rr_new (ci := 1) (fs := [.null, .null, .null, .int 0, .int 0]) (C := RX1) (T := TX1) (N := 5) hx hb hts iw_X1 tyX1 tyX1_ok hown (hts _ cl_X9_20) (hts _ ia_X1) (hts _ in_X1) hK.1 hS rfl (fun j hj => by rcases (show j = 0 ∨ j = 1 ∨ j = 2 ∨ j = 3 ∨ j = 4 by omega) with rfl | rfl | rfl | rfl | rfl <;> rfl) (Nat.le_of_ble_eq_true rfl) (Nat.le_of_ble_eq_true rfl) dX9_init_65 (fun q_26 H hq hat hz ho hS => ?_)
  have hr_27 := hat
  have zq_26 := hT.fresh hq
  have neq_26_h0 : h0 ≠ q_26 := ne_q hr_14.lt hq
  have hr_14 := hr_14.kept (ho _ hr_14.lt)
  have neq_26_q_11 : q_11 ≠ q_26 := ne_q hr_24.lt hq
  have hr_24 := hr_24.kept (ho _ hr_24.lt)
  have szq_26 : sz ≤ q_26 := le_q hsz hSo hq
  have hT := hT.kept ho
  refine lv_dup hx hb dX9_init_68 rfl ?_
  obtain ⟨sz_hs_28, hs_28⟩ : ∃ z, z = H.size := ⟨_, rfl⟩
  have szshs_28 : sz ≤ sz_hs_28 := le_q hsz hS.1 hs_28
  refine va_callv (rnI (fun H => H.size = sz_hs_28 ∧ va_at (DG E) vwCl (q_26, .inr (1, [.null, .null, .null, .int 0, .int 0])) H ∧ TH E (T0 E) G_19 [] H) (As := []) (rest := [.ref q_26, .int 1, .ref q_11]) ⟨hx, hb, hml, hown, hts⟩ (c_X1_init l E z0 G_19 q_26 sz_hs_28  zq_26 (Nat.le_trans hz1 szq_26) (Nat.le_trans hz1 szshs_28) ) (cwI 0 hts (gd1 co_X1_init rfl) rfl rfl rfl (hts _ in_X1) (hts _ ml_X9_26) (hts _ im_X1_init) rfl (by decide +kernel) ⟨Nat.le_of_ble_eq_true rfl, Nat.le_of_ble_eq_true rfl⟩) ⟨hs_28.symm, hr_27, hT⟩ (fun U hU hW => hK.go hW hS hAz hU) rfl rfl hl.1 rfl (lv_room (Nat.le_of_ble_eq_true rfl)) dX9_init_69 ⟨Nat.le_of_ble_eq_true rfl, Nat.le_of_ble_eq_true rfl⟩) hS (fun q _ h => h.elim (fun e => by rw [e]; exact (Or.inr szq_26)) (fun h => Or.inr (Nat.le_trans szshs_28 h))) (fun q h => h.elim (fun e => by rw [e]; exact (Or.inr szq_26)) (fun h => Or.inr (Nat.le_trans szshs_28 h))) (fun G_29 t H locs ht hvm hw hB hz hk hS => ?_)
  have hw_30 := hw
  rw [ht] at hB
  have lth0 : h0 < sz_hs_28 := ltz_s hr_14.lt hs_28
  have hr_14 := hr_14.kept (hk _ hr_14.lt (fun h => h.elim neq_26_h0 (fun h => absurd h (Nat.not_le.mpr lth0))))
  have hG0 : G_29 h0 = 0 := gx_0 hw_30 hG0 neq_26_h0 lth0
  have ltq_11 : q_11 < sz_hs_28 := ltz_s hr_24.lt hs_28
  have hr_24 := hr_24.kept (hk _ hr_24.lt (fun h => h.elim neq_26_q_11 (fun h => absurd h (Nat.not_le.mpr ltq_11))))
  have zq_11 : G_29 q_11 = 0 := gx_0 hw_30 zq_11 neq_26_q_11 ltq_11
  have hf_13 := af_x hw_30 (by decide) hf_13
  have gp_31 : G_29 q_4 = 4 := gx_k hw_30 gp_21 (by decide)
  have gq_32 : G_29 q_26 = 5 := hw_30.2
  have hE := hE.step hw_30 szq_26 szshs_28
  have hT : TH E (T0 E) G_29 [] H := hB
  obtain ⟨cs_33, rg_33, rn_33, ha_33, hg_33_0, hg_33_1, hg_33_2⟩ := tg_5 hT gq_32 nx_0
  refine rr_aast (D := DG E) hx hb hK.1 3 1 hr_24 hS (Or.inr szq_11) rfl ha_33 rfl (show vp_in (1) 2 from vp_in_iff.mpr ⟨by decide, by decide⟩) dX9_init_72 (fun H locs hn ho hz hS => ?_)
  have hr_34 : va_at (DG E) vwCl (q_11, .inl (E.2.2 3, 2, .inr (.inr (.inr (.inr (va_up (va_up (fun _ => none) 0 (some q_16)) 1 (some q_26))))))) H := hn
  have hf_13 := af_push hf_13 gq_32
  have hr_14 := hr_14.kept (ho _ neq_11_h0)
  have hT := hT.off zq_11 ho
  refine lv_iinc (v := 2) (lv' := [(7, .int 2), (6, .int x_3), (5, .int x_2), (4, .int x_1), (0, .ref h0), (1, .int p0), (2, .int p1), (3, .int p2)]) hx hb dX9_init_73 hl (k := 0) rfl (by decide) (by decide) rfl (fun ls hl => ?_)
  refine lv_goto (tgt := 53) hx hb dX9_init_76 (by decide) ?_
  refine lv_iload hx hb dX9_init_53 (lv_at hl 0 rfl) ?_
  refine lv_iconst (v := 2) hx hb dX9_init_55 (by decide) ?_
  refine lv_icmp_ge (tgt := 79) hx hb dX9_init_56 (by decide) (fun c_35 => ?_) (fun c_35 => absurd c_35 (by decide))
  refine lv_aload_n hx hb dX9_init_79 rfl (lv_at hl 4 rfl) ?_
  refine lv_iconst (v := 4) hx hb dX9_init_80 (by decide) ?_
  have hSo : s.heap.size ≤ _ := hS.1
  refine rr_newq (D := DG E) (N' := 4) hx hb hown (hts _ cl_X9_27) (hts _ ao_X3) hK.1 5 rfl hS (by decide) (by decide) (by decide) (Nat.le_of_ble_eq_true rfl) (Nat.le_of_ble_eq_true rfl) dX9_init_81 (fun q_36 H hq hat hz ho hS => ?_)
  have hr_37 := hat
  have zq_36 := hT.fresh hq
  have neq_36_h0 : h0 ≠ q_36 := ne_q hr_14.lt hq
  have hr_14 := hr_14.kept (ho _ hr_14.lt)
  have neq_36_q_11 : q_11 ≠ q_36 := ne_q hr_34.lt hq
  have hr_34 := hr_34.kept (ho _ hr_34.lt)
  have szq_36 : sz ≤ q_36 := le_q hsz hSo hq
  have hT := hT.kept ho
  have hf_38 : ∀ j, j < 0 → ∃ b, (fun _ : Nat => (none : Option Nat)) j = some b ∧ G_29 b = 8 := af_0
  refine rr_putF (D := DG E) (ci := 9) (v := .ref q_36) (ty := .array (.object "RemoteReach$Pair")) (C := RX9) (T := TX9) (N := 3) hx hb hts iw_X9 tyX9 tyX9_ok nmX9 hown hK.1 hr_14 hS (Or.inl rfl) rfl 1 (by decide) (hts _ fl_X9_29) (fun _ h9 => h9) rfl hin rfl (by decide +kernel) rfl rfl (Nat.le_of_ble_eq_true rfl) dX9_init_84 (fun H locs hn ho hz hS => ?_)
  have hr_39 : va_at (DG E) vwCl (h0, .inr (9, [.ref q_11, .ref q_36, .ref q_4])) H := hn
  have hr_34 := hr_34.kept (ho _ (Ne.symm neq_11_h0))
  have hr_37 := hr_37.kept (ho _ (Ne.symm neq_36_h0))
  have hT := hT.off hG0 ho
  refine lv_iconst (v := 0) hx hb dX9_init_87 (by decide) ?_
  refine lv_istore (lv' := [(7, .int 0), (6, .int x_3), (5, .int x_2), (4, .int x_1), (0, .ref h0), (1, .int p0), (2, .int p1), (3, .int p2)]) hx hb dX9_init_88 hl (by decide) rfl (fun ls hl => ?_)
  refine lv_iload hx hb dX9_init_90 (lv_at hl 0 rfl) ?_
  refine lv_iconst (v := 4) hx hb dX9_init_92 (by decide) ?_
  refine lv_icmp_ge (tgt := 167) hx hb dX9_init_93 (by decide) (fun c_40 => absurd c_40 (by decide)) (fun c_40 => ?_)
  refine lv_aload_n hx hb dX9_init_96 rfl (lv_at hl 4 rfl) ?_
  refine va_get (D := DG E) (ci := 9) (v := .ref q_11) (C := RX9) (T := TX9) (N := 3) hx hb hts iw_X9 hown hK.1 (va_one hr_39) 0 rfl rfl 0 (by decide) (hts _ fl_X9_22) (fun _ h9 => h9) rfl dX9_init_97 ?_
  refine lv_iload hx hb dX9_init_100 (lv_at hl 0 rfl) ?_
  refine lv_iconst (v := 2) hx hb dX9_init_102 (by decide) ?_
  refine lv_irem hx hb dX9_init_103 (by decide) ?_
  refine W.eq (g2 := F0 m 104 ls [.int 0, .ref q_11]) (by rfl) ?_
  obtain ⟨b_41, eb_41, gb_41⟩ := hf_13 0 (by decide)
  refine va_aldq (D := DG E) hx hb hK.1 (va_one hr_34) 0 3 rfl rfl (show vp_in (0) 2 from vp_in_iff.mpr ⟨by decide, by decide⟩) dX9_init_104 ?_
  refine W.eq (g2 := F0 m 105 ls [.ref b_41]) (by rw [show (0 : Int32).toNatClampNeg = 0 from by decide, eb_41]; rfl) ?_
  refine lv_astore (lv' := [(8, .ref b_41), (7, .int 0), (6, .int x_3), (5, .int x_2), (4, .int x_1), (0, .ref h0), (1, .int p0), (2, .int p1), (3, .int p2)]) hx hb dX9_init_105 hl (by decide) rfl (fun ls hl => ?_)
  have hSo : s.heap.size ≤ _ := hS.1
  refine rr_new (ci := 7) (fs := [.int 0, .null, .null, .int 0, .int 0, .int 0, .null, .int 0, .int 0, .int 0, .int 0, .int 0, .int 0, .int 0]) (C := RX7) (T := TX7) (N := 14) hx hb hts iw_X7 tyX7 tyX7_ok hown (hts _ cl_X9_33) (hts _ ia_X7) (hts _ in_X7) hK.1 hS rfl (fun j hj => by rcases (show j = 0 ∨ j = 1 ∨ j = 2 ∨ j = 3 ∨ j = 4 ∨ j = 5 ∨ j = 6 ∨ j = 7 ∨ j = 8 ∨ j = 9 ∨ j = 10 ∨ j = 11 ∨ j = 12 ∨ j = 13 by omega) with rfl | rfl | rfl | rfl | rfl | rfl | rfl | rfl | rfl | rfl | rfl | rfl | rfl | rfl <;> rfl) (Nat.le_of_ble_eq_true rfl) (Nat.le_of_ble_eq_true rfl) dX9_init_107 (fun q_42 H hq hat hz ho hS => ?_)
  have hr_43 := hat
  have zq_42 := hT.fresh hq
  have neq_42_h0 : h0 ≠ q_42 := ne_q hr_39.lt hq
  have hr_39 := hr_39.kept (ho _ hr_39.lt)
  have neq_42_q_11 : q_11 ≠ q_42 := ne_q hr_34.lt hq
  have hr_34 := hr_34.kept (ho _ hr_34.lt)
  have neq_42_q_36 : q_36 ≠ q_42 := ne_q hr_37.lt hq
  have hr_37 := hr_37.kept (ho _ hr_37.lt)
  have szq_42 : sz ≤ q_42 := le_q hsz hSo hq
  have hT := hT.kept ho
  refine lv_dup hx hb dX9_init_110 rfl ?_
  refine lv_iload hx hb dX9_init_111 (lv_at hl 1 rfl) ?_
  refine lv_aload hx hb dX9_init_113 (lv_at hl 0 rfl) ?_
  refine lv_aload_n hx hb dX9_init_115 rfl (lv_at hl 5 rfl) ?_
  refine va_get (D := DG E) (ci := 9) (v := .ref q_4) (C := RX9) (T := TX9) (N := 3) hx hb hts iw_X9 hown hK.1 (va_one hr_39) 0 rfl rfl 2 (by decide) (hts _ fl_X9_16) (fun _ h9 => h9) rfl dX9_init_116 ?_
  refine lv_iload hx hb dX9_init_119 (lv_at hl 4 rfl) ?_
  refine lv_iload hx hb dX9_init_121 (lv_at hl 3 rfl) ?_
  refine lv_iload hx hb dX9_init_123 (lv_at hl 2 rfl) ?_
  obtain ⟨sz_hs_44, hs_44⟩ : ∃ z, z = H.size := ⟨_, rfl⟩
  have szshs_44 : sz ≤ sz_hs_44 := le_q hsz hS.1 hs_44
  refine va_callv (rnI (fun H => H.size = sz_hs_44 ∧ va_at (DG E) vwCl (q_42, .inr (7, [.int 0, .null, .null, .int 0, .int 0, .int 0, .null, .int 0, .int 0, .int 0, .int 0, .int 0, .int 0, .int 0])) H ∧ TH E (T0 E) G_29 [] H) (As := [.int 0, .ref b_41, .ref q_4, .int x_1, .int x_2, .int x_3]) (rest := [.ref q_42]) ⟨hx, hb, hml, hown, hts⟩ (c_X7_init l E z0 G_29 q_42 sz_hs_44 0 b_41 q_4 x_1 x_2 x_3 zq_42 (Nat.le_trans hz1 szq_42) (Nat.le_trans hz1 szshs_44) gb_41 gp_31 (by decide)) (cwI 6 hts (gd1 co_X7_init rfl) rfl rfl rfl (hts _ in_X7) (hts _ ml_X9_35) (hts _ im_X7_init) rfl (by decide +kernel) ⟨Nat.le_of_ble_eq_true rfl, Nat.le_of_ble_eq_true rfl⟩) ⟨hs_44.symm, hr_43, hT⟩ (fun U hU hW => hK.go hW hS hAz hU) rfl rfl hl.1 rfl (lv_room (Nat.le_of_ble_eq_true rfl)) dX9_init_125 ⟨Nat.le_of_ble_eq_true rfl, Nat.le_of_ble_eq_true rfl⟩) hS (fun q _ h => h.elim (fun e => by rw [e]; exact (Or.inr szq_42)) (fun h => Or.inr (Nat.le_trans szshs_44 h))) (fun q h => h.elim (fun e => by rw [e]; exact (Or.inr szq_42)) (fun h => Or.inr (Nat.le_trans szshs_44 h))) (fun G_45 t H locs ht hvm hw hB hz hk hS => ?_)
  have hw_46 := hw
  rw [ht] at hB
  have lth0 : h0 < sz_hs_44 := ltz_s hr_39.lt hs_44
  have hr_39 := hr_39.kept (hk _ hr_39.lt (fun h => h.elim neq_42_h0 (fun h => absurd h (Nat.not_le.mpr lth0))))
  have hG0 : G_45 h0 = 0 := gx_0 hw_46 hG0 neq_42_h0 lth0
  have ltq_11 : q_11 < sz_hs_44 := ltz_s hr_34.lt hs_44
  have hr_34 := hr_34.kept (hk _ hr_34.lt (fun h => h.elim neq_42_q_11 (fun h => absurd h (Nat.not_le.mpr ltq_11))))
  have zq_11 : G_45 q_11 = 0 := gx_0 hw_46 zq_11 neq_42_q_11 ltq_11
  have hf_13 := af_x hw_46 (by decide) hf_13
  have ltq_36 : q_36 < sz_hs_44 := ltz_s hr_37.lt hs_44
  have hr_37 := hr_37.kept (hk _ hr_37.lt (fun h => h.elim neq_42_q_36 (fun h => absurd h (Nat.not_le.mpr ltq_36))))
  have zq_36 : G_45 q_36 = 0 := gx_0 hw_46 zq_36 neq_42_q_36 ltq_36
  have hf_38 := af_x hw_46 (by decide) hf_38
  have gp_47 : G_45 b_41 = 5 := gx_k hw_46 gb_41 (by decide)
  have gp_48 : G_45 q_4 = 4 := gx_k hw_46 gp_31 (by decide)
  have gq_49 : G_45 q_42 = 9 := hw_46.2
  have hE := hE.step hw_46 szq_42 szshs_44
  have hT : TH E (T0 E) G_45 [] H := hB
  refine lv_astore (lv' := [(9, .ref q_42), (8, .ref b_41), (7, .int 0), (6, .int x_3), (5, .int x_2), (4, .int x_1), (0, .ref h0), (1, .int p0), (2, .int p1), (3, .int p2)]) hx hb dX9_init_128 hl (by decide) rfl (fun ls hl => ?_)
  refine lv_aload_n hx hb dX9_init_130 rfl (lv_at hl 6 rfl) ?_
  refine va_get (D := DG E) (ci := 9) (v := .ref q_36) (C := RX9) (T := TX9) (N := 3) hx hb hts iw_X9 hown hK.1 (va_one hr_39) 0 rfl rfl 1 (by decide) (hts _ fl_X9_29) (fun _ h9 => h9) rfl dX9_init_131 ?_
  refine lv_iload hx hb dX9_init_134 (lv_at hl 2 rfl) ?_
  have hSo : s.heap.size ≤ _ := hS.1
  refine rr_new (ci := 3) (fs := [.null, .null, .int 0]) (C := RX3) (T := TX3) (N := 3) hx hb hts iw_X3 tyX3 tyX3_ok hown (hts _ cl_X9_27) (hts _ ia_X3) (hts _ in_X3) hK.1 hS rfl (fun j hj => by rcases (show j = 0 ∨ j = 1 ∨ j = 2 by omega) with rfl | rfl | rfl <;> rfl) (Nat.le_of_ble_eq_true rfl) (Nat.le_of_ble_eq_true rfl) dX9_init_136 (fun q_50 H hq hat hz ho hS => ?_)
  have hr_51 := hat
  have zq_50 := hT.fresh hq
  have neq_50_h0 : h0 ≠ q_50 := ne_q hr_39.lt hq
  have hr_39 := hr_39.kept (ho _ hr_39.lt)
  have neq_50_q_11 : q_11 ≠ q_50 := ne_q hr_34.lt hq
  have hr_34 := hr_34.kept (ho _ hr_34.lt)
  have neq_50_q_36 : q_36 ≠ q_50 := ne_q hr_37.lt hq
  have hr_37 := hr_37.kept (ho _ hr_37.lt)
  have szq_50 : sz ≤ q_50 := le_q hsz hSo hq
  have hT := hT.kept ho
  refine lv_dup hx hb dX9_init_139 rfl ?_
  refine lv_aload hx hb dX9_init_140 (lv_at hl 0 rfl) ?_
  have hSo : s.heap.size ≤ _ := hS.1
  refine rr_new (ci := 8) (fs := [.int 0, .null, .null, .null, .int 0, .int 0, .int 0, .null, .null]) (C := RX8) (T := TX8) (N := 9) hx hb hts iw_X8 tyX8 tyX8_ok hown (hts _ cl_X9_38) (hts _ ia_X8) (hts _ in_X8) hK.1 hS rfl (fun j hj => by rcases (show j = 0 ∨ j = 1 ∨ j = 2 ∨ j = 3 ∨ j = 4 ∨ j = 5 ∨ j = 6 ∨ j = 7 ∨ j = 8 by omega) with rfl | rfl | rfl | rfl | rfl | rfl | rfl | rfl | rfl <;> rfl) (Nat.le_of_ble_eq_true rfl) (Nat.le_of_ble_eq_true rfl) dX9_init_142 (fun q_52 H hq hat hz ho hS => ?_)
  have hr_53 := hat
  have zq_52 := hT.fresh hq
  have neq_52_h0 : h0 ≠ q_52 := ne_q hr_39.lt hq
  have hr_39 := hr_39.kept (ho _ hr_39.lt)
  have neq_52_q_11 : q_11 ≠ q_52 := ne_q hr_34.lt hq
  have hr_34 := hr_34.kept (ho _ hr_34.lt)
  have neq_52_q_36 : q_36 ≠ q_52 := ne_q hr_37.lt hq
  have hr_37 := hr_37.kept (ho _ hr_37.lt)
  have neq_52_q_50 : q_50 ≠ q_52 := ne_q hr_51.lt hq
  have hr_51 := hr_51.kept (ho _ hr_51.lt)
  have szq_52 : sz ≤ q_52 := le_q hsz hSo hq
  have hT := hT.kept ho
  refine lv_dup hx hb dX9_init_145 rfl ?_
  refine lv_iload hx hb dX9_init_146 (lv_at hl 2 rfl) ?_
  refine lv_aload hx hb dX9_init_148 (lv_at hl 1 rfl) ?_
  refine lv_aload_n hx hb dX9_init_150 rfl (lv_at hl 6 rfl) ?_
  refine va_get (D := DG E) (ci := 9) (v := .ref q_4) (C := RX9) (T := TX9) (N := 3) hx hb hts iw_X9 hown hK.1 (va_one hr_39) 0 rfl rfl 2 (by decide) (hts _ fl_X9_16) (fun _ h9 => h9) rfl dX9_init_151 ?_
  obtain ⟨sz_hs_54, hs_54⟩ : ∃ z, z = H.size := ⟨_, rfl⟩
  have szshs_54 : sz ≤ sz_hs_54 := le_q hsz hS.1 hs_54
  refine va_callv (rnI (fun H => H.size = sz_hs_54 ∧ va_at (DG E) vwCl (q_52, .inr (8, [.int 0, .null, .null, .null, .int 0, .int 0, .int 0, .null, .null])) H ∧ TH E (T0 E) G_45 [] H) (As := [.int 0, .ref b_41, .ref q_4]) (rest := [.ref q_52, .ref q_42, .ref q_50, .ref q_50, .int 0, .ref q_36]) ⟨hx, hb, hml, hown, hts⟩ (c_X8_init l E z0 G_45 q_52 sz_hs_54 0 b_41 q_4 zq_52 (Nat.le_trans hz1 szq_52) (Nat.le_trans hz1 szshs_54) gp_47 gp_48 (by decide)) (cwI 3 hts (gd1 co_X8_init rfl) rfl rfl rfl (hts _ in_X8) (hts _ ml_X9_40) (hts _ im_X8_init) rfl (by decide +kernel) ⟨Nat.le_of_ble_eq_true rfl, Nat.le_of_ble_eq_true rfl⟩) ⟨hs_54.symm, hr_53, hT⟩ (fun U hU hW => hK.go hW hS hAz hU) rfl rfl hl.1 rfl (lv_room (Nat.le_of_ble_eq_true rfl)) dX9_init_154 ⟨Nat.le_of_ble_eq_true rfl, Nat.le_of_ble_eq_true rfl⟩) hS (fun q _ h => h.elim (fun e => by rw [e]; exact (Or.inr szq_52)) (fun h => Or.inr (Nat.le_trans szshs_54 h))) (fun q h => h.elim (fun e => by rw [e]; exact (Or.inr szq_52)) (fun h => Or.inr (Nat.le_trans szshs_54 h))) (fun G_55 t H locs ht hvm hw hB hz hk hS => ?_)
  have hw_56 := hw
  rw [ht] at hB
  have lth0 : h0 < sz_hs_54 := ltz_s hr_39.lt hs_54
  have hr_39 := hr_39.kept (hk _ hr_39.lt (fun h => h.elim neq_52_h0 (fun h => absurd h (Nat.not_le.mpr lth0))))
  have hG0 : G_55 h0 = 0 := gx_0 hw_56 hG0 neq_52_h0 lth0
  have ltq_11 : q_11 < sz_hs_54 := ltz_s hr_34.lt hs_54
  have hr_34 := hr_34.kept (hk _ hr_34.lt (fun h => h.elim neq_52_q_11 (fun h => absurd h (Nat.not_le.mpr ltq_11))))
  have zq_11 : G_55 q_11 = 0 := gx_0 hw_56 zq_11 neq_52_q_11 ltq_11
  have hf_13 := af_x hw_56 (by decide) hf_13
  have ltq_36 : q_36 < sz_hs_54 := ltz_s hr_37.lt hs_54
  have hr_37 := hr_37.kept (hk _ hr_37.lt (fun h => h.elim neq_52_q_36 (fun h => absurd h (Nat.not_le.mpr ltq_36))))
  have zq_36 : G_55 q_36 = 0 := gx_0 hw_56 zq_36 neq_52_q_36 ltq_36
  have hf_38 := af_x hw_56 (by decide) hf_38
  have ltq_50 : q_50 < sz_hs_54 := ltz_s hr_51.lt hs_54
  have hr_51 := hr_51.kept (hk _ hr_51.lt (fun h => h.elim neq_52_q_50 (fun h => absurd h (Nat.not_le.mpr ltq_50))))
  have zq_50 : G_55 q_50 = 0 := gx_0 hw_56 zq_50 neq_52_q_50 ltq_50
  have gp_57 : G_55 q_42 = 9 := gx_k hw_56 gq_49 (by decide)
  have gp_58 : G_55 b_41 = 5 := gx_k hw_56 gp_47 (by decide)
  have gp_59 : G_55 q_4 = 4 := gx_k hw_56 gp_48 (by decide)
  have gq_60 : G_55 q_52 = 10 := hw_56.2
  have hE := hE.step hw_56 szq_52 szshs_54
  have hT : TH E (T0 E) G_55 [] H := hB
  obtain ⟨sz_hs_61, hs_61⟩ : ∃ z, z = H.size := ⟨_, rfl⟩
  have szshs_61 : sz ≤ sz_hs_61 := le_q hsz hS.1 hs_61
  refine va_callv (rnI (fun H => H.size = sz_hs_61 ∧ va_at (DG E) vwCl (q_50, .inr (3, [.null, .null, .int 0])) H ∧ TH E (T0 E) G_55 [] H) (As := [.ref q_42, .ref q_52]) (rest := [.ref q_50, .int 0, .ref q_36]) ⟨hx, hb, hml, hown, hts⟩ (c_X3_init l E z0 G_55 q_50 sz_hs_61 q_42 q_52 zq_50 (Nat.le_trans hz1 szq_50) (Nat.le_trans hz1 szshs_61) gp_57 gq_60) (cwI 2 hts (gd1 co_X3_init rfl) rfl rfl rfl (hts _ in_X3) (hts _ ml_X9_43) (hts _ im_X3_init) rfl (by decide +kernel) ⟨Nat.le_of_ble_eq_true rfl, Nat.le_of_ble_eq_true rfl⟩) ⟨hs_61.symm, hr_51, hT⟩ (fun U hU hW => hK.go hW hS hAz hU) rfl rfl hl.1 rfl (lv_room (Nat.le_of_ble_eq_true rfl)) dX9_init_157 ⟨Nat.le_of_ble_eq_true rfl, Nat.le_of_ble_eq_true rfl⟩) hS (fun q _ h => h.elim (fun e => by rw [e]; exact (Or.inr szq_50)) (fun h => Or.inr (Nat.le_trans szshs_61 h))) (fun q h => h.elim (fun e => by rw [e]; exact (Or.inr szq_50)) (fun h => Or.inr (Nat.le_trans szshs_61 h))) (fun G_62 t H locs ht hvm hw hB hz hk hS => ?_)
  have hw_63 := hw
  rw [ht] at hB
  have lth0 : h0 < sz_hs_61 := ltz_s hr_39.lt hs_61
  have hr_39 := hr_39.kept (hk _ hr_39.lt (fun h => h.elim neq_50_h0 (fun h => absurd h (Nat.not_le.mpr lth0))))
  have hG0 : G_62 h0 = 0 := gx_0 hw_63 hG0 neq_50_h0 lth0
  have ltq_11 : q_11 < sz_hs_61 := ltz_s hr_34.lt hs_61
  have hr_34 := hr_34.kept (hk _ hr_34.lt (fun h => h.elim neq_50_q_11 (fun h => absurd h (Nat.not_le.mpr ltq_11))))
  have zq_11 : G_62 q_11 = 0 := gx_0 hw_63 zq_11 neq_50_q_11 ltq_11
  have hf_13 := af_x hw_63 (by decide) hf_13
  have ltq_36 : q_36 < sz_hs_61 := ltz_s hr_37.lt hs_61
  have hr_37 := hr_37.kept (hk _ hr_37.lt (fun h => h.elim neq_50_q_36 (fun h => absurd h (Nat.not_le.mpr ltq_36))))
  have zq_36 : G_62 q_36 = 0 := gx_0 hw_63 zq_36 neq_50_q_36 ltq_36
  have hf_38 := af_x hw_63 (by decide) hf_38
  have gp_64 : G_62 q_42 = 9 := gx_k hw_63 gp_57 (by decide)
  have gp_65 : G_62 b_41 = 5 := gx_k hw_63 gp_58 (by decide)
  have gp_66 : G_62 q_4 = 4 := gx_k hw_63 gp_59 (by decide)
  have gq_67 : G_62 q_50 = 8 := hw_63.2
  have hE := hE.step hw_63 szq_50 szshs_61
  have hT : TH E (T0 E) G_62 [] H := hB
  obtain ⟨rq_68, rs_68, ha_68, hg_68_0, hg_68_1⟩ := tg_8 hT gq_67 nx_0
  refine rr_aast (D := DG E) hx hb hK.1 5 3 hr_37 hS (Or.inr szq_36) rfl ha_68 rfl (show vp_in (0) 4 from vp_in_iff.mpr ⟨by decide, by decide⟩) dX9_init_160 (fun H locs hn ho hz hS => ?_)
  have hr_69 : va_at (DG E) vwCl (q_36, .inl (E.2.2 5, 4, .inr (.inr (.inr (.inr (va_up (fun _ => none) 0 (some q_50))))))) H := hn
  have hf_38 := af_push hf_38 gq_67
  have hr_39 := hr_39.kept (ho _ neq_36_h0)
  have hr_34 := hr_34.kept (ho _ neq_36_q_11)
  have hT := hT.off zq_36 ho
  refine lv_iinc (v := 1) (lv' := [(7, .int 1), (9, .ref q_42), (8, .ref b_41), (6, .int x_3), (5, .int x_2), (4, .int x_1), (0, .ref h0), (1, .int p0), (2, .int p1), (3, .int p2)]) hx hb dX9_init_161 hl (k := 2) rfl (by decide) (by decide) rfl (fun ls hl => ?_)
  refine lv_goto (tgt := 90) hx hb dX9_init_164 (by decide) ?_
  refine lv_iload hx hb dX9_init_90 (lv_at hl 0 rfl) ?_
  refine lv_iconst (v := 4) hx hb dX9_init_92 (by decide) ?_
  refine lv_icmp_ge (tgt := 167) hx hb dX9_init_93 (by decide) (fun c_70 => absurd c_70 (by decide)) (fun c_70 => ?_)
  refine lv_aload_n hx hb dX9_init_96 rfl (lv_at hl 6 rfl) ?_
  refine va_get (D := DG E) (ci := 9) (v := .ref q_11) (C := RX9) (T := TX9) (N := 3) hx hb hts iw_X9 hown hK.1 (va_one hr_39) 0 rfl rfl 0 (by decide) (hts _ fl_X9_22) (fun _ h9 => h9) rfl dX9_init_97 ?_
  refine lv_iload hx hb dX9_init_100 (lv_at hl 0 rfl) ?_
  refine lv_iconst (v := 2) hx hb dX9_init_102 (by decide) ?_
  refine lv_irem hx hb dX9_init_103 (by decide) ?_
  refine W.eq (g2 := F0 m 104 ls [.int 1, .ref q_11]) (by rfl) ?_
  obtain ⟨b_71, eb_71, gb_71⟩ := hf_13 1 (by decide)
  refine va_aldq (D := DG E) hx hb hK.1 (va_one hr_34) 0 3 rfl rfl (show vp_in (1) 2 from vp_in_iff.mpr ⟨by decide, by decide⟩) dX9_init_104 ?_
  refine W.eq (g2 := F0 m 105 ls [.ref b_71]) (by rw [show (1 : Int32).toNatClampNeg = 1 from by decide, eb_71]; rfl) ?_
  refine lv_astore (lv' := [(8, .ref b_71), (7, .int 1), (9, .ref q_42), (6, .int x_3), (5, .int x_2), (4, .int x_1), (0, .ref h0), (1, .int p0), (2, .int p1), (3, .int p2)]) hx hb dX9_init_105 hl (by decide) rfl (fun ls hl => ?_)
  have hSo : s.heap.size ≤ _ := hS.1
  refine rr_new (ci := 7) (fs := [.int 0, .null, .null, .int 0, .int 0, .int 0, .null, .int 0, .int 0, .int 0, .int 0, .int 0, .int 0, .int 0]) (C := RX7) (T := TX7) (N := 14) hx hb hts iw_X7 tyX7 tyX7_ok hown (hts _ cl_X9_33) (hts _ ia_X7) (hts _ in_X7) hK.1 hS rfl (fun j hj => by rcases (show j = 0 ∨ j = 1 ∨ j = 2 ∨ j = 3 ∨ j = 4 ∨ j = 5 ∨ j = 6 ∨ j = 7 ∨ j = 8 ∨ j = 9 ∨ j = 10 ∨ j = 11 ∨ j = 12 ∨ j = 13 by omega) with rfl | rfl | rfl | rfl | rfl | rfl | rfl | rfl | rfl | rfl | rfl | rfl | rfl | rfl <;> rfl) (Nat.le_of_ble_eq_true rfl) (Nat.le_of_ble_eq_true rfl) dX9_init_107 (fun q_72 H hq hat hz ho hS => ?_)
  have hr_73 := hat
  have zq_72 := hT.fresh hq
  have neq_72_h0 : h0 ≠ q_72 := ne_q hr_39.lt hq
  have hr_39 := hr_39.kept (ho _ hr_39.lt)
  have neq_72_q_11 : q_11 ≠ q_72 := ne_q hr_34.lt hq
  have hr_34 := hr_34.kept (ho _ hr_34.lt)
  have neq_72_q_36 : q_36 ≠ q_72 := ne_q hr_69.lt hq
  have hr_69 := hr_69.kept (ho _ hr_69.lt)
  have szq_72 : sz ≤ q_72 := le_q hsz hSo hq
  have hT := hT.kept ho
  refine lv_dup hx hb dX9_init_110 rfl ?_
  refine lv_iload hx hb dX9_init_111 (lv_at hl 1 rfl) ?_
  refine lv_aload hx hb dX9_init_113 (lv_at hl 0 rfl) ?_
  refine lv_aload_n hx hb dX9_init_115 rfl (lv_at hl 6 rfl) ?_
  refine va_get (D := DG E) (ci := 9) (v := .ref q_4) (C := RX9) (T := TX9) (N := 3) hx hb hts iw_X9 hown hK.1 (va_one hr_39) 0 rfl rfl 2 (by decide) (hts _ fl_X9_16) (fun _ h9 => h9) rfl dX9_init_116 ?_
  refine lv_iload hx hb dX9_init_119 (lv_at hl 5 rfl) ?_
  refine lv_iload hx hb dX9_init_121 (lv_at hl 4 rfl) ?_
  refine lv_iload hx hb dX9_init_123 (lv_at hl 3 rfl) ?_
  obtain ⟨sz_hs_74, hs_74⟩ : ∃ z, z = H.size := ⟨_, rfl⟩
  have szshs_74 : sz ≤ sz_hs_74 := le_q hsz hS.1 hs_74
  refine va_callv (rnI (fun H => H.size = sz_hs_74 ∧ va_at (DG E) vwCl (q_72, .inr (7, [.int 0, .null, .null, .int 0, .int 0, .int 0, .null, .int 0, .int 0, .int 0, .int 0, .int 0, .int 0, .int 0])) H ∧ TH E (T0 E) G_62 [] H) (As := [.int 1, .ref b_71, .ref q_4, .int x_1, .int x_2, .int x_3]) (rest := [.ref q_72]) ⟨hx, hb, hml, hown, hts⟩ (c_X7_init l E z0 G_62 q_72 sz_hs_74 1 b_71 q_4 x_1 x_2 x_3 zq_72 (Nat.le_trans hz1 szq_72) (Nat.le_trans hz1 szshs_74) gb_71 gp_66 (by decide)) (cwI 6 hts (gd1 co_X7_init rfl) rfl rfl rfl (hts _ in_X7) (hts _ ml_X9_35) (hts _ im_X7_init) rfl (by decide +kernel) ⟨Nat.le_of_ble_eq_true rfl, Nat.le_of_ble_eq_true rfl⟩) ⟨hs_74.symm, hr_73, hT⟩ (fun U hU hW => hK.go hW hS hAz hU) rfl rfl hl.1 rfl (lv_room (Nat.le_of_ble_eq_true rfl)) dX9_init_125 ⟨Nat.le_of_ble_eq_true rfl, Nat.le_of_ble_eq_true rfl⟩) hS (fun q _ h => h.elim (fun e => by rw [e]; exact (Or.inr szq_72)) (fun h => Or.inr (Nat.le_trans szshs_74 h))) (fun q h => h.elim (fun e => by rw [e]; exact (Or.inr szq_72)) (fun h => Or.inr (Nat.le_trans szshs_74 h))) (fun G_75 t H locs ht hvm hw hB hz hk hS => ?_)
  have hw_76 := hw
  rw [ht] at hB
  have lth0 : h0 < sz_hs_74 := ltz_s hr_39.lt hs_74
  have hr_39 := hr_39.kept (hk _ hr_39.lt (fun h => h.elim neq_72_h0 (fun h => absurd h (Nat.not_le.mpr lth0))))
  have hG0 : G_75 h0 = 0 := gx_0 hw_76 hG0 neq_72_h0 lth0
  have ltq_11 : q_11 < sz_hs_74 := ltz_s hr_34.lt hs_74
  have hr_34 := hr_34.kept (hk _ hr_34.lt (fun h => h.elim neq_72_q_11 (fun h => absurd h (Nat.not_le.mpr ltq_11))))
  have zq_11 : G_75 q_11 = 0 := gx_0 hw_76 zq_11 neq_72_q_11 ltq_11
  have hf_13 := af_x hw_76 (by decide) hf_13
  have ltq_36 : q_36 < sz_hs_74 := ltz_s hr_69.lt hs_74
  have hr_69 := hr_69.kept (hk _ hr_69.lt (fun h => h.elim neq_72_q_36 (fun h => absurd h (Nat.not_le.mpr ltq_36))))
  have zq_36 : G_75 q_36 = 0 := gx_0 hw_76 zq_36 neq_72_q_36 ltq_36
  have hf_38 := af_x hw_76 (by decide) hf_38
  have gp_77 : G_75 b_71 = 5 := gx_k hw_76 gb_71 (by decide)
  have gp_78 : G_75 q_42 = 9 := gx_k hw_76 gp_64 (by decide)
  have gp_79 : G_75 q_4 = 4 := gx_k hw_76 gp_66 (by decide)
  have gq_80 : G_75 q_72 = 9 := hw_76.2
  have hE := hE.step hw_76 szq_72 szshs_74
  have hT : TH E (T0 E) G_75 [] H := hB
  refine lv_astore (lv' := [(9, .ref q_72), (8, .ref b_71), (7, .int 1), (6, .int x_3), (5, .int x_2), (4, .int x_1), (0, .ref h0), (1, .int p0), (2, .int p1), (3, .int p2)]) hx hb dX9_init_128 hl (by decide) rfl (fun ls hl => ?_)
  refine lv_aload_n hx hb dX9_init_130 rfl (lv_at hl 6 rfl) ?_
  refine va_get (D := DG E) (ci := 9) (v := .ref q_36) (C := RX9) (T := TX9) (N := 3) hx hb hts iw_X9 hown hK.1 (va_one hr_39) 0 rfl rfl 1 (by decide) (hts _ fl_X9_29) (fun _ h9 => h9) rfl dX9_init_131 ?_
  refine lv_iload hx hb dX9_init_134 (lv_at hl 2 rfl) ?_
  have hSo : s.heap.size ≤ _ := hS.1
  refine rr_new (ci := 3) (fs := [.null, .null, .int 0]) (C := RX3) (T := TX3) (N := 3) hx hb hts iw_X3 tyX3 tyX3_ok hown (hts _ cl_X9_27) (hts _ ia_X3) (hts _ in_X3) hK.1 hS rfl (fun j hj => by rcases (show j = 0 ∨ j = 1 ∨ j = 2 by omega) with rfl | rfl | rfl <;> rfl) (Nat.le_of_ble_eq_true rfl) (Nat.le_of_ble_eq_true rfl) dX9_init_136 (fun q_81 H hq hat hz ho hS => ?_)
  have hr_82 := hat
  have zq_81 := hT.fresh hq
  have neq_81_h0 : h0 ≠ q_81 := ne_q hr_39.lt hq
  have hr_39 := hr_39.kept (ho _ hr_39.lt)
  have neq_81_q_11 : q_11 ≠ q_81 := ne_q hr_34.lt hq
  have hr_34 := hr_34.kept (ho _ hr_34.lt)
  have neq_81_q_36 : q_36 ≠ q_81 := ne_q hr_69.lt hq
  have hr_69 := hr_69.kept (ho _ hr_69.lt)
  have szq_81 : sz ≤ q_81 := le_q hsz hSo hq
  have hT := hT.kept ho
  refine lv_dup hx hb dX9_init_139 rfl ?_
  refine lv_aload hx hb dX9_init_140 (lv_at hl 0 rfl) ?_
  have hSo : s.heap.size ≤ _ := hS.1
  refine rr_new (ci := 8) (fs := [.int 0, .null, .null, .null, .int 0, .int 0, .int 0, .null, .null]) (C := RX8) (T := TX8) (N := 9) hx hb hts iw_X8 tyX8 tyX8_ok hown (hts _ cl_X9_38) (hts _ ia_X8) (hts _ in_X8) hK.1 hS rfl (fun j hj => by rcases (show j = 0 ∨ j = 1 ∨ j = 2 ∨ j = 3 ∨ j = 4 ∨ j = 5 ∨ j = 6 ∨ j = 7 ∨ j = 8 by omega) with rfl | rfl | rfl | rfl | rfl | rfl | rfl | rfl | rfl <;> rfl) (Nat.le_of_ble_eq_true rfl) (Nat.le_of_ble_eq_true rfl) dX9_init_142 (fun q_83 H hq hat hz ho hS => ?_)
  have hr_84 := hat
  have zq_83 := hT.fresh hq
  have neq_83_h0 : h0 ≠ q_83 := ne_q hr_39.lt hq
  have hr_39 := hr_39.kept (ho _ hr_39.lt)
  have neq_83_q_11 : q_11 ≠ q_83 := ne_q hr_34.lt hq
  have hr_34 := hr_34.kept (ho _ hr_34.lt)
  have neq_83_q_36 : q_36 ≠ q_83 := ne_q hr_69.lt hq
  have hr_69 := hr_69.kept (ho _ hr_69.lt)
  have neq_83_q_81 : q_81 ≠ q_83 := ne_q hr_82.lt hq
  have hr_82 := hr_82.kept (ho _ hr_82.lt)
  have szq_83 : sz ≤ q_83 := le_q hsz hSo hq
  have hT := hT.kept ho
  refine lv_dup hx hb dX9_init_145 rfl ?_
  refine lv_iload hx hb dX9_init_146 (lv_at hl 2 rfl) ?_
  refine lv_aload hx hb dX9_init_148 (lv_at hl 1 rfl) ?_
  refine lv_aload_n hx hb dX9_init_150 rfl (lv_at hl 6 rfl) ?_
  refine va_get (D := DG E) (ci := 9) (v := .ref q_4) (C := RX9) (T := TX9) (N := 3) hx hb hts iw_X9 hown hK.1 (va_one hr_39) 0 rfl rfl 2 (by decide) (hts _ fl_X9_16) (fun _ h9 => h9) rfl dX9_init_151 ?_
  obtain ⟨sz_hs_85, hs_85⟩ : ∃ z, z = H.size := ⟨_, rfl⟩
  have szshs_85 : sz ≤ sz_hs_85 := le_q hsz hS.1 hs_85
  refine va_callv (rnI (fun H => H.size = sz_hs_85 ∧ va_at (DG E) vwCl (q_83, .inr (8, [.int 0, .null, .null, .null, .int 0, .int 0, .int 0, .null, .null])) H ∧ TH E (T0 E) G_75 [] H) (As := [.int 1, .ref b_71, .ref q_4]) (rest := [.ref q_83, .ref q_72, .ref q_81, .ref q_81, .int 1, .ref q_36]) ⟨hx, hb, hml, hown, hts⟩ (c_X8_init l E z0 G_75 q_83 sz_hs_85 1 b_71 q_4 zq_83 (Nat.le_trans hz1 szq_83) (Nat.le_trans hz1 szshs_85) gp_77 gp_79 (by decide)) (cwI 3 hts (gd1 co_X8_init rfl) rfl rfl rfl (hts _ in_X8) (hts _ ml_X9_40) (hts _ im_X8_init) rfl (by decide +kernel) ⟨Nat.le_of_ble_eq_true rfl, Nat.le_of_ble_eq_true rfl⟩) ⟨hs_85.symm, hr_84, hT⟩ (fun U hU hW => hK.go hW hS hAz hU) rfl rfl hl.1 rfl (lv_room (Nat.le_of_ble_eq_true rfl)) dX9_init_154 ⟨Nat.le_of_ble_eq_true rfl, Nat.le_of_ble_eq_true rfl⟩) hS (fun q _ h => h.elim (fun e => by rw [e]; exact (Or.inr szq_83)) (fun h => Or.inr (Nat.le_trans szshs_85 h))) (fun q h => h.elim (fun e => by rw [e]; exact (Or.inr szq_83)) (fun h => Or.inr (Nat.le_trans szshs_85 h))) (fun G_86 t H locs ht hvm hw hB hz hk hS => ?_)
  have hw_87 := hw
  rw [ht] at hB
  have lth0 : h0 < sz_hs_85 := ltz_s hr_39.lt hs_85
  have hr_39 := hr_39.kept (hk _ hr_39.lt (fun h => h.elim neq_83_h0 (fun h => absurd h (Nat.not_le.mpr lth0))))
  have hG0 : G_86 h0 = 0 := gx_0 hw_87 hG0 neq_83_h0 lth0
  have ltq_11 : q_11 < sz_hs_85 := ltz_s hr_34.lt hs_85
  have hr_34 := hr_34.kept (hk _ hr_34.lt (fun h => h.elim neq_83_q_11 (fun h => absurd h (Nat.not_le.mpr ltq_11))))
  have zq_11 : G_86 q_11 = 0 := gx_0 hw_87 zq_11 neq_83_q_11 ltq_11
  have hf_13 := af_x hw_87 (by decide) hf_13
  have ltq_36 : q_36 < sz_hs_85 := ltz_s hr_69.lt hs_85
  have hr_69 := hr_69.kept (hk _ hr_69.lt (fun h => h.elim neq_83_q_36 (fun h => absurd h (Nat.not_le.mpr ltq_36))))
  have zq_36 : G_86 q_36 = 0 := gx_0 hw_87 zq_36 neq_83_q_36 ltq_36
  have hf_38 := af_x hw_87 (by decide) hf_38
  have ltq_81 : q_81 < sz_hs_85 := ltz_s hr_82.lt hs_85
  have hr_82 := hr_82.kept (hk _ hr_82.lt (fun h => h.elim neq_83_q_81 (fun h => absurd h (Nat.not_le.mpr ltq_81))))
  have zq_81 : G_86 q_81 = 0 := gx_0 hw_87 zq_81 neq_83_q_81 ltq_81
  have gp_88 : G_86 q_72 = 9 := gx_k hw_87 gq_80 (by decide)
  have gp_89 : G_86 b_71 = 5 := gx_k hw_87 gp_77 (by decide)
  have gp_90 : G_86 q_4 = 4 := gx_k hw_87 gp_79 (by decide)
  have gq_91 : G_86 q_83 = 10 := hw_87.2
  have hE := hE.step hw_87 szq_83 szshs_85
  have hT : TH E (T0 E) G_86 [] H := hB
  obtain ⟨sz_hs_92, hs_92⟩ : ∃ z, z = H.size := ⟨_, rfl⟩
  have szshs_92 : sz ≤ sz_hs_92 := le_q hsz hS.1 hs_92
  refine va_callv (rnI (fun H => H.size = sz_hs_92 ∧ va_at (DG E) vwCl (q_81, .inr (3, [.null, .null, .int 0])) H ∧ TH E (T0 E) G_86 [] H) (As := [.ref q_72, .ref q_83]) (rest := [.ref q_81, .int 1, .ref q_36]) ⟨hx, hb, hml, hown, hts⟩ (c_X3_init l E z0 G_86 q_81 sz_hs_92 q_72 q_83 zq_81 (Nat.le_trans hz1 szq_81) (Nat.le_trans hz1 szshs_92) gp_88 gq_91) (cwI 2 hts (gd1 co_X3_init rfl) rfl rfl rfl (hts _ in_X3) (hts _ ml_X9_43) (hts _ im_X3_init) rfl (by decide +kernel) ⟨Nat.le_of_ble_eq_true rfl, Nat.le_of_ble_eq_true rfl⟩) ⟨hs_92.symm, hr_82, hT⟩ (fun U hU hW => hK.go hW hS hAz hU) rfl rfl hl.1 rfl (lv_room (Nat.le_of_ble_eq_true rfl)) dX9_init_157 ⟨Nat.le_of_ble_eq_true rfl, Nat.le_of_ble_eq_true rfl⟩) hS (fun q _ h => h.elim (fun e => by rw [e]; exact (Or.inr szq_81)) (fun h => Or.inr (Nat.le_trans szshs_92 h))) (fun q h => h.elim (fun e => by rw [e]; exact (Or.inr szq_81)) (fun h => Or.inr (Nat.le_trans szshs_92 h))) (fun G_93 t H locs ht hvm hw hB hz hk hS => ?_)
  have hw_94 := hw
  rw [ht] at hB
  have lth0 : h0 < sz_hs_92 := ltz_s hr_39.lt hs_92
  have hr_39 := hr_39.kept (hk _ hr_39.lt (fun h => h.elim neq_81_h0 (fun h => absurd h (Nat.not_le.mpr lth0))))
  have hG0 : G_93 h0 = 0 := gx_0 hw_94 hG0 neq_81_h0 lth0
  have ltq_11 : q_11 < sz_hs_92 := ltz_s hr_34.lt hs_92
  have hr_34 := hr_34.kept (hk _ hr_34.lt (fun h => h.elim neq_81_q_11 (fun h => absurd h (Nat.not_le.mpr ltq_11))))
  have zq_11 : G_93 q_11 = 0 := gx_0 hw_94 zq_11 neq_81_q_11 ltq_11
  have hf_13 := af_x hw_94 (by decide) hf_13
  have ltq_36 : q_36 < sz_hs_92 := ltz_s hr_69.lt hs_92
  have hr_69 := hr_69.kept (hk _ hr_69.lt (fun h => h.elim neq_81_q_36 (fun h => absurd h (Nat.not_le.mpr ltq_36))))
  have zq_36 : G_93 q_36 = 0 := gx_0 hw_94 zq_36 neq_81_q_36 ltq_36
  have hf_38 := af_x hw_94 (by decide) hf_38
  have gp_95 : G_93 q_72 = 9 := gx_k hw_94 gp_88 (by decide)
  have gp_96 : G_93 b_71 = 5 := gx_k hw_94 gp_89 (by decide)
  have gp_97 : G_93 q_4 = 4 := gx_k hw_94 gp_90 (by decide)
  have gq_98 : G_93 q_81 = 8 := hw_94.2
  have hE := hE.step hw_94 szq_81 szshs_92
  have hT : TH E (T0 E) G_93 [] H := hB
  obtain ⟨rq_99, rs_99, ha_99, hg_99_0, hg_99_1⟩ := tg_8 hT gq_98 nx_0
  refine rr_aast (D := DG E) hx hb hK.1 5 3 hr_69 hS (Or.inr szq_36) rfl ha_99 rfl (show vp_in (1) 4 from vp_in_iff.mpr ⟨by decide, by decide⟩) dX9_init_160 (fun H locs hn ho hz hS => ?_)
  have hr_100 : va_at (DG E) vwCl (q_36, .inl (E.2.2 5, 4, .inr (.inr (.inr (.inr (va_up (va_up (fun _ => none) 0 (some q_50)) 1 (some q_81))))))) H := hn
  have hf_38 := af_push hf_38 gq_98
  have hr_39 := hr_39.kept (ho _ neq_36_h0)
  have hr_34 := hr_34.kept (ho _ neq_36_q_11)
  have hT := hT.off zq_36 ho
  refine lv_iinc (v := 2) (lv' := [(7, .int 2), (9, .ref q_72), (8, .ref b_71), (6, .int x_3), (5, .int x_2), (4, .int x_1), (0, .ref h0), (1, .int p0), (2, .int p1), (3, .int p2)]) hx hb dX9_init_161 hl (k := 2) rfl (by decide) (by decide) rfl (fun ls hl => ?_)
  refine lv_goto (tgt := 90) hx hb dX9_init_164 (by decide) ?_
  refine lv_iload hx hb dX9_init_90 (lv_at hl 0 rfl) ?_
  refine lv_iconst (v := 4) hx hb dX9_init_92 (by decide) ?_
  refine lv_icmp_ge (tgt := 167) hx hb dX9_init_93 (by decide) (fun c_101 => absurd c_101 (by decide)) (fun c_101 => ?_)
  refine lv_aload_n hx hb dX9_init_96 rfl (lv_at hl 6 rfl) ?_
  refine va_get (D := DG E) (ci := 9) (v := .ref q_11) (C := RX9) (T := TX9) (N := 3) hx hb hts iw_X9 hown hK.1 (va_one hr_39) 0 rfl rfl 0 (by decide) (hts _ fl_X9_22) (fun _ h9 => h9) rfl dX9_init_97 ?_
  refine lv_iload hx hb dX9_init_100 (lv_at hl 0 rfl) ?_
  refine lv_iconst (v := 2) hx hb dX9_init_102 (by decide) ?_
  refine lv_irem hx hb dX9_init_103 (by decide) ?_
  refine W.eq (g2 := F0 m 104 ls [.int 0, .ref q_11]) (by rfl) ?_
  obtain ⟨b_102, eb_102, gb_102⟩ := hf_13 0 (by decide)
  refine va_aldq (D := DG E) hx hb hK.1 (va_one hr_34) 0 3 rfl rfl (show vp_in (0) 2 from vp_in_iff.mpr ⟨by decide, by decide⟩) dX9_init_104 ?_
  refine W.eq (g2 := F0 m 105 ls [.ref b_102]) (by rw [show (0 : Int32).toNatClampNeg = 0 from by decide, eb_102]; rfl) ?_
  refine lv_astore (lv' := [(8, .ref b_102), (7, .int 2), (9, .ref q_72), (6, .int x_3), (5, .int x_2), (4, .int x_1), (0, .ref h0), (1, .int p0), (2, .int p1), (3, .int p2)]) hx hb dX9_init_105 hl (by decide) rfl (fun ls hl => ?_)
  have hSo : s.heap.size ≤ _ := hS.1
  refine rr_new (ci := 7) (fs := [.int 0, .null, .null, .int 0, .int 0, .int 0, .null, .int 0, .int 0, .int 0, .int 0, .int 0, .int 0, .int 0]) (C := RX7) (T := TX7) (N := 14) hx hb hts iw_X7 tyX7 tyX7_ok hown (hts _ cl_X9_33) (hts _ ia_X7) (hts _ in_X7) hK.1 hS rfl (fun j hj => by rcases (show j = 0 ∨ j = 1 ∨ j = 2 ∨ j = 3 ∨ j = 4 ∨ j = 5 ∨ j = 6 ∨ j = 7 ∨ j = 8 ∨ j = 9 ∨ j = 10 ∨ j = 11 ∨ j = 12 ∨ j = 13 by omega) with rfl | rfl | rfl | rfl | rfl | rfl | rfl | rfl | rfl | rfl | rfl | rfl | rfl | rfl <;> rfl) (Nat.le_of_ble_eq_true rfl) (Nat.le_of_ble_eq_true rfl) dX9_init_107 (fun q_103 H hq hat hz ho hS => ?_)
  have hr_104 := hat
  have zq_103 := hT.fresh hq
  have neq_103_h0 : h0 ≠ q_103 := ne_q hr_39.lt hq
  have hr_39 := hr_39.kept (ho _ hr_39.lt)
  have neq_103_q_11 : q_11 ≠ q_103 := ne_q hr_34.lt hq
  have hr_34 := hr_34.kept (ho _ hr_34.lt)
  have neq_103_q_36 : q_36 ≠ q_103 := ne_q hr_100.lt hq
  have hr_100 := hr_100.kept (ho _ hr_100.lt)
  have szq_103 : sz ≤ q_103 := le_q hsz hSo hq
  have hT := hT.kept ho
  refine lv_dup hx hb dX9_init_110 rfl ?_
  refine lv_iload hx hb dX9_init_111 (lv_at hl 1 rfl) ?_
  refine lv_aload hx hb dX9_init_113 (lv_at hl 0 rfl) ?_
  refine lv_aload_n hx hb dX9_init_115 rfl (lv_at hl 6 rfl) ?_
  refine va_get (D := DG E) (ci := 9) (v := .ref q_4) (C := RX9) (T := TX9) (N := 3) hx hb hts iw_X9 hown hK.1 (va_one hr_39) 0 rfl rfl 2 (by decide) (hts _ fl_X9_16) (fun _ h9 => h9) rfl dX9_init_116 ?_
  refine lv_iload hx hb dX9_init_119 (lv_at hl 5 rfl) ?_
  refine lv_iload hx hb dX9_init_121 (lv_at hl 4 rfl) ?_
  refine lv_iload hx hb dX9_init_123 (lv_at hl 3 rfl) ?_
  obtain ⟨sz_hs_105, hs_105⟩ : ∃ z, z = H.size := ⟨_, rfl⟩
  have szshs_105 : sz ≤ sz_hs_105 := le_q hsz hS.1 hs_105
  refine va_callv (rnI (fun H => H.size = sz_hs_105 ∧ va_at (DG E) vwCl (q_103, .inr (7, [.int 0, .null, .null, .int 0, .int 0, .int 0, .null, .int 0, .int 0, .int 0, .int 0, .int 0, .int 0, .int 0])) H ∧ TH E (T0 E) G_93 [] H) (As := [.int 2, .ref b_102, .ref q_4, .int x_1, .int x_2, .int x_3]) (rest := [.ref q_103]) ⟨hx, hb, hml, hown, hts⟩ (c_X7_init l E z0 G_93 q_103 sz_hs_105 2 b_102 q_4 x_1 x_2 x_3 zq_103 (Nat.le_trans hz1 szq_103) (Nat.le_trans hz1 szshs_105) gb_102 gp_97 (by decide)) (cwI 6 hts (gd1 co_X7_init rfl) rfl rfl rfl (hts _ in_X7) (hts _ ml_X9_35) (hts _ im_X7_init) rfl (by decide +kernel) ⟨Nat.le_of_ble_eq_true rfl, Nat.le_of_ble_eq_true rfl⟩) ⟨hs_105.symm, hr_104, hT⟩ (fun U hU hW => hK.go hW hS hAz hU) rfl rfl hl.1 rfl (lv_room (Nat.le_of_ble_eq_true rfl)) dX9_init_125 ⟨Nat.le_of_ble_eq_true rfl, Nat.le_of_ble_eq_true rfl⟩) hS (fun q _ h => h.elim (fun e => by rw [e]; exact (Or.inr szq_103)) (fun h => Or.inr (Nat.le_trans szshs_105 h))) (fun q h => h.elim (fun e => by rw [e]; exact (Or.inr szq_103)) (fun h => Or.inr (Nat.le_trans szshs_105 h))) (fun G_106 t H locs ht hvm hw hB hz hk hS => ?_)
  have hw_107 := hw
  rw [ht] at hB
  have lth0 : h0 < sz_hs_105 := ltz_s hr_39.lt hs_105
  have hr_39 := hr_39.kept (hk _ hr_39.lt (fun h => h.elim neq_103_h0 (fun h => absurd h (Nat.not_le.mpr lth0))))
  have hG0 : G_106 h0 = 0 := gx_0 hw_107 hG0 neq_103_h0 lth0
  have ltq_11 : q_11 < sz_hs_105 := ltz_s hr_34.lt hs_105
  have hr_34 := hr_34.kept (hk _ hr_34.lt (fun h => h.elim neq_103_q_11 (fun h => absurd h (Nat.not_le.mpr ltq_11))))
  have zq_11 : G_106 q_11 = 0 := gx_0 hw_107 zq_11 neq_103_q_11 ltq_11
  have hf_13 := af_x hw_107 (by decide) hf_13
  have ltq_36 : q_36 < sz_hs_105 := ltz_s hr_100.lt hs_105
  have hr_100 := hr_100.kept (hk _ hr_100.lt (fun h => h.elim neq_103_q_36 (fun h => absurd h (Nat.not_le.mpr ltq_36))))
  have zq_36 : G_106 q_36 = 0 := gx_0 hw_107 zq_36 neq_103_q_36 ltq_36
  have hf_38 := af_x hw_107 (by decide) hf_38
  have gp_108 : G_106 b_102 = 5 := gx_k hw_107 gb_102 (by decide)
  have gp_109 : G_106 q_72 = 9 := gx_k hw_107 gp_95 (by decide)
  have gp_110 : G_106 q_4 = 4 := gx_k hw_107 gp_97 (by decide)
  have gq_111 : G_106 q_103 = 9 := hw_107.2
  have hE := hE.step hw_107 szq_103 szshs_105
  have hT : TH E (T0 E) G_106 [] H := hB
  refine lv_astore (lv' := [(9, .ref q_103), (8, .ref b_102), (7, .int 2), (6, .int x_3), (5, .int x_2), (4, .int x_1), (0, .ref h0), (1, .int p0), (2, .int p1), (3, .int p2)]) hx hb dX9_init_128 hl (by decide) rfl (fun ls hl => ?_)
  refine lv_aload_n hx hb dX9_init_130 rfl (lv_at hl 6 rfl) ?_
  refine va_get (D := DG E) (ci := 9) (v := .ref q_36) (C := RX9) (T := TX9) (N := 3) hx hb hts iw_X9 hown hK.1 (va_one hr_39) 0 rfl rfl 1 (by decide) (hts _ fl_X9_29) (fun _ h9 => h9) rfl dX9_init_131 ?_
  refine lv_iload hx hb dX9_init_134 (lv_at hl 2 rfl) ?_
  have hSo : s.heap.size ≤ _ := hS.1
  refine rr_new (ci := 3) (fs := [.null, .null, .int 0]) (C := RX3) (T := TX3) (N := 3) hx hb hts iw_X3 tyX3 tyX3_ok hown (hts _ cl_X9_27) (hts _ ia_X3) (hts _ in_X3) hK.1 hS rfl (fun j hj => by rcases (show j = 0 ∨ j = 1 ∨ j = 2 by omega) with rfl | rfl | rfl <;> rfl) (Nat.le_of_ble_eq_true rfl) (Nat.le_of_ble_eq_true rfl) dX9_init_136 (fun q_112 H hq hat hz ho hS => ?_)
  have hr_113 := hat
  have zq_112 := hT.fresh hq
  have neq_112_h0 : h0 ≠ q_112 := ne_q hr_39.lt hq
  have hr_39 := hr_39.kept (ho _ hr_39.lt)
  have neq_112_q_11 : q_11 ≠ q_112 := ne_q hr_34.lt hq
  have hr_34 := hr_34.kept (ho _ hr_34.lt)
  have neq_112_q_36 : q_36 ≠ q_112 := ne_q hr_100.lt hq
  have hr_100 := hr_100.kept (ho _ hr_100.lt)
  have szq_112 : sz ≤ q_112 := le_q hsz hSo hq
  have hT := hT.kept ho
  refine lv_dup hx hb dX9_init_139 rfl ?_
  refine lv_aload hx hb dX9_init_140 (lv_at hl 0 rfl) ?_
  have hSo : s.heap.size ≤ _ := hS.1
  refine rr_new (ci := 8) (fs := [.int 0, .null, .null, .null, .int 0, .int 0, .int 0, .null, .null]) (C := RX8) (T := TX8) (N := 9) hx hb hts iw_X8 tyX8 tyX8_ok hown (hts _ cl_X9_38) (hts _ ia_X8) (hts _ in_X8) hK.1 hS rfl (fun j hj => by rcases (show j = 0 ∨ j = 1 ∨ j = 2 ∨ j = 3 ∨ j = 4 ∨ j = 5 ∨ j = 6 ∨ j = 7 ∨ j = 8 by omega) with rfl | rfl | rfl | rfl | rfl | rfl | rfl | rfl | rfl <;> rfl) (Nat.le_of_ble_eq_true rfl) (Nat.le_of_ble_eq_true rfl) dX9_init_142 (fun q_114 H hq hat hz ho hS => ?_)
  have hr_115 := hat
  have zq_114 := hT.fresh hq
  have neq_114_h0 : h0 ≠ q_114 := ne_q hr_39.lt hq
  have hr_39 := hr_39.kept (ho _ hr_39.lt)
  have neq_114_q_11 : q_11 ≠ q_114 := ne_q hr_34.lt hq
  have hr_34 := hr_34.kept (ho _ hr_34.lt)
  have neq_114_q_36 : q_36 ≠ q_114 := ne_q hr_100.lt hq
  have hr_100 := hr_100.kept (ho _ hr_100.lt)
  have neq_114_q_112 : q_112 ≠ q_114 := ne_q hr_113.lt hq
  have hr_113 := hr_113.kept (ho _ hr_113.lt)
  have szq_114 : sz ≤ q_114 := le_q hsz hSo hq
  have hT := hT.kept ho
  refine lv_dup hx hb dX9_init_145 rfl ?_
  refine lv_iload hx hb dX9_init_146 (lv_at hl 2 rfl) ?_
  refine lv_aload hx hb dX9_init_148 (lv_at hl 1 rfl) ?_
  refine lv_aload_n hx hb dX9_init_150 rfl (lv_at hl 6 rfl) ?_
  refine va_get (D := DG E) (ci := 9) (v := .ref q_4) (C := RX9) (T := TX9) (N := 3) hx hb hts iw_X9 hown hK.1 (va_one hr_39) 0 rfl rfl 2 (by decide) (hts _ fl_X9_16) (fun _ h9 => h9) rfl dX9_init_151 ?_
  obtain ⟨sz_hs_116, hs_116⟩ : ∃ z, z = H.size := ⟨_, rfl⟩
  have szshs_116 : sz ≤ sz_hs_116 := le_q hsz hS.1 hs_116
  refine va_callv (rnI (fun H => H.size = sz_hs_116 ∧ va_at (DG E) vwCl (q_114, .inr (8, [.int 0, .null, .null, .null, .int 0, .int 0, .int 0, .null, .null])) H ∧ TH E (T0 E) G_106 [] H) (As := [.int 2, .ref b_102, .ref q_4]) (rest := [.ref q_114, .ref q_103, .ref q_112, .ref q_112, .int 2, .ref q_36]) ⟨hx, hb, hml, hown, hts⟩ (c_X8_init l E z0 G_106 q_114 sz_hs_116 2 b_102 q_4 zq_114 (Nat.le_trans hz1 szq_114) (Nat.le_trans hz1 szshs_116) gp_108 gp_110 (by decide)) (cwI 3 hts (gd1 co_X8_init rfl) rfl rfl rfl (hts _ in_X8) (hts _ ml_X9_40) (hts _ im_X8_init) rfl (by decide +kernel) ⟨Nat.le_of_ble_eq_true rfl, Nat.le_of_ble_eq_true rfl⟩) ⟨hs_116.symm, hr_115, hT⟩ (fun U hU hW => hK.go hW hS hAz hU) rfl rfl hl.1 rfl (lv_room (Nat.le_of_ble_eq_true rfl)) dX9_init_154 ⟨Nat.le_of_ble_eq_true rfl, Nat.le_of_ble_eq_true rfl⟩) hS (fun q _ h => h.elim (fun e => by rw [e]; exact (Or.inr szq_114)) (fun h => Or.inr (Nat.le_trans szshs_116 h))) (fun q h => h.elim (fun e => by rw [e]; exact (Or.inr szq_114)) (fun h => Or.inr (Nat.le_trans szshs_116 h))) (fun G_117 t H locs ht hvm hw hB hz hk hS => ?_)
  have hw_118 := hw
  rw [ht] at hB
  have lth0 : h0 < sz_hs_116 := ltz_s hr_39.lt hs_116
  have hr_39 := hr_39.kept (hk _ hr_39.lt (fun h => h.elim neq_114_h0 (fun h => absurd h (Nat.not_le.mpr lth0))))
  have hG0 : G_117 h0 = 0 := gx_0 hw_118 hG0 neq_114_h0 lth0
  have ltq_11 : q_11 < sz_hs_116 := ltz_s hr_34.lt hs_116
  have hr_34 := hr_34.kept (hk _ hr_34.lt (fun h => h.elim neq_114_q_11 (fun h => absurd h (Nat.not_le.mpr ltq_11))))
  have zq_11 : G_117 q_11 = 0 := gx_0 hw_118 zq_11 neq_114_q_11 ltq_11
  have hf_13 := af_x hw_118 (by decide) hf_13
  have ltq_36 : q_36 < sz_hs_116 := ltz_s hr_100.lt hs_116
  have hr_100 := hr_100.kept (hk _ hr_100.lt (fun h => h.elim neq_114_q_36 (fun h => absurd h (Nat.not_le.mpr ltq_36))))
  have zq_36 : G_117 q_36 = 0 := gx_0 hw_118 zq_36 neq_114_q_36 ltq_36
  have hf_38 := af_x hw_118 (by decide) hf_38
  have ltq_112 : q_112 < sz_hs_116 := ltz_s hr_113.lt hs_116
  have hr_113 := hr_113.kept (hk _ hr_113.lt (fun h => h.elim neq_114_q_112 (fun h => absurd h (Nat.not_le.mpr ltq_112))))
  have zq_112 : G_117 q_112 = 0 := gx_0 hw_118 zq_112 neq_114_q_112 ltq_112
  have gp_119 : G_117 q_103 = 9 := gx_k hw_118 gq_111 (by decide)
  have gp_120 : G_117 b_102 = 5 := gx_k hw_118 gp_108 (by decide)
  have gp_121 : G_117 q_4 = 4 := gx_k hw_118 gp_110 (by decide)
  have gq_122 : G_117 q_114 = 10 := hw_118.2
  have hE := hE.step hw_118 szq_114 szshs_116
  have hT : TH E (T0 E) G_117 [] H := hB
  obtain ⟨sz_hs_123, hs_123⟩ : ∃ z, z = H.size := ⟨_, rfl⟩
  have szshs_123 : sz ≤ sz_hs_123 := le_q hsz hS.1 hs_123
  refine va_callv (rnI (fun H => H.size = sz_hs_123 ∧ va_at (DG E) vwCl (q_112, .inr (3, [.null, .null, .int 0])) H ∧ TH E (T0 E) G_117 [] H) (As := [.ref q_103, .ref q_114]) (rest := [.ref q_112, .int 2, .ref q_36]) ⟨hx, hb, hml, hown, hts⟩ (c_X3_init l E z0 G_117 q_112 sz_hs_123 q_103 q_114 zq_112 (Nat.le_trans hz1 szq_112) (Nat.le_trans hz1 szshs_123) gp_119 gq_122) (cwI 2 hts (gd1 co_X3_init rfl) rfl rfl rfl (hts _ in_X3) (hts _ ml_X9_43) (hts _ im_X3_init) rfl (by decide +kernel) ⟨Nat.le_of_ble_eq_true rfl, Nat.le_of_ble_eq_true rfl⟩) ⟨hs_123.symm, hr_113, hT⟩ (fun U hU hW => hK.go hW hS hAz hU) rfl rfl hl.1 rfl (lv_room (Nat.le_of_ble_eq_true rfl)) dX9_init_157 ⟨Nat.le_of_ble_eq_true rfl, Nat.le_of_ble_eq_true rfl⟩) hS (fun q _ h => h.elim (fun e => by rw [e]; exact (Or.inr szq_112)) (fun h => Or.inr (Nat.le_trans szshs_123 h))) (fun q h => h.elim (fun e => by rw [e]; exact (Or.inr szq_112)) (fun h => Or.inr (Nat.le_trans szshs_123 h))) (fun G_124 t H locs ht hvm hw hB hz hk hS => ?_)
  have hw_125 := hw
  rw [ht] at hB
  have lth0 : h0 < sz_hs_123 := ltz_s hr_39.lt hs_123
  have hr_39 := hr_39.kept (hk _ hr_39.lt (fun h => h.elim neq_112_h0 (fun h => absurd h (Nat.not_le.mpr lth0))))
  have hG0 : G_124 h0 = 0 := gx_0 hw_125 hG0 neq_112_h0 lth0
  have ltq_11 : q_11 < sz_hs_123 := ltz_s hr_34.lt hs_123
  have hr_34 := hr_34.kept (hk _ hr_34.lt (fun h => h.elim neq_112_q_11 (fun h => absurd h (Nat.not_le.mpr ltq_11))))
  have zq_11 : G_124 q_11 = 0 := gx_0 hw_125 zq_11 neq_112_q_11 ltq_11
  have hf_13 := af_x hw_125 (by decide) hf_13
  have ltq_36 : q_36 < sz_hs_123 := ltz_s hr_100.lt hs_123
  have hr_100 := hr_100.kept (hk _ hr_100.lt (fun h => h.elim neq_112_q_36 (fun h => absurd h (Nat.not_le.mpr ltq_36))))
  have zq_36 : G_124 q_36 = 0 := gx_0 hw_125 zq_36 neq_112_q_36 ltq_36
  have hf_38 := af_x hw_125 (by decide) hf_38
  have gp_126 : G_124 q_103 = 9 := gx_k hw_125 gp_119 (by decide)
  have gp_127 : G_124 b_102 = 5 := gx_k hw_125 gp_120 (by decide)
  have gp_128 : G_124 q_4 = 4 := gx_k hw_125 gp_121 (by decide)
  have gq_129 : G_124 q_112 = 8 := hw_125.2
  have hE := hE.step hw_125 szq_112 szshs_123
  have hT : TH E (T0 E) G_124 [] H := hB
  obtain ⟨rq_130, rs_130, ha_130, hg_130_0, hg_130_1⟩ := tg_8 hT gq_129 nx_0
  refine rr_aast (D := DG E) hx hb hK.1 5 3 hr_100 hS (Or.inr szq_36) rfl ha_130 rfl (show vp_in (2) 4 from vp_in_iff.mpr ⟨by decide, by decide⟩) dX9_init_160 (fun H locs hn ho hz hS => ?_)
  have hr_131 : va_at (DG E) vwCl (q_36, .inl (E.2.2 5, 4, .inr (.inr (.inr (.inr (va_up (va_up (va_up (fun _ => none) 0 (some q_50)) 1 (some q_81)) 2 (some q_112))))))) H := hn
  have hf_38 := af_push hf_38 gq_129
  have hr_39 := hr_39.kept (ho _ neq_36_h0)
  have hr_34 := hr_34.kept (ho _ neq_36_q_11)
  have hT := hT.off zq_36 ho
  refine lv_iinc (v := 3) (lv' := [(7, .int 3), (9, .ref q_103), (8, .ref b_102), (6, .int x_3), (5, .int x_2), (4, .int x_1), (0, .ref h0), (1, .int p0), (2, .int p1), (3, .int p2)]) hx hb dX9_init_161 hl (k := 2) rfl (by decide) (by decide) rfl (fun ls hl => ?_)
  refine lv_goto (tgt := 90) hx hb dX9_init_164 (by decide) ?_
  refine lv_iload hx hb dX9_init_90 (lv_at hl 0 rfl) ?_
  refine lv_iconst (v := 4) hx hb dX9_init_92 (by decide) ?_
  refine lv_icmp_ge (tgt := 167) hx hb dX9_init_93 (by decide) (fun c_132 => absurd c_132 (by decide)) (fun c_132 => ?_)
  refine lv_aload_n hx hb dX9_init_96 rfl (lv_at hl 6 rfl) ?_
  refine va_get (D := DG E) (ci := 9) (v := .ref q_11) (C := RX9) (T := TX9) (N := 3) hx hb hts iw_X9 hown hK.1 (va_one hr_39) 0 rfl rfl 0 (by decide) (hts _ fl_X9_22) (fun _ h9 => h9) rfl dX9_init_97 ?_
  refine lv_iload hx hb dX9_init_100 (lv_at hl 0 rfl) ?_
  refine lv_iconst (v := 2) hx hb dX9_init_102 (by decide) ?_
  refine lv_irem hx hb dX9_init_103 (by decide) ?_
  refine W.eq (g2 := F0 m 104 ls [.int 1, .ref q_11]) (by rfl) ?_
  obtain ⟨b_133, eb_133, gb_133⟩ := hf_13 1 (by decide)
  refine va_aldq (D := DG E) hx hb hK.1 (va_one hr_34) 0 3 rfl rfl (show vp_in (1) 2 from vp_in_iff.mpr ⟨by decide, by decide⟩) dX9_init_104 ?_
  refine W.eq (g2 := F0 m 105 ls [.ref b_133]) (by rw [show (1 : Int32).toNatClampNeg = 1 from by decide, eb_133]; rfl) ?_
  refine lv_astore (lv' := [(8, .ref b_133), (7, .int 3), (9, .ref q_103), (6, .int x_3), (5, .int x_2), (4, .int x_1), (0, .ref h0), (1, .int p0), (2, .int p1), (3, .int p2)]) hx hb dX9_init_105 hl (by decide) rfl (fun ls hl => ?_)
  have hSo : s.heap.size ≤ _ := hS.1
  refine rr_new (ci := 7) (fs := [.int 0, .null, .null, .int 0, .int 0, .int 0, .null, .int 0, .int 0, .int 0, .int 0, .int 0, .int 0, .int 0]) (C := RX7) (T := TX7) (N := 14) hx hb hts iw_X7 tyX7 tyX7_ok hown (hts _ cl_X9_33) (hts _ ia_X7) (hts _ in_X7) hK.1 hS rfl (fun j hj => by rcases (show j = 0 ∨ j = 1 ∨ j = 2 ∨ j = 3 ∨ j = 4 ∨ j = 5 ∨ j = 6 ∨ j = 7 ∨ j = 8 ∨ j = 9 ∨ j = 10 ∨ j = 11 ∨ j = 12 ∨ j = 13 by omega) with rfl | rfl | rfl | rfl | rfl | rfl | rfl | rfl | rfl | rfl | rfl | rfl | rfl | rfl <;> rfl) (Nat.le_of_ble_eq_true rfl) (Nat.le_of_ble_eq_true rfl) dX9_init_107 (fun q_134 H hq hat hz ho hS => ?_)
  have hr_135 := hat
  have zq_134 := hT.fresh hq
  have neq_134_h0 : h0 ≠ q_134 := ne_q hr_39.lt hq
  have hr_39 := hr_39.kept (ho _ hr_39.lt)
  have neq_134_q_11 : q_11 ≠ q_134 := ne_q hr_34.lt hq
  have hr_34 := hr_34.kept (ho _ hr_34.lt)
  have neq_134_q_36 : q_36 ≠ q_134 := ne_q hr_131.lt hq
  have hr_131 := hr_131.kept (ho _ hr_131.lt)
  have szq_134 : sz ≤ q_134 := le_q hsz hSo hq
  have hT := hT.kept ho
  refine lv_dup hx hb dX9_init_110 rfl ?_
  refine lv_iload hx hb dX9_init_111 (lv_at hl 1 rfl) ?_
  refine lv_aload hx hb dX9_init_113 (lv_at hl 0 rfl) ?_
  refine lv_aload_n hx hb dX9_init_115 rfl (lv_at hl 6 rfl) ?_
  refine va_get (D := DG E) (ci := 9) (v := .ref q_4) (C := RX9) (T := TX9) (N := 3) hx hb hts iw_X9 hown hK.1 (va_one hr_39) 0 rfl rfl 2 (by decide) (hts _ fl_X9_16) (fun _ h9 => h9) rfl dX9_init_116 ?_
  refine lv_iload hx hb dX9_init_119 (lv_at hl 5 rfl) ?_
  refine lv_iload hx hb dX9_init_121 (lv_at hl 4 rfl) ?_
  refine lv_iload hx hb dX9_init_123 (lv_at hl 3 rfl) ?_
  obtain ⟨sz_hs_136, hs_136⟩ : ∃ z, z = H.size := ⟨_, rfl⟩
  have szshs_136 : sz ≤ sz_hs_136 := le_q hsz hS.1 hs_136
  refine va_callv (rnI (fun H => H.size = sz_hs_136 ∧ va_at (DG E) vwCl (q_134, .inr (7, [.int 0, .null, .null, .int 0, .int 0, .int 0, .null, .int 0, .int 0, .int 0, .int 0, .int 0, .int 0, .int 0])) H ∧ TH E (T0 E) G_124 [] H) (As := [.int 3, .ref b_133, .ref q_4, .int x_1, .int x_2, .int x_3]) (rest := [.ref q_134]) ⟨hx, hb, hml, hown, hts⟩ (c_X7_init l E z0 G_124 q_134 sz_hs_136 3 b_133 q_4 x_1 x_2 x_3 zq_134 (Nat.le_trans hz1 szq_134) (Nat.le_trans hz1 szshs_136) gb_133 gp_128 (by decide)) (cwI 6 hts (gd1 co_X7_init rfl) rfl rfl rfl (hts _ in_X7) (hts _ ml_X9_35) (hts _ im_X7_init) rfl (by decide +kernel) ⟨Nat.le_of_ble_eq_true rfl, Nat.le_of_ble_eq_true rfl⟩) ⟨hs_136.symm, hr_135, hT⟩ (fun U hU hW => hK.go hW hS hAz hU) rfl rfl hl.1 rfl (lv_room (Nat.le_of_ble_eq_true rfl)) dX9_init_125 ⟨Nat.le_of_ble_eq_true rfl, Nat.le_of_ble_eq_true rfl⟩) hS (fun q _ h => h.elim (fun e => by rw [e]; exact (Or.inr szq_134)) (fun h => Or.inr (Nat.le_trans szshs_136 h))) (fun q h => h.elim (fun e => by rw [e]; exact (Or.inr szq_134)) (fun h => Or.inr (Nat.le_trans szshs_136 h))) (fun G_137 t H locs ht hvm hw hB hz hk hS => ?_)
  have hw_138 := hw
  rw [ht] at hB
  have lth0 : h0 < sz_hs_136 := ltz_s hr_39.lt hs_136
  have hr_39 := hr_39.kept (hk _ hr_39.lt (fun h => h.elim neq_134_h0 (fun h => absurd h (Nat.not_le.mpr lth0))))
  have hG0 : G_137 h0 = 0 := gx_0 hw_138 hG0 neq_134_h0 lth0
  have ltq_11 : q_11 < sz_hs_136 := ltz_s hr_34.lt hs_136
  have hr_34 := hr_34.kept (hk _ hr_34.lt (fun h => h.elim neq_134_q_11 (fun h => absurd h (Nat.not_le.mpr ltq_11))))
  have zq_11 : G_137 q_11 = 0 := gx_0 hw_138 zq_11 neq_134_q_11 ltq_11
  have hf_13 := af_x hw_138 (by decide) hf_13
  have ltq_36 : q_36 < sz_hs_136 := ltz_s hr_131.lt hs_136
  have hr_131 := hr_131.kept (hk _ hr_131.lt (fun h => h.elim neq_134_q_36 (fun h => absurd h (Nat.not_le.mpr ltq_36))))
  have zq_36 : G_137 q_36 = 0 := gx_0 hw_138 zq_36 neq_134_q_36 ltq_36
  have hf_38 := af_x hw_138 (by decide) hf_38
  have gp_139 : G_137 b_133 = 5 := gx_k hw_138 gb_133 (by decide)
  have gp_140 : G_137 q_103 = 9 := gx_k hw_138 gp_126 (by decide)
  have gp_141 : G_137 q_4 = 4 := gx_k hw_138 gp_128 (by decide)
  have gq_142 : G_137 q_134 = 9 := hw_138.2
  have hE := hE.step hw_138 szq_134 szshs_136
  have hT : TH E (T0 E) G_137 [] H := hB
  refine lv_astore (lv' := [(9, .ref q_134), (8, .ref b_133), (7, .int 3), (6, .int x_3), (5, .int x_2), (4, .int x_1), (0, .ref h0), (1, .int p0), (2, .int p1), (3, .int p2)]) hx hb dX9_init_128 hl (by decide) rfl (fun ls hl => ?_)
  refine lv_aload_n hx hb dX9_init_130 rfl (lv_at hl 6 rfl) ?_
  refine va_get (D := DG E) (ci := 9) (v := .ref q_36) (C := RX9) (T := TX9) (N := 3) hx hb hts iw_X9 hown hK.1 (va_one hr_39) 0 rfl rfl 1 (by decide) (hts _ fl_X9_29) (fun _ h9 => h9) rfl dX9_init_131 ?_
  refine lv_iload hx hb dX9_init_134 (lv_at hl 2 rfl) ?_
  have hSo : s.heap.size ≤ _ := hS.1
  refine rr_new (ci := 3) (fs := [.null, .null, .int 0]) (C := RX3) (T := TX3) (N := 3) hx hb hts iw_X3 tyX3 tyX3_ok hown (hts _ cl_X9_27) (hts _ ia_X3) (hts _ in_X3) hK.1 hS rfl (fun j hj => by rcases (show j = 0 ∨ j = 1 ∨ j = 2 by omega) with rfl | rfl | rfl <;> rfl) (Nat.le_of_ble_eq_true rfl) (Nat.le_of_ble_eq_true rfl) dX9_init_136 (fun q_143 H hq hat hz ho hS => ?_)
  have hr_144 := hat
  have zq_143 := hT.fresh hq
  have neq_143_h0 : h0 ≠ q_143 := ne_q hr_39.lt hq
  have hr_39 := hr_39.kept (ho _ hr_39.lt)
  have neq_143_q_11 : q_11 ≠ q_143 := ne_q hr_34.lt hq
  have hr_34 := hr_34.kept (ho _ hr_34.lt)
  have neq_143_q_36 : q_36 ≠ q_143 := ne_q hr_131.lt hq
  have hr_131 := hr_131.kept (ho _ hr_131.lt)
  have szq_143 : sz ≤ q_143 := le_q hsz hSo hq
  have hT := hT.kept ho
  refine lv_dup hx hb dX9_init_139 rfl ?_
  refine lv_aload hx hb dX9_init_140 (lv_at hl 0 rfl) ?_
  have hSo : s.heap.size ≤ _ := hS.1
  refine rr_new (ci := 8) (fs := [.int 0, .null, .null, .null, .int 0, .int 0, .int 0, .null, .null]) (C := RX8) (T := TX8) (N := 9) hx hb hts iw_X8 tyX8 tyX8_ok hown (hts _ cl_X9_38) (hts _ ia_X8) (hts _ in_X8) hK.1 hS rfl (fun j hj => by rcases (show j = 0 ∨ j = 1 ∨ j = 2 ∨ j = 3 ∨ j = 4 ∨ j = 5 ∨ j = 6 ∨ j = 7 ∨ j = 8 by omega) with rfl | rfl | rfl | rfl | rfl | rfl | rfl | rfl | rfl <;> rfl) (Nat.le_of_ble_eq_true rfl) (Nat.le_of_ble_eq_true rfl) dX9_init_142 (fun q_145 H hq hat hz ho hS => ?_)
  have hr_146 := hat
  have zq_145 := hT.fresh hq
  have neq_145_h0 : h0 ≠ q_145 := ne_q hr_39.lt hq
  have hr_39 := hr_39.kept (ho _ hr_39.lt)
  have neq_145_q_11 : q_11 ≠ q_145 := ne_q hr_34.lt hq
  have hr_34 := hr_34.kept (ho _ hr_34.lt)
  have neq_145_q_36 : q_36 ≠ q_145 := ne_q hr_131.lt hq
  have hr_131 := hr_131.kept (ho _ hr_131.lt)
  have neq_145_q_143 : q_143 ≠ q_145 := ne_q hr_144.lt hq
  have hr_144 := hr_144.kept (ho _ hr_144.lt)
  have szq_145 : sz ≤ q_145 := le_q hsz hSo hq
  have hT := hT.kept ho
  refine lv_dup hx hb dX9_init_145 rfl ?_
  refine lv_iload hx hb dX9_init_146 (lv_at hl 2 rfl) ?_
  refine lv_aload hx hb dX9_init_148 (lv_at hl 1 rfl) ?_
  refine lv_aload_n hx hb dX9_init_150 rfl (lv_at hl 6 rfl) ?_
  refine va_get (D := DG E) (ci := 9) (v := .ref q_4) (C := RX9) (T := TX9) (N := 3) hx hb hts iw_X9 hown hK.1 (va_one hr_39) 0 rfl rfl 2 (by decide) (hts _ fl_X9_16) (fun _ h9 => h9) rfl dX9_init_151 ?_
  obtain ⟨sz_hs_147, hs_147⟩ : ∃ z, z = H.size := ⟨_, rfl⟩
  have szshs_147 : sz ≤ sz_hs_147 := le_q hsz hS.1 hs_147
  refine va_callv (rnI (fun H => H.size = sz_hs_147 ∧ va_at (DG E) vwCl (q_145, .inr (8, [.int 0, .null, .null, .null, .int 0, .int 0, .int 0, .null, .null])) H ∧ TH E (T0 E) G_137 [] H) (As := [.int 3, .ref b_133, .ref q_4]) (rest := [.ref q_145, .ref q_134, .ref q_143, .ref q_143, .int 3, .ref q_36]) ⟨hx, hb, hml, hown, hts⟩ (c_X8_init l E z0 G_137 q_145 sz_hs_147 3 b_133 q_4 zq_145 (Nat.le_trans hz1 szq_145) (Nat.le_trans hz1 szshs_147) gp_139 gp_141 (by decide)) (cwI 3 hts (gd1 co_X8_init rfl) rfl rfl rfl (hts _ in_X8) (hts _ ml_X9_40) (hts _ im_X8_init) rfl (by decide +kernel) ⟨Nat.le_of_ble_eq_true rfl, Nat.le_of_ble_eq_true rfl⟩) ⟨hs_147.symm, hr_146, hT⟩ (fun U hU hW => hK.go hW hS hAz hU) rfl rfl hl.1 rfl (lv_room (Nat.le_of_ble_eq_true rfl)) dX9_init_154 ⟨Nat.le_of_ble_eq_true rfl, Nat.le_of_ble_eq_true rfl⟩) hS (fun q _ h => h.elim (fun e => by rw [e]; exact (Or.inr szq_145)) (fun h => Or.inr (Nat.le_trans szshs_147 h))) (fun q h => h.elim (fun e => by rw [e]; exact (Or.inr szq_145)) (fun h => Or.inr (Nat.le_trans szshs_147 h))) (fun G_148 t H locs ht hvm hw hB hz hk hS => ?_)
  have hw_149 := hw
  rw [ht] at hB
  have lth0 : h0 < sz_hs_147 := ltz_s hr_39.lt hs_147
  have hr_39 := hr_39.kept (hk _ hr_39.lt (fun h => h.elim neq_145_h0 (fun h => absurd h (Nat.not_le.mpr lth0))))
  have hG0 : G_148 h0 = 0 := gx_0 hw_149 hG0 neq_145_h0 lth0
  have ltq_11 : q_11 < sz_hs_147 := ltz_s hr_34.lt hs_147
  have hr_34 := hr_34.kept (hk _ hr_34.lt (fun h => h.elim neq_145_q_11 (fun h => absurd h (Nat.not_le.mpr ltq_11))))
  have zq_11 : G_148 q_11 = 0 := gx_0 hw_149 zq_11 neq_145_q_11 ltq_11
  have hf_13 := af_x hw_149 (by decide) hf_13
  have ltq_36 : q_36 < sz_hs_147 := ltz_s hr_131.lt hs_147
  have hr_131 := hr_131.kept (hk _ hr_131.lt (fun h => h.elim neq_145_q_36 (fun h => absurd h (Nat.not_le.mpr ltq_36))))
  have zq_36 : G_148 q_36 = 0 := gx_0 hw_149 zq_36 neq_145_q_36 ltq_36
  have hf_38 := af_x hw_149 (by decide) hf_38
  have ltq_143 : q_143 < sz_hs_147 := ltz_s hr_144.lt hs_147
  have hr_144 := hr_144.kept (hk _ hr_144.lt (fun h => h.elim neq_145_q_143 (fun h => absurd h (Nat.not_le.mpr ltq_143))))
  have zq_143 : G_148 q_143 = 0 := gx_0 hw_149 zq_143 neq_145_q_143 ltq_143
  have gp_150 : G_148 q_134 = 9 := gx_k hw_149 gq_142 (by decide)
  have gp_151 : G_148 b_133 = 5 := gx_k hw_149 gp_139 (by decide)
  have gp_152 : G_148 q_4 = 4 := gx_k hw_149 gp_141 (by decide)
  have gq_153 : G_148 q_145 = 10 := hw_149.2
  have hE := hE.step hw_149 szq_145 szshs_147
  have hT : TH E (T0 E) G_148 [] H := hB
  obtain ⟨sz_hs_154, hs_154⟩ : ∃ z, z = H.size := ⟨_, rfl⟩
  have szshs_154 : sz ≤ sz_hs_154 := le_q hsz hS.1 hs_154
  refine va_callv (rnI (fun H => H.size = sz_hs_154 ∧ va_at (DG E) vwCl (q_143, .inr (3, [.null, .null, .int 0])) H ∧ TH E (T0 E) G_148 [] H) (As := [.ref q_134, .ref q_145]) (rest := [.ref q_143, .int 3, .ref q_36]) ⟨hx, hb, hml, hown, hts⟩ (c_X3_init l E z0 G_148 q_143 sz_hs_154 q_134 q_145 zq_143 (Nat.le_trans hz1 szq_143) (Nat.le_trans hz1 szshs_154) gp_150 gq_153) (cwI 2 hts (gd1 co_X3_init rfl) rfl rfl rfl (hts _ in_X3) (hts _ ml_X9_43) (hts _ im_X3_init) rfl (by decide +kernel) ⟨Nat.le_of_ble_eq_true rfl, Nat.le_of_ble_eq_true rfl⟩) ⟨hs_154.symm, hr_144, hT⟩ (fun U hU hW => hK.go hW hS hAz hU) rfl rfl hl.1 rfl (lv_room (Nat.le_of_ble_eq_true rfl)) dX9_init_157 ⟨Nat.le_of_ble_eq_true rfl, Nat.le_of_ble_eq_true rfl⟩) hS (fun q _ h => h.elim (fun e => by rw [e]; exact (Or.inr szq_143)) (fun h => Or.inr (Nat.le_trans szshs_154 h))) (fun q h => h.elim (fun e => by rw [e]; exact (Or.inr szq_143)) (fun h => Or.inr (Nat.le_trans szshs_154 h))) (fun G_155 t H locs ht hvm hw hB hz hk hS => ?_)
  have hw_156 := hw
  rw [ht] at hB
  have lth0 : h0 < sz_hs_154 := ltz_s hr_39.lt hs_154
  have hr_39 := hr_39.kept (hk _ hr_39.lt (fun h => h.elim neq_143_h0 (fun h => absurd h (Nat.not_le.mpr lth0))))
  have hG0 : G_155 h0 = 0 := gx_0 hw_156 hG0 neq_143_h0 lth0
  have ltq_11 : q_11 < sz_hs_154 := ltz_s hr_34.lt hs_154
  have hr_34 := hr_34.kept (hk _ hr_34.lt (fun h => h.elim neq_143_q_11 (fun h => absurd h (Nat.not_le.mpr ltq_11))))
  have zq_11 : G_155 q_11 = 0 := gx_0 hw_156 zq_11 neq_143_q_11 ltq_11
  have hf_13 := af_x hw_156 (by decide) hf_13
  have ltq_36 : q_36 < sz_hs_154 := ltz_s hr_131.lt hs_154
  have hr_131 := hr_131.kept (hk _ hr_131.lt (fun h => h.elim neq_143_q_36 (fun h => absurd h (Nat.not_le.mpr ltq_36))))
  have zq_36 : G_155 q_36 = 0 := gx_0 hw_156 zq_36 neq_143_q_36 ltq_36
  have hf_38 := af_x hw_156 (by decide) hf_38
  have gp_157 : G_155 q_134 = 9 := gx_k hw_156 gp_150 (by decide)
  have gp_158 : G_155 b_133 = 5 := gx_k hw_156 gp_151 (by decide)
  have gp_159 : G_155 q_4 = 4 := gx_k hw_156 gp_152 (by decide)
  have gq_160 : G_155 q_143 = 8 := hw_156.2
  have hE := hE.step hw_156 szq_143 szshs_154
  have hT : TH E (T0 E) G_155 [] H := hB
  obtain ⟨rq_161, rs_161, ha_161, hg_161_0, hg_161_1⟩ := tg_8 hT gq_160 nx_0
  refine rr_aast (D := DG E) hx hb hK.1 5 3 hr_131 hS (Or.inr szq_36) rfl ha_161 rfl (show vp_in (3) 4 from vp_in_iff.mpr ⟨by decide, by decide⟩) dX9_init_160 (fun H locs hn ho hz hS => ?_)
  have hr_162 : va_at (DG E) vwCl (q_36, .inl (E.2.2 5, 4, .inr (.inr (.inr (.inr (va_up (va_up (va_up (va_up (fun _ => none) 0 (some q_50)) 1 (some q_81)) 2 (some q_112)) 3 (some q_143))))))) H := hn
  have hf_38 := af_push hf_38 gq_160
  have hr_39 := hr_39.kept (ho _ neq_36_h0)
  have hr_34 := hr_34.kept (ho _ neq_36_q_11)
  have hT := hT.off zq_36 ho
  refine lv_iinc (v := 4) (lv' := [(7, .int 4), (9, .ref q_134), (8, .ref b_133), (6, .int x_3), (5, .int x_2), (4, .int x_1), (0, .ref h0), (1, .int p0), (2, .int p1), (3, .int p2)]) hx hb dX9_init_161 hl (k := 2) rfl (by decide) (by decide) rfl (fun ls hl => ?_)
  refine lv_goto (tgt := 90) hx hb dX9_init_164 (by decide) ?_
  refine lv_iload hx hb dX9_init_90 (lv_at hl 0 rfl) ?_
  refine lv_iconst (v := 4) hx hb dX9_init_92 (by decide) ?_
  refine lv_icmp_ge (tgt := 167) hx hb dX9_init_93 (by decide) (fun c_163 => ?_) (fun c_163 => absurd c_163 (by decide))
  have hT := hT.add (g := 2) zq_11 (show T0 E (va_up G_155 q_11 2) 2 _ from ⟨_, rfl, af_up zq_11 (by decide) hf_13⟩) hr_34
  have hE := hE.add (g := 2) zq_11 szq_11
  have gp_165 := up_k (g := 2) gp_157 zq_11 (by decide)
  have gp_166 := up_k (g := 2) gp_158 zq_11 (by decide)
  have gp_167 := up_k (g := 2) gp_159 zq_11 (by decide)
  have hG0 := (va_up_ne G_155 2 neq_11_h0).trans hG0
  have zq_36 := (va_up_ne G_155 2 (Ne.symm neq_36_q_11)).trans zq_36
  have hf_38 := af_up (h := q_11) (g := 2) zq_11 (by decide) hf_38
  have gq_168 := va_up_self G_155 q_11 2
  obtain ⟨G_164, eG_164⟩ : ∃ z, z = va_up G_155 q_11 2 := ⟨_, rfl⟩
  rw [← eG_164] at hT hE gq_168 gp_165 gp_166 gp_167 hG0 zq_36 hf_38
  have hT := hT.add (g := 3) zq_36 (show T0 E (va_up G_164 q_36 3) 3 _ from ⟨_, rfl, af_up zq_36 (by decide) hf_38⟩) hr_162
  have hE := hE.add (g := 3) zq_36 szq_36
  have gp_170 := up_k (g := 3) gp_165 zq_36 (by decide)
  have gp_171 := up_k (g := 3) gp_166 zq_36 (by decide)
  have gp_172 := up_k (g := 3) gq_168 zq_36 (by decide)
  have gp_173 := up_k (g := 3) gp_167 zq_36 (by decide)
  have hG0 := (va_up_ne G_164 3 neq_36_h0).trans hG0
  have gq_174 := va_up_self G_164 q_36 3
  obtain ⟨G_169, eG_169⟩ : ∃ z, z = va_up G_164 q_36 3 := ⟨_, rfl⟩
  rw [← eG_169] at hT hE gq_174 gp_170 gp_171 gp_172 gp_173 hG0
  have hT := hT.add (g := 1) hG0 (show T0 E (va_up G_169 h0 1) 1 _ from ⟨q_11, q_36, q_4, rfl, up_k gp_172 hG0 (by decide), up_k gq_174 hG0 (by decide), up_k gp_173 hG0 (by decide)⟩) hr_39
  refine W.widen (k := 144) (n := 1148) (Nat.le_of_ble_eq_true rfl) (Nat.le_of_ble_eq_true rfl) ?_
  exact W.vret hx hb hr (fun t ht hW => ⟨⟨_, rfl, hE.fin hG0, by show TH _ _ _ _ t.heap; rw [ht]; exact hT⟩, hS.F ht⟩) hS.2.2 dX9_init_167
