theorem dX0_init_0 : decode cX0_init 0 = .ok (.aload_n 0, 1) := by decide +kernel
theorem dX0_init_1 : decode cX0_init 1 = .ok (.invokespecial 3, 3) := by decide +kernel
theorem dX0_init_4 : decode cX0_init 4 = .ok (.aload_n 0, 1) := by decide +kernel
theorem dX0_init_5 : decode cX0_init 5 = .ok (.bipush 24, 2) := by decide +kernel
theorem dX0_init_7 : decode cX0_init 7 = .ok (.anewarray 9, 3) := by decide +kernel
theorem dX0_init_10 : decode cX0_init 10 = .ok (.putfield 11, 3) := by decide +kernel
theorem dX0_init_13 : decode cX0_init 13 = .ok (.aload_n 0, 1) := by decide +kernel
theorem dX0_init_14 : decode cX0_init 14 = .ok (.new 9, 3) := by decide +kernel
theorem dX0_init_17 : decode cX0_init 17 = .ok (.dup, 1) := by decide +kernel
theorem dX0_init_18 : decode cX0_init 18 = .ok (.invokespecial 17, 3) := by decide +kernel
theorem dX0_init_21 : decode cX0_init 21 = .ok (.putfield 18, 3) := by decide +kernel
theorem dX0_init_24 : decode cX0_init 24 = .ok (.aload_n 0, 1) := by decide +kernel
theorem dX0_init_25 : decode cX0_init 25 = .ok (.new 9, 3) := by decide +kernel
theorem dX0_init_28 : decode cX0_init 28 = .ok (.dup, 1) := by decide +kernel
theorem dX0_init_29 : decode cX0_init 29 = .ok (.invokespecial 17, 3) := by decide +kernel
theorem dX0_init_32 : decode cX0_init 32 = .ok (.putfield 22, 3) := by decide +kernel
theorem dX0_init_35 : decode cX0_init 35 = .ok (.iconst 0, 1) := by decide +kernel
theorem dX0_init_36 : decode cX0_init 36 = .ok (.istore_n 1, 1) := by decide +kernel
theorem dX0_init_37 : decode cX0_init 37 = .ok (.iload_n 1, 1) := by decide +kernel
theorem dX0_init_38 : decode cX0_init 38 = .ok (.bipush 24, 2) := by decide +kernel
theorem dX0_init_40 : decode cX0_init 40 = .ok (.if_icmp .ge 22, 3) := by decide +kernel
theorem dX0_init_43 : decode cX0_init 43 = .ok (.aload_n 0, 1) := by decide +kernel
theorem dX0_init_44 : decode cX0_init 44 = .ok (.getfield 11, 3) := by decide +kernel
theorem dX0_init_47 : decode cX0_init 47 = .ok (.iload_n 1, 1) := by decide +kernel
theorem dX0_init_48 : decode cX0_init 48 = .ok (.new 9, 3) := by decide +kernel
theorem dX0_init_51 : decode cX0_init 51 = .ok (.dup, 1) := by decide +kernel
theorem dX0_init_52 : decode cX0_init 52 = .ok (.invokespecial 17, 3) := by decide +kernel
theorem dX0_init_55 : decode cX0_init 55 = .ok (.aastore, 1) := by decide +kernel
theorem dX0_init_56 : decode cX0_init 56 = .ok (.iinc 1 1, 3) := by decide +kernel
theorem dX0_init_59 : decode cX0_init 59 = .ok (.goto (-22), 3) := by decide +kernel
theorem dX0_init_62 : decode cX0_init 62 = .ok (.return_, 1) := by decide +kernel
set_option maxHeartbeats 16000000 in
set_option maxRecDepth 100000 in
theorem c_X0_init (l : Launch) (E : EE) (z0 : Nat) (G : Nat → Nat) (h0 sz : Nat)  (hG0 : G h0 = 0) (hz0 : z0 ≤ h0) (hz1 : z0 ≤ sz)  : Met l yX0_init [Cond.code yX0_init cX0_init 2 none] ({ frames := 2, cells := 53, slots := 336, locals := 40 } : Room) (va_Pc [.ref h0] (fun U => (U.heap.size = sz ∧ va_at (DG E) vwCl (h0, .inr (0, [.null, .int 0, .null, .null])) U.heap ∧ TH E (T0 E) G [] U.heap) ∧ KS E z0 U)) (va_Qv (fun (G1 : Nat → Nat) => GX G G1 h0 4 sz) (fun G1 t => TH E (T0 E) G1 [] t.heap) (AC h0 sz)) 53 336 (AC h0 sz) := by
  refine Met.ofW (cc := cX0_init) (maxL := 2) (ret := none) (by decide) rfl ?_
  intro p e s m args below meth c s₁ B hml hv
  obtain ⟨rfl, ⟨hsz, hr0, hT⟩, hK⟩ := hv
  have hx := B.exec
  have hb := B.bytes
  have hr := B.returns
  have hts : ∀ w ∈ TS, w.before ([.ref h0] : List Value).toArray s = true := fun w hw => hK.2.1 w hw _
  have hown : s.vm.findClass RX0 = some m.cls := findClass_of_methodNamed B.named
  have hlocks := B.notSynchronized
  have hin : meth.name = "<init>" := (name_of_methodNamed B.named B.method).1
  have hS : va_S (AC h0 sz) s.heap s.heap [] := va_S.rf
  have hAz : ∀ q, AC h0 sz q → z0 ≤ q := fun q h => h.elim (fun e => by omega) (fun e => by omega)
  have hE : GE G G h0 sz := GE.rf
  have hlt0 : h0 < sz := by have h9 := hr0.lt; have h8 : h0 < _ := h9; omega
  obtain ⟨H, eH⟩ : ∃ H, H = s.heap := ⟨_, rfl⟩
  rw [← eH] at hr0 hT
  have hS : va_S (AC h0 sz) s.heap H [] := by rw [eH]; exact hS
  rw [← eH]
  have hsz : s.heap.size = sz := hsz
  have hl := lv_entry ([.ref h0]) (n := 2) (Nat.le_of_ble_eq_true rfl)
  rw [lg_entry_eq]
  generalize (lg_sl ([.ref h0]) ++ List.replicate (2 - (lg_sl ([.ref h0])).length) Slot.unset).toArray = ls at hl ⊢
  have hl : lv_has ls 2 [(0, .ref h0)] := hl
  refine lv_aload_n hx hb dX0_init_0 rfl (lv_at hl 0 rfl) ?_
  refine W.objInit hx hb hown (hts _ ml_X0_3) (hts _ im_Object__init_) (hts _ co_Object__init_) rfl (by rw [hml]; exact hl.1) rfl dX0_init_1 (Nat.le_of_ble_eq_true rfl) (Nat.le_of_ble_eq_true rfl) ?_
  refine W.eq (g2 := F0 m 4 ls []) rfl ?_
  refine lv_aload_n hx hb dX0_init_4 rfl (lv_at hl 0 rfl) ?_
  refine lv_bipush (v := 24) hx hb dX0_init_5 (by decide) ?_
  have hSo : s.heap.size ≤ _ := hS.1
  refine rr_newq (D := DG E) (N' := 24) hx hb hown (hts _ cl_X0_9) (hts _ ao_X2) hK.1 7 rfl hS (by decide) (by decide) (by decide) (Nat.le_of_ble_eq_true rfl) (Nat.le_of_ble_eq_true rfl) dX0_init_7 (fun q_1 H hq hat hz ho hS => ?_)
  have hr_2 := hat
  have zq_1 := hT.fresh hq
  have neq_1_h0 : h0 ≠ q_1 := by have h9 := hr0.lt; have h8 : h0 < _ := h9; omega
  have hr0 := hr0.kept (ho _ hr0.lt)
  have szq_1 : sz ≤ q_1 := by omega
  have hT := hT.kept ho
  have hf_3 : ∀ j, j < 0 → ∃ b, (fun _ : Nat => (none : Option Nat)) j = some b ∧ G b = 31 := af_0
  refine rr_putF (D := DG E) (ci := 0) (v := .ref q_1) (ty := .array (.object "RemoteReach$Packet")) (C := RX0) (T := TX0) (N := 4) hx hb hts iw_X0 tyX0 tyX0_ok nmX0 hown hK.1 hr0 hS (Or.inl rfl) rfl 0 (by decide) (hts _ fl_X0_11) (fun _ h9 => h9) rfl hin rfl (by decide +kernel) rfl rfl (Nat.le_of_ble_eq_true rfl) dX0_init_10 (fun H locs hn ho hz hS => ?_)
  have hr_4 : va_at (DG E) vwCl (h0, .inr (0, [.ref q_1, .int 0, .null, .null])) H := hn
  have hr_2 := hr_2.kept (ho _ (Ne.symm neq_1_h0))
  have hT := hT.off hG0 ho
  refine lv_aload_n hx hb dX0_init_13 rfl (lv_at hl 0 rfl) ?_
  have hSo : s.heap.size ≤ _ := hS.1
  refine rr_new (ci := 2) (fs := [.int 0, .int 0, .int 0, .int 0, .int 0, .int 0, .int 0, .null]) (C := RX2) (T := TX2) (N := 8) hx hb hts iw_X2 tyX2 tyX2_ok hown (hts _ cl_X0_9) (hts _ ia_X2) (hts _ in_X2) hK.1 hS rfl (fun j hj => by rcases (show j = 0 ∨ j = 1 ∨ j = 2 ∨ j = 3 ∨ j = 4 ∨ j = 5 ∨ j = 6 ∨ j = 7 by omega) with rfl | rfl | rfl | rfl | rfl | rfl | rfl | rfl <;> rfl) (Nat.le_of_ble_eq_true rfl) (Nat.le_of_ble_eq_true rfl) dX0_init_14 (fun q_5 H hq hat hz ho hS => ?_)
  have hr_6 := hat
  have zq_5 := hT.fresh hq
  have neq_5_h0 : h0 ≠ q_5 := by have h9 := hr_4.lt; have h8 : h0 < _ := h9; omega
  have hr_4 := hr_4.kept (ho _ hr_4.lt)
  have neq_5_q_1 : q_1 ≠ q_5 := by have h9 := hr_2.lt; have h8 : q_1 < _ := h9; omega
  have hr_2 := hr_2.kept (ho _ hr_2.lt)
  have szq_5 : sz ≤ q_5 := by omega
  have hT := hT.kept ho
  refine lv_dup hx hb dX0_init_17 rfl ?_
  obtain ⟨sz_hs_7, hs_7⟩ : ∃ z, z = H.size := ⟨_, rfl⟩
  refine va_callv (rnIN (fun H => H.size = sz_hs_7 ∧ va_at (DG E) vwCl (q_5, .inr (2, [.int 0, .int 0, .int 0, .int 0, .int 0, .int 0, .int 0, .null])) H ∧ TH E (T0 E) G [] H) (As := []) (rest := [.ref q_5, .ref h0]) ⟨hx, hb, hml, hown, hts⟩ (c_X2_init l E z0 G q_5 sz_hs_7  zq_5 (by have h9 := hz0; have h8 := hz1; omega) (by have h9 := hS.1; have h8 := hz1; omega) ) ⟨va_cnB (host := RX9) 0 hts (gd1 co_X2_init rfl) rfl rfl rfl (hK.2.1 _ mn_X0_17 #[]) (hts _ in_X2) (by decide +kernel) ⟨Nat.le_of_ble_eq_true rfl, Nat.le_of_ble_eq_true rfl⟩, rfl, hts _ im_X2_init⟩ ⟨hs_7.symm, hr_6, hT⟩ (fun U hU hW => hK.go hW hS hAz hU) rfl rfl hl.1 rfl (lv_room (Nat.le_of_ble_eq_true rfl)) dX0_init_18 ⟨Nat.le_of_ble_eq_true rfl, Nat.le_of_ble_eq_true rfl⟩) hS (fun q _ h => h.elim (fun e => by rw [e]; exact (Or.inr szq_5)) (fun h => Or.inr (by have h9 := hS.1; omega))) (fun q h => h.elim (fun e => by rw [e]; exact (Or.inr szq_5)) (fun h => Or.inr (by have h9 := hS.1; omega))) (fun G_8 t H locs ht hvm hw hB hz hk hS => ?_)
  have hw_9 := hw
  rw [ht] at hB
  have lth0 : h0 < sz_hs_7 := by have h9 := hr_4.lt; have h8 : h0 < _ := h9; omega
  have hr_4 := hr_4.kept (hk _ hr_4.lt (fun h => h.elim neq_5_h0 (fun h => by omega)))
  have hG0 : G_8 h0 = 0 := gx_0 hw_9 hG0 neq_5_h0 lth0
  have ltq_1 : q_1 < sz_hs_7 := by have h9 := hr_2.lt; have h8 : q_1 < _ := h9; omega
  have hr_2 := hr_2.kept (hk _ hr_2.lt (fun h => h.elim neq_5_q_1 (fun h => by omega)))
  have zq_1 : G_8 q_1 = 0 := gx_0 hw_9 zq_1 neq_5_q_1 ltq_1
  have hf_3 := af_x hw_9 (by decide) hf_3
  have gq_10 : G_8 q_5 = 31 := hw_9.2
  have hE := hE.step hw_9 (by omega) (by have h9 := hS.1; omega)
  have hT : TH E (T0 E) G_8 [] H := hB
  refine rr_put (D := DG E) (ci := 0) (v := .ref q_5) (ty := .object "RemoteReach$Packet") (C := RX0) (T := TX0) (N := 4) hx hb hts iw_X0 tyX0 tyX0_ok nmX0 hown hK.1 hr_4 hS (Or.inl rfl) rfl 2 (by decide) (hts _ fl_X0_18) (fun _ h9 => h9) rfl (by decide +kernel) rfl rfl (Nat.le_of_ble_eq_true rfl) dX0_init_21 (fun H locs hn ho hz hS => ?_)
  have hr_11 : va_at (DG E) vwCl (h0, .inr (0, [.ref q_1, .int 0, .ref q_5, .null])) H := hn
  have hr_2 := hr_2.kept (ho _ (Ne.symm neq_1_h0))
  have hT := hT.off hG0 ho
  refine lv_aload_n hx hb dX0_init_24 rfl (lv_at hl 0 rfl) ?_
  have hSo : s.heap.size ≤ _ := hS.1
  refine rr_new (ci := 2) (fs := [.int 0, .int 0, .int 0, .int 0, .int 0, .int 0, .int 0, .null]) (C := RX2) (T := TX2) (N := 8) hx hb hts iw_X2 tyX2 tyX2_ok hown (hts _ cl_X0_9) (hts _ ia_X2) (hts _ in_X2) hK.1 hS rfl (fun j hj => by rcases (show j = 0 ∨ j = 1 ∨ j = 2 ∨ j = 3 ∨ j = 4 ∨ j = 5 ∨ j = 6 ∨ j = 7 by omega) with rfl | rfl | rfl | rfl | rfl | rfl | rfl | rfl <;> rfl) (Nat.le_of_ble_eq_true rfl) (Nat.le_of_ble_eq_true rfl) dX0_init_25 (fun q_12 H hq hat hz ho hS => ?_)
  have hr_13 := hat
  have zq_12 := hT.fresh hq
  have neq_12_h0 : h0 ≠ q_12 := by have h9 := hr_11.lt; have h8 : h0 < _ := h9; omega
  have hr_11 := hr_11.kept (ho _ hr_11.lt)
  have neq_12_q_1 : q_1 ≠ q_12 := by have h9 := hr_2.lt; have h8 : q_1 < _ := h9; omega
  have hr_2 := hr_2.kept (ho _ hr_2.lt)
  have szq_12 : sz ≤ q_12 := by omega
  have hT := hT.kept ho
  refine lv_dup hx hb dX0_init_28 rfl ?_
  obtain ⟨sz_hs_14, hs_14⟩ : ∃ z, z = H.size := ⟨_, rfl⟩
  refine va_callv (rnIN (fun H => H.size = sz_hs_14 ∧ va_at (DG E) vwCl (q_12, .inr (2, [.int 0, .int 0, .int 0, .int 0, .int 0, .int 0, .int 0, .null])) H ∧ TH E (T0 E) G_8 [] H) (As := []) (rest := [.ref q_12, .ref h0]) ⟨hx, hb, hml, hown, hts⟩ (c_X2_init l E z0 G_8 q_12 sz_hs_14  zq_12 (by have h9 := hz0; have h8 := hz1; omega) (by have h9 := hS.1; have h8 := hz1; omega) ) ⟨va_cnB (host := RX9) 0 hts (gd1 co_X2_init rfl) rfl rfl rfl (hK.2.1 _ mn_X0_17 #[]) (hts _ in_X2) (by decide +kernel) ⟨Nat.le_of_ble_eq_true rfl, Nat.le_of_ble_eq_true rfl⟩, rfl, hts _ im_X2_init⟩ ⟨hs_14.symm, hr_13, hT⟩ (fun U hU hW => hK.go hW hS hAz hU) rfl rfl hl.1 rfl (lv_room (Nat.le_of_ble_eq_true rfl)) dX0_init_29 ⟨Nat.le_of_ble_eq_true rfl, Nat.le_of_ble_eq_true rfl⟩) hS (fun q _ h => h.elim (fun e => by rw [e]; exact (Or.inr szq_12)) (fun h => Or.inr (by have h9 := hS.1; omega))) (fun q h => h.elim (fun e => by rw [e]; exact (Or.inr szq_12)) (fun h => Or.inr (by have h9 := hS.1; omega))) (fun G_15 t H locs ht hvm hw hB hz hk hS => ?_)
  have hw_16 := hw
  rw [ht] at hB
  have lth0 : h0 < sz_hs_14 := by have h9 := hr_11.lt; have h8 : h0 < _ := h9; omega
  have hr_11 := hr_11.kept (hk _ hr_11.lt (fun h => h.elim neq_12_h0 (fun h => by omega)))
  have hG0 : G_15 h0 = 0 := gx_0 hw_16 hG0 neq_12_h0 lth0
  have ltq_1 : q_1 < sz_hs_14 := by have h9 := hr_2.lt; have h8 : q_1 < _ := h9; omega
  have hr_2 := hr_2.kept (hk _ hr_2.lt (fun h => h.elim neq_12_q_1 (fun h => by omega)))
  have zq_1 : G_15 q_1 = 0 := gx_0 hw_16 zq_1 neq_12_q_1 ltq_1
  have hf_3 := af_x hw_16 (by decide) hf_3
  have gp_17 : G_15 q_5 = 31 := gx_k hw_16 gq_10 (by decide)
  have gq_18 : G_15 q_12 = 31 := hw_16.2
  have hE := hE.step hw_16 (by omega) (by have h9 := hS.1; omega)
  have hT : TH E (T0 E) G_15 [] H := hB
  refine rr_putF (D := DG E) (ci := 0) (v := .ref q_12) (ty := .object "RemoteReach$Packet") (C := RX0) (T := TX0) (N := 4) hx hb hts iw_X0 tyX0 tyX0_ok nmX0 hown hK.1 hr_11 hS (Or.inl rfl) rfl 3 (by decide) (hts _ fl_X0_22) (fun _ h9 => h9) rfl hin rfl (by decide +kernel) rfl rfl (Nat.le_of_ble_eq_true rfl) dX0_init_32 (fun H locs hn ho hz hS => ?_)
  have hr_19 : va_at (DG E) vwCl (h0, .inr (0, [.ref q_1, .int 0, .ref q_5, .ref q_12])) H := hn
  have hr_2 := hr_2.kept (ho _ (Ne.symm neq_1_h0))
  have hT := hT.off hG0 ho
  refine lv_iconst (v := 0) hx hb dX0_init_35 (by decide) ?_
  refine lv_istore_n (lv' := [(1, .int 0), (0, .ref h0)]) hx hb dX0_init_36 rfl hl (by decide) rfl (fun ls hl => ?_)
  refine lv_iload_n hx hb dX0_init_37 rfl (lv_at hl 0 rfl) ?_
  refine lv_bipush (v := 24) hx hb dX0_init_38 (by decide) ?_
  refine lv_icmp_ge (tgt := 62) hx hb dX0_init_40 (by decide) (fun c_20 => absurd c_20 (by decide)) (fun c_20 => ?_)
  refine lv_aload_n hx hb dX0_init_43 rfl (lv_at hl 1 rfl) ?_
  refine va_get (D := DG E) (ci := 0) (v := .ref q_1) (C := RX0) (T := TX0) (N := 4) hx hb hts iw_X0 hown hK.1 (va_one hr_19) 0 rfl rfl 0 (by decide) (hts _ fl_X0_11) (fun _ h9 => h9) rfl dX0_init_44 ?_
  refine lv_iload_n hx hb dX0_init_47 rfl (lv_at hl 0 rfl) ?_
  have hSo : s.heap.size ≤ _ := hS.1
  refine rr_new (ci := 2) (fs := [.int 0, .int 0, .int 0, .int 0, .int 0, .int 0, .int 0, .null]) (C := RX2) (T := TX2) (N := 8) hx hb hts iw_X2 tyX2 tyX2_ok hown (hts _ cl_X0_9) (hts _ ia_X2) (hts _ in_X2) hK.1 hS rfl (fun j hj => by rcases (show j = 0 ∨ j = 1 ∨ j = 2 ∨ j = 3 ∨ j = 4 ∨ j = 5 ∨ j = 6 ∨ j = 7 by omega) with rfl | rfl | rfl | rfl | rfl | rfl | rfl | rfl <;> rfl) (Nat.le_of_ble_eq_true rfl) (Nat.le_of_ble_eq_true rfl) dX0_init_48 (fun q_21 H hq hat hz ho hS => ?_)
  have hr_22 := hat
  have zq_21 := hT.fresh hq
  have neq_21_h0 : h0 ≠ q_21 := by have h9 := hr_19.lt; have h8 : h0 < _ := h9; omega
  have hr_19 := hr_19.kept (ho _ hr_19.lt)
  have neq_21_q_1 : q_1 ≠ q_21 := by have h9 := hr_2.lt; have h8 : q_1 < _ := h9; omega
  have hr_2 := hr_2.kept (ho _ hr_2.lt)
  have szq_21 : sz ≤ q_21 := by omega
  have hT := hT.kept ho
  refine lv_dup hx hb dX0_init_51 rfl ?_
  obtain ⟨sz_hs_23, hs_23⟩ : ∃ z, z = H.size := ⟨_, rfl⟩
  refine va_callv (rnIN (fun H => H.size = sz_hs_23 ∧ va_at (DG E) vwCl (q_21, .inr (2, [.int 0, .int 0, .int 0, .int 0, .int 0, .int 0, .int 0, .null])) H ∧ TH E (T0 E) G_15 [] H) (As := []) (rest := [.ref q_21, .int 0, .ref q_1]) ⟨hx, hb, hml, hown, hts⟩ (c_X2_init l E z0 G_15 q_21 sz_hs_23  zq_21 (by have h9 := hz0; have h8 := hz1; omega) (by have h9 := hS.1; have h8 := hz1; omega) ) ⟨va_cnB (host := RX9) 0 hts (gd1 co_X2_init rfl) rfl rfl rfl (hK.2.1 _ mn_X0_17 #[]) (hts _ in_X2) (by decide +kernel) ⟨Nat.le_of_ble_eq_true rfl, Nat.le_of_ble_eq_true rfl⟩, rfl, hts _ im_X2_init⟩ ⟨hs_23.symm, hr_22, hT⟩ (fun U hU hW => hK.go hW hS hAz hU) rfl rfl hl.1 rfl (lv_room (Nat.le_of_ble_eq_true rfl)) dX0_init_52 ⟨Nat.le_of_ble_eq_true rfl, Nat.le_of_ble_eq_true rfl⟩) hS (fun q _ h => h.elim (fun e => by rw [e]; exact (Or.inr szq_21)) (fun h => Or.inr (by have h9 := hS.1; omega))) (fun q h => h.elim (fun e => by rw [e]; exact (Or.inr szq_21)) (fun h => Or.inr (by have h9 := hS.1; omega))) (fun G_24 t H locs ht hvm hw hB hz hk hS => ?_)
  have hw_25 := hw
  rw [ht] at hB
  have lth0 : h0 < sz_hs_23 := by have h9 := hr_19.lt; have h8 : h0 < _ := h9; omega
  have hr_19 := hr_19.kept (hk _ hr_19.lt (fun h => h.elim neq_21_h0 (fun h => by omega)))
  have hG0 : G_24 h0 = 0 := gx_0 hw_25 hG0 neq_21_h0 lth0
  have ltq_1 : q_1 < sz_hs_23 := by have h9 := hr_2.lt; have h8 : q_1 < _ := h9; omega
  have hr_2 := hr_2.kept (hk _ hr_2.lt (fun h => h.elim neq_21_q_1 (fun h => by omega)))
  have zq_1 : G_24 q_1 = 0 := gx_0 hw_25 zq_1 neq_21_q_1 ltq_1
  have hf_3 := af_x hw_25 (by decide) hf_3
  have gp_26 : G_24 q_5 = 31 := gx_k hw_25 gp_17 (by decide)
  have gp_27 : G_24 q_12 = 31 := gx_k hw_25 gq_18 (by decide)
  have gq_28 : G_24 q_21 = 31 := hw_25.2
  have hE := hE.step hw_25 (by omega) (by have h9 := hS.1; omega)
  have hT : TH E (T0 E) G_24 [] H := hB
  obtain ⟨cs_29, ha_29, hg_29_0⟩ := tg_31 hT gq_28 nx_0
  refine rr_aast (D := DG E) hx hb hK.1 7 2 hr_2 hS (Or.inr szq_1) rfl ha_29 rfl (show vp_in (0) 24 from vp_in_iff.mpr ⟨by decide, by decide⟩) dX0_init_55 (fun H locs hn ho hz hS => ?_)
  have hr_30 : va_at (DG E) vwCl (q_1, .inl (E.2.2 7, 24, .inr (.inr (.inr (.inr (va_up (fun _ => none) 0 (some q_21))))))) H := hn
  have hf_3 := af_push hf_3 gq_28
  have hr_19 := hr_19.kept (ho _ neq_1_h0)
  have hT := hT.off zq_1 ho
  refine lv_iinc (v := 1) (lv' := [(1, .int 1), (0, .ref h0)]) hx hb dX0_init_56 hl (k := 0) rfl (by decide) (by decide) rfl (fun ls hl => ?_)
  refine lv_goto (tgt := 37) hx hb dX0_init_59 (by decide) ?_
  refine lv_iload_n hx hb dX0_init_37 rfl (lv_at hl 0 rfl) ?_
  refine lv_bipush (v := 24) hx hb dX0_init_38 (by decide) ?_
  refine lv_icmp_ge (tgt := 62) hx hb dX0_init_40 (by decide) (fun c_31 => absurd c_31 (by decide)) (fun c_31 => ?_)
  refine lv_aload_n hx hb dX0_init_43 rfl (lv_at hl 1 rfl) ?_
  refine va_get (D := DG E) (ci := 0) (v := .ref q_1) (C := RX0) (T := TX0) (N := 4) hx hb hts iw_X0 hown hK.1 (va_one hr_19) 0 rfl rfl 0 (by decide) (hts _ fl_X0_11) (fun _ h9 => h9) rfl dX0_init_44 ?_
  refine lv_iload_n hx hb dX0_init_47 rfl (lv_at hl 0 rfl) ?_
  have hSo : s.heap.size ≤ _ := hS.1
  refine rr_new (ci := 2) (fs := [.int 0, .int 0, .int 0, .int 0, .int 0, .int 0, .int 0, .null]) (C := RX2) (T := TX2) (N := 8) hx hb hts iw_X2 tyX2 tyX2_ok hown (hts _ cl_X0_9) (hts _ ia_X2) (hts _ in_X2) hK.1 hS rfl (fun j hj => by rcases (show j = 0 ∨ j = 1 ∨ j = 2 ∨ j = 3 ∨ j = 4 ∨ j = 5 ∨ j = 6 ∨ j = 7 by omega) with rfl | rfl | rfl | rfl | rfl | rfl | rfl | rfl <;> rfl) (Nat.le_of_ble_eq_true rfl) (Nat.le_of_ble_eq_true rfl) dX0_init_48 (fun q_32 H hq hat hz ho hS => ?_)
  have hr_33 := hat
  have zq_32 := hT.fresh hq
  have neq_32_h0 : h0 ≠ q_32 := by have h9 := hr_19.lt; have h8 : h0 < _ := h9; omega
  have hr_19 := hr_19.kept (ho _ hr_19.lt)
  have neq_32_q_1 : q_1 ≠ q_32 := by have h9 := hr_30.lt; have h8 : q_1 < _ := h9; omega
  have hr_30 := hr_30.kept (ho _ hr_30.lt)
  have szq_32 : sz ≤ q_32 := by omega
  have hT := hT.kept ho
  refine lv_dup hx hb dX0_init_51 rfl ?_
  obtain ⟨sz_hs_34, hs_34⟩ : ∃ z, z = H.size := ⟨_, rfl⟩
  refine va_callv (rnIN (fun H => H.size = sz_hs_34 ∧ va_at (DG E) vwCl (q_32, .inr (2, [.int 0, .int 0, .int 0, .int 0, .int 0, .int 0, .int 0, .null])) H ∧ TH E (T0 E) G_24 [] H) (As := []) (rest := [.ref q_32, .int 1, .ref q_1]) ⟨hx, hb, hml, hown, hts⟩ (c_X2_init l E z0 G_24 q_32 sz_hs_34  zq_32 (by have h9 := hz0; have h8 := hz1; omega) (by have h9 := hS.1; have h8 := hz1; omega) ) ⟨va_cnB (host := RX9) 0 hts (gd1 co_X2_init rfl) rfl rfl rfl (hK.2.1 _ mn_X0_17 #[]) (hts _ in_X2) (by decide +kernel) ⟨Nat.le_of_ble_eq_true rfl, Nat.le_of_ble_eq_true rfl⟩, rfl, hts _ im_X2_init⟩ ⟨hs_34.symm, hr_33, hT⟩ (fun U hU hW => hK.go hW hS hAz hU) rfl rfl hl.1 rfl (lv_room (Nat.le_of_ble_eq_true rfl)) dX0_init_52 ⟨Nat.le_of_ble_eq_true rfl, Nat.le_of_ble_eq_true rfl⟩) hS (fun q _ h => h.elim (fun e => by rw [e]; exact (Or.inr szq_32)) (fun h => Or.inr (by have h9 := hS.1; omega))) (fun q h => h.elim (fun e => by rw [e]; exact (Or.inr szq_32)) (fun h => Or.inr (by have h9 := hS.1; omega))) (fun G_35 t H locs ht hvm hw hB hz hk hS => ?_)
  have hw_36 := hw
  rw [ht] at hB
  have lth0 : h0 < sz_hs_34 := by have h9 := hr_19.lt; have h8 : h0 < _ := h9; omega
  have hr_19 := hr_19.kept (hk _ hr_19.lt (fun h => h.elim neq_32_h0 (fun h => by omega)))
  have hG0 : G_35 h0 = 0 := gx_0 hw_36 hG0 neq_32_h0 lth0
  have ltq_1 : q_1 < sz_hs_34 := by have h9 := hr_30.lt; have h8 : q_1 < _ := h9; omega
  have hr_30 := hr_30.kept (hk _ hr_30.lt (fun h => h.elim neq_32_q_1 (fun h => by omega)))
  have zq_1 : G_35 q_1 = 0 := gx_0 hw_36 zq_1 neq_32_q_1 ltq_1
  have hf_3 := af_x hw_36 (by decide) hf_3
  have gp_37 : G_35 q_5 = 31 := gx_k hw_36 gp_26 (by decide)
  have gp_38 : G_35 q_12 = 31 := gx_k hw_36 gp_27 (by decide)
  have gq_39 : G_35 q_32 = 31 := hw_36.2
  have hE := hE.step hw_36 (by omega) (by have h9 := hS.1; omega)
  have hT : TH E (T0 E) G_35 [] H := hB
  obtain ⟨cs_40, ha_40, hg_40_0⟩ := tg_31 hT gq_39 nx_0
  refine rr_aast (D := DG E) hx hb hK.1 7 2 hr_30 hS (Or.inr szq_1) rfl ha_40 rfl (show vp_in (1) 24 from vp_in_iff.mpr ⟨by decide, by decide⟩) dX0_init_55 (fun H locs hn ho hz hS => ?_)
  have hr_41 : va_at (DG E) vwCl (q_1, .inl (E.2.2 7, 24, .inr (.inr (.inr (.inr (va_up (va_up (fun _ => none) 0 (some q_21)) 1 (some q_32))))))) H := hn
  have hf_3 := af_push hf_3 gq_39
  have hr_19 := hr_19.kept (ho _ neq_1_h0)
  have hT := hT.off zq_1 ho
  refine lv_iinc (v := 2) (lv' := [(1, .int 2), (0, .ref h0)]) hx hb dX0_init_56 hl (k := 0) rfl (by decide) (by decide) rfl (fun ls hl => ?_)
  refine lv_goto (tgt := 37) hx hb dX0_init_59 (by decide) ?_
  refine lv_iload_n hx hb dX0_init_37 rfl (lv_at hl 0 rfl) ?_
  refine lv_bipush (v := 24) hx hb dX0_init_38 (by decide) ?_
  refine lv_icmp_ge (tgt := 62) hx hb dX0_init_40 (by decide) (fun c_42 => absurd c_42 (by decide)) (fun c_42 => ?_)
  refine lv_aload_n hx hb dX0_init_43 rfl (lv_at hl 1 rfl) ?_
  refine va_get (D := DG E) (ci := 0) (v := .ref q_1) (C := RX0) (T := TX0) (N := 4) hx hb hts iw_X0 hown hK.1 (va_one hr_19) 0 rfl rfl 0 (by decide) (hts _ fl_X0_11) (fun _ h9 => h9) rfl dX0_init_44 ?_
  refine lv_iload_n hx hb dX0_init_47 rfl (lv_at hl 0 rfl) ?_
  have hSo : s.heap.size ≤ _ := hS.1
  refine rr_new (ci := 2) (fs := [.int 0, .int 0, .int 0, .int 0, .int 0, .int 0, .int 0, .null]) (C := RX2) (T := TX2) (N := 8) hx hb hts iw_X2 tyX2 tyX2_ok hown (hts _ cl_X0_9) (hts _ ia_X2) (hts _ in_X2) hK.1 hS rfl (fun j hj => by rcases (show j = 0 ∨ j = 1 ∨ j = 2 ∨ j = 3 ∨ j = 4 ∨ j = 5 ∨ j = 6 ∨ j = 7 by omega) with rfl | rfl | rfl | rfl | rfl | rfl | rfl | rfl <;> rfl) (Nat.le_of_ble_eq_true rfl) (Nat.le_of_ble_eq_true rfl) dX0_init_48 (fun q_43 H hq hat hz ho hS => ?_)
  have hr_44 := hat
  have zq_43 := hT.fresh hq
  have neq_43_h0 : h0 ≠ q_43 := by have h9 := hr_19.lt; have h8 : h0 < _ := h9; omega
  have hr_19 := hr_19.kept (ho _ hr_19.lt)
  have neq_43_q_1 : q_1 ≠ q_43 := by have h9 := hr_41.lt; have h8 : q_1 < _ := h9; omega
  have hr_41 := hr_41.kept (ho _ hr_41.lt)
  have szq_43 : sz ≤ q_43 := by omega
  have hT := hT.kept ho
  refine lv_dup hx hb dX0_init_51 rfl ?_
  obtain ⟨sz_hs_45, hs_45⟩ : ∃ z, z = H.size := ⟨_, rfl⟩
  refine va_callv (rnIN (fun H => H.size = sz_hs_45 ∧ va_at (DG E) vwCl (q_43, .inr (2, [.int 0, .int 0, .int 0, .int 0, .int 0, .int 0, .int 0, .null])) H ∧ TH E (T0 E) G_35 [] H) (As := []) (rest := [.ref q_43, .int 2, .ref q_1]) ⟨hx, hb, hml, hown, hts⟩ (c_X2_init l E z0 G_35 q_43 sz_hs_45  zq_43 (by have h9 := hz0; have h8 := hz1; omega) (by have h9 := hS.1; have h8 := hz1; omega) ) ⟨va_cnB (host := RX9) 0 hts (gd1 co_X2_init rfl) rfl rfl rfl (hK.2.1 _ mn_X0_17 #[]) (hts _ in_X2) (by decide +kernel) ⟨Nat.le_of_ble_eq_true rfl, Nat.le_of_ble_eq_true rfl⟩, rfl, hts _ im_X2_init⟩ ⟨hs_45.symm, hr_44, hT⟩ (fun U hU hW => hK.go hW hS hAz hU) rfl rfl hl.1 rfl (lv_room (Nat.le_of_ble_eq_true rfl)) dX0_init_52 ⟨Nat.le_of_ble_eq_true rfl, Nat.le_of_ble_eq_true rfl⟩) hS (fun q _ h => h.elim (fun e => by rw [e]; exact (Or.inr szq_43)) (fun h => Or.inr (by have h9 := hS.1; omega))) (fun q h => h.elim (fun e => by rw [e]; exact (Or.inr szq_43)) (fun h => Or.inr (by have h9 := hS.1; omega))) (fun G_46 t H locs ht hvm hw hB hz hk hS => ?_)
  have hw_47 := hw
  rw [ht] at hB
  have lth0 : h0 < sz_hs_45 := by have h9 := hr_19.lt; have h8 : h0 < _ := h9; omega
  have hr_19 := hr_19.kept (hk _ hr_19.lt (fun h => h.elim neq_43_h0 (fun h => by omega)))
  have hG0 : G_46 h0 = 0 := gx_0 hw_47 hG0 neq_43_h0 lth0
  have ltq_1 : q_1 < sz_hs_45 := by have h9 := hr_41.lt; have h8 : q_1 < _ := h9; omega
  have hr_41 := hr_41.kept (hk _ hr_41.lt (fun h => h.elim neq_43_q_1 (fun h => by omega)))
  have zq_1 : G_46 q_1 = 0 := gx_0 hw_47 zq_1 neq_43_q_1 ltq_1
  have hf_3 := af_x hw_47 (by decide) hf_3
  have gp_48 : G_46 q_5 = 31 := gx_k hw_47 gp_37 (by decide)
  have gp_49 : G_46 q_12 = 31 := gx_k hw_47 gp_38 (by decide)
  have gq_50 : G_46 q_43 = 31 := hw_47.2
  have hE := hE.step hw_47 (by omega) (by have h9 := hS.1; omega)
  have hT : TH E (T0 E) G_46 [] H := hB
  obtain ⟨cs_51, ha_51, hg_51_0⟩ := tg_31 hT gq_50 nx_0
  refine rr_aast (D := DG E) hx hb hK.1 7 2 hr_41 hS (Or.inr szq_1) rfl ha_51 rfl (show vp_in (2) 24 from vp_in_iff.mpr ⟨by decide, by decide⟩) dX0_init_55 (fun H locs hn ho hz hS => ?_)
  have hr_52 : va_at (DG E) vwCl (q_1, .inl (E.2.2 7, 24, .inr (.inr (.inr (.inr (va_up (va_up (va_up (fun _ => none) 0 (some q_21)) 1 (some q_32)) 2 (some q_43))))))) H := hn
  have hf_3 := af_push hf_3 gq_50
  have hr_19 := hr_19.kept (ho _ neq_1_h0)
  have hT := hT.off zq_1 ho
  refine lv_iinc (v := 3) (lv' := [(1, .int 3), (0, .ref h0)]) hx hb dX0_init_56 hl (k := 0) rfl (by decide) (by decide) rfl (fun ls hl => ?_)
  refine lv_goto (tgt := 37) hx hb dX0_init_59 (by decide) ?_
  refine lv_iload_n hx hb dX0_init_37 rfl (lv_at hl 0 rfl) ?_
  refine lv_bipush (v := 24) hx hb dX0_init_38 (by decide) ?_
  refine lv_icmp_ge (tgt := 62) hx hb dX0_init_40 (by decide) (fun c_53 => absurd c_53 (by decide)) (fun c_53 => ?_)
  refine lv_aload_n hx hb dX0_init_43 rfl (lv_at hl 1 rfl) ?_
  refine va_get (D := DG E) (ci := 0) (v := .ref q_1) (C := RX0) (T := TX0) (N := 4) hx hb hts iw_X0 hown hK.1 (va_one hr_19) 0 rfl rfl 0 (by decide) (hts _ fl_X0_11) (fun _ h9 => h9) rfl dX0_init_44 ?_
  refine lv_iload_n hx hb dX0_init_47 rfl (lv_at hl 0 rfl) ?_
  have hSo : s.heap.size ≤ _ := hS.1
  refine rr_new (ci := 2) (fs := [.int 0, .int 0, .int 0, .int 0, .int 0, .int 0, .int 0, .null]) (C := RX2) (T := TX2) (N := 8) hx hb hts iw_X2 tyX2 tyX2_ok hown (hts _ cl_X0_9) (hts _ ia_X2) (hts _ in_X2) hK.1 hS rfl (fun j hj => by rcases (show j = 0 ∨ j = 1 ∨ j = 2 ∨ j = 3 ∨ j = 4 ∨ j = 5 ∨ j = 6 ∨ j = 7 by omega) with rfl | rfl | rfl | rfl | rfl | rfl | rfl | rfl <;> rfl) (Nat.le_of_ble_eq_true rfl) (Nat.le_of_ble_eq_true rfl) dX0_init_48 (fun q_54 H hq hat hz ho hS => ?_)
  have hr_55 := hat
  have zq_54 := hT.fresh hq
  have neq_54_h0 : h0 ≠ q_54 := by have h9 := hr_19.lt; have h8 : h0 < _ := h9; omega
  have hr_19 := hr_19.kept (ho _ hr_19.lt)
  have neq_54_q_1 : q_1 ≠ q_54 := by have h9 := hr_52.lt; have h8 : q_1 < _ := h9; omega
  have hr_52 := hr_52.kept (ho _ hr_52.lt)
  have szq_54 : sz ≤ q_54 := by omega
  have hT := hT.kept ho
  refine lv_dup hx hb dX0_init_51 rfl ?_
  obtain ⟨sz_hs_56, hs_56⟩ : ∃ z, z = H.size := ⟨_, rfl⟩
  refine va_callv (rnIN (fun H => H.size = sz_hs_56 ∧ va_at (DG E) vwCl (q_54, .inr (2, [.int 0, .int 0, .int 0, .int 0, .int 0, .int 0, .int 0, .null])) H ∧ TH E (T0 E) G_46 [] H) (As := []) (rest := [.ref q_54, .int 3, .ref q_1]) ⟨hx, hb, hml, hown, hts⟩ (c_X2_init l E z0 G_46 q_54 sz_hs_56  zq_54 (by have h9 := hz0; have h8 := hz1; omega) (by have h9 := hS.1; have h8 := hz1; omega) ) ⟨va_cnB (host := RX9) 0 hts (gd1 co_X2_init rfl) rfl rfl rfl (hK.2.1 _ mn_X0_17 #[]) (hts _ in_X2) (by decide +kernel) ⟨Nat.le_of_ble_eq_true rfl, Nat.le_of_ble_eq_true rfl⟩, rfl, hts _ im_X2_init⟩ ⟨hs_56.symm, hr_55, hT⟩ (fun U hU hW => hK.go hW hS hAz hU) rfl rfl hl.1 rfl (lv_room (Nat.le_of_ble_eq_true rfl)) dX0_init_52 ⟨Nat.le_of_ble_eq_true rfl, Nat.le_of_ble_eq_true rfl⟩) hS (fun q _ h => h.elim (fun e => by rw [e]; exact (Or.inr szq_54)) (fun h => Or.inr (by have h9 := hS.1; omega))) (fun q h => h.elim (fun e => by rw [e]; exact (Or.inr szq_54)) (fun h => Or.inr (by have h9 := hS.1; omega))) (fun G_57 t H locs ht hvm hw hB hz hk hS => ?_)
  have hw_58 := hw
  rw [ht] at hB
  have lth0 : h0 < sz_hs_56 := by have h9 := hr_19.lt; have h8 : h0 < _ := h9; omega
  have hr_19 := hr_19.kept (hk _ hr_19.lt (fun h => h.elim neq_54_h0 (fun h => by omega)))
  have hG0 : G_57 h0 = 0 := gx_0 hw_58 hG0 neq_54_h0 lth0
  have ltq_1 : q_1 < sz_hs_56 := by have h9 := hr_52.lt; have h8 : q_1 < _ := h9; omega
  have hr_52 := hr_52.kept (hk _ hr_52.lt (fun h => h.elim neq_54_q_1 (fun h => by omega)))
  have zq_1 : G_57 q_1 = 0 := gx_0 hw_58 zq_1 neq_54_q_1 ltq_1
  have hf_3 := af_x hw_58 (by decide) hf_3
  have gp_59 : G_57 q_5 = 31 := gx_k hw_58 gp_48 (by decide)
  have gp_60 : G_57 q_12 = 31 := gx_k hw_58 gp_49 (by decide)
  have gq_61 : G_57 q_54 = 31 := hw_58.2
  have hE := hE.step hw_58 (by omega) (by have h9 := hS.1; omega)
  have hT : TH E (T0 E) G_57 [] H := hB
  obtain ⟨cs_62, ha_62, hg_62_0⟩ := tg_31 hT gq_61 nx_0
  refine rr_aast (D := DG E) hx hb hK.1 7 2 hr_52 hS (Or.inr szq_1) rfl ha_62 rfl (show vp_in (3) 24 from vp_in_iff.mpr ⟨by decide, by decide⟩) dX0_init_55 (fun H locs hn ho hz hS => ?_)
  have hr_63 : va_at (DG E) vwCl (q_1, .inl (E.2.2 7, 24, .inr (.inr (.inr (.inr (va_up (va_up (va_up (va_up (fun _ => none) 0 (some q_21)) 1 (some q_32)) 2 (some q_43)) 3 (some q_54))))))) H := hn
  have hf_3 := af_push hf_3 gq_61
  have hr_19 := hr_19.kept (ho _ neq_1_h0)
  have hT := hT.off zq_1 ho
  refine lv_iinc (v := 4) (lv' := [(1, .int 4), (0, .ref h0)]) hx hb dX0_init_56 hl (k := 0) rfl (by decide) (by decide) rfl (fun ls hl => ?_)
  refine lv_goto (tgt := 37) hx hb dX0_init_59 (by decide) ?_
  refine lv_iload_n hx hb dX0_init_37 rfl (lv_at hl 0 rfl) ?_
  refine lv_bipush (v := 24) hx hb dX0_init_38 (by decide) ?_
  refine lv_icmp_ge (tgt := 62) hx hb dX0_init_40 (by decide) (fun c_64 => absurd c_64 (by decide)) (fun c_64 => ?_)
  refine lv_aload_n hx hb dX0_init_43 rfl (lv_at hl 1 rfl) ?_
  refine va_get (D := DG E) (ci := 0) (v := .ref q_1) (C := RX0) (T := TX0) (N := 4) hx hb hts iw_X0 hown hK.1 (va_one hr_19) 0 rfl rfl 0 (by decide) (hts _ fl_X0_11) (fun _ h9 => h9) rfl dX0_init_44 ?_
  refine lv_iload_n hx hb dX0_init_47 rfl (lv_at hl 0 rfl) ?_
  have hSo : s.heap.size ≤ _ := hS.1
  refine rr_new (ci := 2) (fs := [.int 0, .int 0, .int 0, .int 0, .int 0, .int 0, .int 0, .null]) (C := RX2) (T := TX2) (N := 8) hx hb hts iw_X2 tyX2 tyX2_ok hown (hts _ cl_X0_9) (hts _ ia_X2) (hts _ in_X2) hK.1 hS rfl (fun j hj => by rcases (show j = 0 ∨ j = 1 ∨ j = 2 ∨ j = 3 ∨ j = 4 ∨ j = 5 ∨ j = 6 ∨ j = 7 by omega) with rfl | rfl | rfl | rfl | rfl | rfl | rfl | rfl <;> rfl) (Nat.le_of_ble_eq_true rfl) (Nat.le_of_ble_eq_true rfl) dX0_init_48 (fun q_65 H hq hat hz ho hS => ?_)
  have hr_66 := hat
  have zq_65 := hT.fresh hq
  have neq_65_h0 : h0 ≠ q_65 := by have h9 := hr_19.lt; have h8 : h0 < _ := h9; omega
  have hr_19 := hr_19.kept (ho _ hr_19.lt)
  have neq_65_q_1 : q_1 ≠ q_65 := by have h9 := hr_63.lt; have h8 : q_1 < _ := h9; omega
  have hr_63 := hr_63.kept (ho _ hr_63.lt)
  have szq_65 : sz ≤ q_65 := by omega
  have hT := hT.kept ho
  refine lv_dup hx hb dX0_init_51 rfl ?_
  obtain ⟨sz_hs_67, hs_67⟩ : ∃ z, z = H.size := ⟨_, rfl⟩
  refine va_callv (rnIN (fun H => H.size = sz_hs_67 ∧ va_at (DG E) vwCl (q_65, .inr (2, [.int 0, .int 0, .int 0, .int 0, .int 0, .int 0, .int 0, .null])) H ∧ TH E (T0 E) G_57 [] H) (As := []) (rest := [.ref q_65, .int 4, .ref q_1]) ⟨hx, hb, hml, hown, hts⟩ (c_X2_init l E z0 G_57 q_65 sz_hs_67  zq_65 (by have h9 := hz0; have h8 := hz1; omega) (by have h9 := hS.1; have h8 := hz1; omega) ) ⟨va_cnB (host := RX9) 0 hts (gd1 co_X2_init rfl) rfl rfl rfl (hK.2.1 _ mn_X0_17 #[]) (hts _ in_X2) (by decide +kernel) ⟨Nat.le_of_ble_eq_true rfl, Nat.le_of_ble_eq_true rfl⟩, rfl, hts _ im_X2_init⟩ ⟨hs_67.symm, hr_66, hT⟩ (fun U hU hW => hK.go hW hS hAz hU) rfl rfl hl.1 rfl (lv_room (Nat.le_of_ble_eq_true rfl)) dX0_init_52 ⟨Nat.le_of_ble_eq_true rfl, Nat.le_of_ble_eq_true rfl⟩) hS (fun q _ h => h.elim (fun e => by rw [e]; exact (Or.inr szq_65)) (fun h => Or.inr (by have h9 := hS.1; omega))) (fun q h => h.elim (fun e => by rw [e]; exact (Or.inr szq_65)) (fun h => Or.inr (by have h9 := hS.1; omega))) (fun G_68 t H locs ht hvm hw hB hz hk hS => ?_)
  have hw_69 := hw
  rw [ht] at hB
  have lth0 : h0 < sz_hs_67 := by have h9 := hr_19.lt; have h8 : h0 < _ := h9; omega
  have hr_19 := hr_19.kept (hk _ hr_19.lt (fun h => h.elim neq_65_h0 (fun h => by omega)))
  have hG0 : G_68 h0 = 0 := gx_0 hw_69 hG0 neq_65_h0 lth0
  have ltq_1 : q_1 < sz_hs_67 := by have h9 := hr_63.lt; have h8 : q_1 < _ := h9; omega
  have hr_63 := hr_63.kept (hk _ hr_63.lt (fun h => h.elim neq_65_q_1 (fun h => by omega)))
  have zq_1 : G_68 q_1 = 0 := gx_0 hw_69 zq_1 neq_65_q_1 ltq_1
  have hf_3 := af_x hw_69 (by decide) hf_3
  have gp_70 : G_68 q_5 = 31 := gx_k hw_69 gp_59 (by decide)
  have gp_71 : G_68 q_12 = 31 := gx_k hw_69 gp_60 (by decide)
  have gq_72 : G_68 q_65 = 31 := hw_69.2
  have hE := hE.step hw_69 (by omega) (by have h9 := hS.1; omega)
  have hT : TH E (T0 E) G_68 [] H := hB
  obtain ⟨cs_73, ha_73, hg_73_0⟩ := tg_31 hT gq_72 nx_0
  refine rr_aast (D := DG E) hx hb hK.1 7 2 hr_63 hS (Or.inr szq_1) rfl ha_73 rfl (show vp_in (4) 24 from vp_in_iff.mpr ⟨by decide, by decide⟩) dX0_init_55 (fun H locs hn ho hz hS => ?_)
  have hr_74 : va_at (DG E) vwCl (q_1, .inl (E.2.2 7, 24, .inr (.inr (.inr (.inr (va_up (va_up (va_up (va_up (va_up (fun _ => none) 0 (some q_21)) 1 (some q_32)) 2 (some q_43)) 3 (some q_54)) 4 (some q_65))))))) H := hn
  have hf_3 := af_push hf_3 gq_72
  have hr_19 := hr_19.kept (ho _ neq_1_h0)
  have hT := hT.off zq_1 ho
  refine lv_iinc (v := 5) (lv' := [(1, .int 5), (0, .ref h0)]) hx hb dX0_init_56 hl (k := 0) rfl (by decide) (by decide) rfl (fun ls hl => ?_)
  refine lv_goto (tgt := 37) hx hb dX0_init_59 (by decide) ?_
  refine lv_iload_n hx hb dX0_init_37 rfl (lv_at hl 0 rfl) ?_
  refine lv_bipush (v := 24) hx hb dX0_init_38 (by decide) ?_
  refine lv_icmp_ge (tgt := 62) hx hb dX0_init_40 (by decide) (fun c_75 => absurd c_75 (by decide)) (fun c_75 => ?_)
  refine lv_aload_n hx hb dX0_init_43 rfl (lv_at hl 1 rfl) ?_
  refine va_get (D := DG E) (ci := 0) (v := .ref q_1) (C := RX0) (T := TX0) (N := 4) hx hb hts iw_X0 hown hK.1 (va_one hr_19) 0 rfl rfl 0 (by decide) (hts _ fl_X0_11) (fun _ h9 => h9) rfl dX0_init_44 ?_
  refine lv_iload_n hx hb dX0_init_47 rfl (lv_at hl 0 rfl) ?_
  have hSo : s.heap.size ≤ _ := hS.1
  refine rr_new (ci := 2) (fs := [.int 0, .int 0, .int 0, .int 0, .int 0, .int 0, .int 0, .null]) (C := RX2) (T := TX2) (N := 8) hx hb hts iw_X2 tyX2 tyX2_ok hown (hts _ cl_X0_9) (hts _ ia_X2) (hts _ in_X2) hK.1 hS rfl (fun j hj => by rcases (show j = 0 ∨ j = 1 ∨ j = 2 ∨ j = 3 ∨ j = 4 ∨ j = 5 ∨ j = 6 ∨ j = 7 by omega) with rfl | rfl | rfl | rfl | rfl | rfl | rfl | rfl <;> rfl) (Nat.le_of_ble_eq_true rfl) (Nat.le_of_ble_eq_true rfl) dX0_init_48 (fun q_76 H hq hat hz ho hS => ?_)
  have hr_77 := hat
  have zq_76 := hT.fresh hq
  have neq_76_h0 : h0 ≠ q_76 := by have h9 := hr_19.lt; have h8 : h0 < _ := h9; omega
  have hr_19 := hr_19.kept (ho _ hr_19.lt)
  have neq_76_q_1 : q_1 ≠ q_76 := by have h9 := hr_74.lt; have h8 : q_1 < _ := h9; omega
  have hr_74 := hr_74.kept (ho _ hr_74.lt)
  have szq_76 : sz ≤ q_76 := by omega
  have hT := hT.kept ho
  refine lv_dup hx hb dX0_init_51 rfl ?_
  obtain ⟨sz_hs_78, hs_78⟩ : ∃ z, z = H.size := ⟨_, rfl⟩
  refine va_callv (rnIN (fun H => H.size = sz_hs_78 ∧ va_at (DG E) vwCl (q_76, .inr (2, [.int 0, .int 0, .int 0, .int 0, .int 0, .int 0, .int 0, .null])) H ∧ TH E (T0 E) G_68 [] H) (As := []) (rest := [.ref q_76, .int 5, .ref q_1]) ⟨hx, hb, hml, hown, hts⟩ (c_X2_init l E z0 G_68 q_76 sz_hs_78  zq_76 (by have h9 := hz0; have h8 := hz1; omega) (by have h9 := hS.1; have h8 := hz1; omega) ) ⟨va_cnB (host := RX9) 0 hts (gd1 co_X2_init rfl) rfl rfl rfl (hK.2.1 _ mn_X0_17 #[]) (hts _ in_X2) (by decide +kernel) ⟨Nat.le_of_ble_eq_true rfl, Nat.le_of_ble_eq_true rfl⟩, rfl, hts _ im_X2_init⟩ ⟨hs_78.symm, hr_77, hT⟩ (fun U hU hW => hK.go hW hS hAz hU) rfl rfl hl.1 rfl (lv_room (Nat.le_of_ble_eq_true rfl)) dX0_init_52 ⟨Nat.le_of_ble_eq_true rfl, Nat.le_of_ble_eq_true rfl⟩) hS (fun q _ h => h.elim (fun e => by rw [e]; exact (Or.inr szq_76)) (fun h => Or.inr (by have h9 := hS.1; omega))) (fun q h => h.elim (fun e => by rw [e]; exact (Or.inr szq_76)) (fun h => Or.inr (by have h9 := hS.1; omega))) (fun G_79 t H locs ht hvm hw hB hz hk hS => ?_)
  have hw_80 := hw
  rw [ht] at hB
  have lth0 : h0 < sz_hs_78 := by have h9 := hr_19.lt; have h8 : h0 < _ := h9; omega
  have hr_19 := hr_19.kept (hk _ hr_19.lt (fun h => h.elim neq_76_h0 (fun h => by omega)))
  have hG0 : G_79 h0 = 0 := gx_0 hw_80 hG0 neq_76_h0 lth0
  have ltq_1 : q_1 < sz_hs_78 := by have h9 := hr_74.lt; have h8 : q_1 < _ := h9; omega
  have hr_74 := hr_74.kept (hk _ hr_74.lt (fun h => h.elim neq_76_q_1 (fun h => by omega)))
  have zq_1 : G_79 q_1 = 0 := gx_0 hw_80 zq_1 neq_76_q_1 ltq_1
  have hf_3 := af_x hw_80 (by decide) hf_3
  have gp_81 : G_79 q_5 = 31 := gx_k hw_80 gp_70 (by decide)
  have gp_82 : G_79 q_12 = 31 := gx_k hw_80 gp_71 (by decide)
  have gq_83 : G_79 q_76 = 31 := hw_80.2
  have hE := hE.step hw_80 (by omega) (by have h9 := hS.1; omega)
  have hT : TH E (T0 E) G_79 [] H := hB
  obtain ⟨cs_84, ha_84, hg_84_0⟩ := tg_31 hT gq_83 nx_0
  refine rr_aast (D := DG E) hx hb hK.1 7 2 hr_74 hS (Or.inr szq_1) rfl ha_84 rfl (show vp_in (5) 24 from vp_in_iff.mpr ⟨by decide, by decide⟩) dX0_init_55 (fun H locs hn ho hz hS => ?_)
  have hr_85 : va_at (DG E) vwCl (q_1, .inl (E.2.2 7, 24, .inr (.inr (.inr (.inr (va_up (va_up (va_up (va_up (va_up (va_up (fun _ => none) 0 (some q_21)) 1 (some q_32)) 2 (some q_43)) 3 (some q_54)) 4 (some q_65)) 5 (some q_76))))))) H := hn
  have hf_3 := af_push hf_3 gq_83
  have hr_19 := hr_19.kept (ho _ neq_1_h0)
  have hT := hT.off zq_1 ho
  refine lv_iinc (v := 6) (lv' := [(1, .int 6), (0, .ref h0)]) hx hb dX0_init_56 hl (k := 0) rfl (by decide) (by decide) rfl (fun ls hl => ?_)
  refine lv_goto (tgt := 37) hx hb dX0_init_59 (by decide) ?_
  refine lv_iload_n hx hb dX0_init_37 rfl (lv_at hl 0 rfl) ?_
  refine lv_bipush (v := 24) hx hb dX0_init_38 (by decide) ?_
  refine lv_icmp_ge (tgt := 62) hx hb dX0_init_40 (by decide) (fun c_86 => absurd c_86 (by decide)) (fun c_86 => ?_)
  refine lv_aload_n hx hb dX0_init_43 rfl (lv_at hl 1 rfl) ?_
  refine va_get (D := DG E) (ci := 0) (v := .ref q_1) (C := RX0) (T := TX0) (N := 4) hx hb hts iw_X0 hown hK.1 (va_one hr_19) 0 rfl rfl 0 (by decide) (hts _ fl_X0_11) (fun _ h9 => h9) rfl dX0_init_44 ?_
  refine lv_iload_n hx hb dX0_init_47 rfl (lv_at hl 0 rfl) ?_
  have hSo : s.heap.size ≤ _ := hS.1
  refine rr_new (ci := 2) (fs := [.int 0, .int 0, .int 0, .int 0, .int 0, .int 0, .int 0, .null]) (C := RX2) (T := TX2) (N := 8) hx hb hts iw_X2 tyX2 tyX2_ok hown (hts _ cl_X0_9) (hts _ ia_X2) (hts _ in_X2) hK.1 hS rfl (fun j hj => by rcases (show j = 0 ∨ j = 1 ∨ j = 2 ∨ j = 3 ∨ j = 4 ∨ j = 5 ∨ j = 6 ∨ j = 7 by omega) with rfl | rfl | rfl | rfl | rfl | rfl | rfl | rfl <;> rfl) (Nat.le_of_ble_eq_true rfl) (Nat.le_of_ble_eq_true rfl) dX0_init_48 (fun q_87 H hq hat hz ho hS => ?_)
  have hr_88 := hat
  have zq_87 := hT.fresh hq
  have neq_87_h0 : h0 ≠ q_87 := by have h9 := hr_19.lt; have h8 : h0 < _ := h9; omega
  have hr_19 := hr_19.kept (ho _ hr_19.lt)
  have neq_87_q_1 : q_1 ≠ q_87 := by have h9 := hr_85.lt; have h8 : q_1 < _ := h9; omega
  have hr_85 := hr_85.kept (ho _ hr_85.lt)
  have szq_87 : sz ≤ q_87 := by omega
  have hT := hT.kept ho
  refine lv_dup hx hb dX0_init_51 rfl ?_
  obtain ⟨sz_hs_89, hs_89⟩ : ∃ z, z = H.size := ⟨_, rfl⟩
  refine va_callv (rnIN (fun H => H.size = sz_hs_89 ∧ va_at (DG E) vwCl (q_87, .inr (2, [.int 0, .int 0, .int 0, .int 0, .int 0, .int 0, .int 0, .null])) H ∧ TH E (T0 E) G_79 [] H) (As := []) (rest := [.ref q_87, .int 6, .ref q_1]) ⟨hx, hb, hml, hown, hts⟩ (c_X2_init l E z0 G_79 q_87 sz_hs_89  zq_87 (by have h9 := hz0; have h8 := hz1; omega) (by have h9 := hS.1; have h8 := hz1; omega) ) ⟨va_cnB (host := RX9) 0 hts (gd1 co_X2_init rfl) rfl rfl rfl (hK.2.1 _ mn_X0_17 #[]) (hts _ in_X2) (by decide +kernel) ⟨Nat.le_of_ble_eq_true rfl, Nat.le_of_ble_eq_true rfl⟩, rfl, hts _ im_X2_init⟩ ⟨hs_89.symm, hr_88, hT⟩ (fun U hU hW => hK.go hW hS hAz hU) rfl rfl hl.1 rfl (lv_room (Nat.le_of_ble_eq_true rfl)) dX0_init_52 ⟨Nat.le_of_ble_eq_true rfl, Nat.le_of_ble_eq_true rfl⟩) hS (fun q _ h => h.elim (fun e => by rw [e]; exact (Or.inr szq_87)) (fun h => Or.inr (by have h9 := hS.1; omega))) (fun q h => h.elim (fun e => by rw [e]; exact (Or.inr szq_87)) (fun h => Or.inr (by have h9 := hS.1; omega))) (fun G_90 t H locs ht hvm hw hB hz hk hS => ?_)
  have hw_91 := hw
  rw [ht] at hB
  have lth0 : h0 < sz_hs_89 := by have h9 := hr_19.lt; have h8 : h0 < _ := h9; omega
  have hr_19 := hr_19.kept (hk _ hr_19.lt (fun h => h.elim neq_87_h0 (fun h => by omega)))
  have hG0 : G_90 h0 = 0 := gx_0 hw_91 hG0 neq_87_h0 lth0
  have ltq_1 : q_1 < sz_hs_89 := by have h9 := hr_85.lt; have h8 : q_1 < _ := h9; omega
  have hr_85 := hr_85.kept (hk _ hr_85.lt (fun h => h.elim neq_87_q_1 (fun h => by omega)))
  have zq_1 : G_90 q_1 = 0 := gx_0 hw_91 zq_1 neq_87_q_1 ltq_1
  have hf_3 := af_x hw_91 (by decide) hf_3
  have gp_92 : G_90 q_5 = 31 := gx_k hw_91 gp_81 (by decide)
  have gp_93 : G_90 q_12 = 31 := gx_k hw_91 gp_82 (by decide)
  have gq_94 : G_90 q_87 = 31 := hw_91.2
  have hE := hE.step hw_91 (by omega) (by have h9 := hS.1; omega)
  have hT : TH E (T0 E) G_90 [] H := hB
  obtain ⟨cs_95, ha_95, hg_95_0⟩ := tg_31 hT gq_94 nx_0
  refine rr_aast (D := DG E) hx hb hK.1 7 2 hr_85 hS (Or.inr szq_1) rfl ha_95 rfl (show vp_in (6) 24 from vp_in_iff.mpr ⟨by decide, by decide⟩) dX0_init_55 (fun H locs hn ho hz hS => ?_)
  have hr_96 : va_at (DG E) vwCl (q_1, .inl (E.2.2 7, 24, .inr (.inr (.inr (.inr (va_up (va_up (va_up (va_up (va_up (va_up (va_up (fun _ => none) 0 (some q_21)) 1 (some q_32)) 2 (some q_43)) 3 (some q_54)) 4 (some q_65)) 5 (some q_76)) 6 (some q_87))))))) H := hn
  have hf_3 := af_push hf_3 gq_94
  have hr_19 := hr_19.kept (ho _ neq_1_h0)
  have hT := hT.off zq_1 ho
  refine lv_iinc (v := 7) (lv' := [(1, .int 7), (0, .ref h0)]) hx hb dX0_init_56 hl (k := 0) rfl (by decide) (by decide) rfl (fun ls hl => ?_)
  refine lv_goto (tgt := 37) hx hb dX0_init_59 (by decide) ?_
  refine lv_iload_n hx hb dX0_init_37 rfl (lv_at hl 0 rfl) ?_
  refine lv_bipush (v := 24) hx hb dX0_init_38 (by decide) ?_
  refine lv_icmp_ge (tgt := 62) hx hb dX0_init_40 (by decide) (fun c_97 => absurd c_97 (by decide)) (fun c_97 => ?_)
  refine lv_aload_n hx hb dX0_init_43 rfl (lv_at hl 1 rfl) ?_
  refine va_get (D := DG E) (ci := 0) (v := .ref q_1) (C := RX0) (T := TX0) (N := 4) hx hb hts iw_X0 hown hK.1 (va_one hr_19) 0 rfl rfl 0 (by decide) (hts _ fl_X0_11) (fun _ h9 => h9) rfl dX0_init_44 ?_
  refine lv_iload_n hx hb dX0_init_47 rfl (lv_at hl 0 rfl) ?_
  have hSo : s.heap.size ≤ _ := hS.1
  refine rr_new (ci := 2) (fs := [.int 0, .int 0, .int 0, .int 0, .int 0, .int 0, .int 0, .null]) (C := RX2) (T := TX2) (N := 8) hx hb hts iw_X2 tyX2 tyX2_ok hown (hts _ cl_X0_9) (hts _ ia_X2) (hts _ in_X2) hK.1 hS rfl (fun j hj => by rcases (show j = 0 ∨ j = 1 ∨ j = 2 ∨ j = 3 ∨ j = 4 ∨ j = 5 ∨ j = 6 ∨ j = 7 by omega) with rfl | rfl | rfl | rfl | rfl | rfl | rfl | rfl <;> rfl) (Nat.le_of_ble_eq_true rfl) (Nat.le_of_ble_eq_true rfl) dX0_init_48 (fun q_98 H hq hat hz ho hS => ?_)
  have hr_99 := hat
  have zq_98 := hT.fresh hq
  have neq_98_h0 : h0 ≠ q_98 := by have h9 := hr_19.lt; have h8 : h0 < _ := h9; omega
  have hr_19 := hr_19.kept (ho _ hr_19.lt)
  have neq_98_q_1 : q_1 ≠ q_98 := by have h9 := hr_96.lt; have h8 : q_1 < _ := h9; omega
  have hr_96 := hr_96.kept (ho _ hr_96.lt)
  have szq_98 : sz ≤ q_98 := by omega
  have hT := hT.kept ho
  refine lv_dup hx hb dX0_init_51 rfl ?_
  obtain ⟨sz_hs_100, hs_100⟩ : ∃ z, z = H.size := ⟨_, rfl⟩
  refine va_callv (rnIN (fun H => H.size = sz_hs_100 ∧ va_at (DG E) vwCl (q_98, .inr (2, [.int 0, .int 0, .int 0, .int 0, .int 0, .int 0, .int 0, .null])) H ∧ TH E (T0 E) G_90 [] H) (As := []) (rest := [.ref q_98, .int 7, .ref q_1]) ⟨hx, hb, hml, hown, hts⟩ (c_X2_init l E z0 G_90 q_98 sz_hs_100  zq_98 (by have h9 := hz0; have h8 := hz1; omega) (by have h9 := hS.1; have h8 := hz1; omega) ) ⟨va_cnB (host := RX9) 0 hts (gd1 co_X2_init rfl) rfl rfl rfl (hK.2.1 _ mn_X0_17 #[]) (hts _ in_X2) (by decide +kernel) ⟨Nat.le_of_ble_eq_true rfl, Nat.le_of_ble_eq_true rfl⟩, rfl, hts _ im_X2_init⟩ ⟨hs_100.symm, hr_99, hT⟩ (fun U hU hW => hK.go hW hS hAz hU) rfl rfl hl.1 rfl (lv_room (Nat.le_of_ble_eq_true rfl)) dX0_init_52 ⟨Nat.le_of_ble_eq_true rfl, Nat.le_of_ble_eq_true rfl⟩) hS (fun q _ h => h.elim (fun e => by rw [e]; exact (Or.inr szq_98)) (fun h => Or.inr (by have h9 := hS.1; omega))) (fun q h => h.elim (fun e => by rw [e]; exact (Or.inr szq_98)) (fun h => Or.inr (by have h9 := hS.1; omega))) (fun G_101 t H locs ht hvm hw hB hz hk hS => ?_)
  have hw_102 := hw
  rw [ht] at hB
  have lth0 : h0 < sz_hs_100 := by have h9 := hr_19.lt; have h8 : h0 < _ := h9; omega
  have hr_19 := hr_19.kept (hk _ hr_19.lt (fun h => h.elim neq_98_h0 (fun h => by omega)))
  have hG0 : G_101 h0 = 0 := gx_0 hw_102 hG0 neq_98_h0 lth0
  have ltq_1 : q_1 < sz_hs_100 := by have h9 := hr_96.lt; have h8 : q_1 < _ := h9; omega
  have hr_96 := hr_96.kept (hk _ hr_96.lt (fun h => h.elim neq_98_q_1 (fun h => by omega)))
  have zq_1 : G_101 q_1 = 0 := gx_0 hw_102 zq_1 neq_98_q_1 ltq_1
  have hf_3 := af_x hw_102 (by decide) hf_3
  have gp_103 : G_101 q_5 = 31 := gx_k hw_102 gp_92 (by decide)
  have gp_104 : G_101 q_12 = 31 := gx_k hw_102 gp_93 (by decide)
  have gq_105 : G_101 q_98 = 31 := hw_102.2
  have hE := hE.step hw_102 (by omega) (by have h9 := hS.1; omega)
  have hT : TH E (T0 E) G_101 [] H := hB
  obtain ⟨cs_106, ha_106, hg_106_0⟩ := tg_31 hT gq_105 nx_0
  refine rr_aast (D := DG E) hx hb hK.1 7 2 hr_96 hS (Or.inr szq_1) rfl ha_106 rfl (show vp_in (7) 24 from vp_in_iff.mpr ⟨by decide, by decide⟩) dX0_init_55 (fun H locs hn ho hz hS => ?_)
  have hr_107 : va_at (DG E) vwCl (q_1, .inl (E.2.2 7, 24, .inr (.inr (.inr (.inr (va_up (va_up (va_up (va_up (va_up (va_up (va_up (va_up (fun _ => none) 0 (some q_21)) 1 (some q_32)) 2 (some q_43)) 3 (some q_54)) 4 (some q_65)) 5 (some q_76)) 6 (some q_87)) 7 (some q_98))))))) H := hn
  have hf_3 := af_push hf_3 gq_105
  have hr_19 := hr_19.kept (ho _ neq_1_h0)
  have hT := hT.off zq_1 ho
  refine lv_iinc (v := 8) (lv' := [(1, .int 8), (0, .ref h0)]) hx hb dX0_init_56 hl (k := 0) rfl (by decide) (by decide) rfl (fun ls hl => ?_)
  refine lv_goto (tgt := 37) hx hb dX0_init_59 (by decide) ?_
  refine lv_iload_n hx hb dX0_init_37 rfl (lv_at hl 0 rfl) ?_
  refine lv_bipush (v := 24) hx hb dX0_init_38 (by decide) ?_
  refine lv_icmp_ge (tgt := 62) hx hb dX0_init_40 (by decide) (fun c_108 => absurd c_108 (by decide)) (fun c_108 => ?_)
  refine lv_aload_n hx hb dX0_init_43 rfl (lv_at hl 1 rfl) ?_
  refine va_get (D := DG E) (ci := 0) (v := .ref q_1) (C := RX0) (T := TX0) (N := 4) hx hb hts iw_X0 hown hK.1 (va_one hr_19) 0 rfl rfl 0 (by decide) (hts _ fl_X0_11) (fun _ h9 => h9) rfl dX0_init_44 ?_
  refine lv_iload_n hx hb dX0_init_47 rfl (lv_at hl 0 rfl) ?_
  have hSo : s.heap.size ≤ _ := hS.1
  refine rr_new (ci := 2) (fs := [.int 0, .int 0, .int 0, .int 0, .int 0, .int 0, .int 0, .null]) (C := RX2) (T := TX2) (N := 8) hx hb hts iw_X2 tyX2 tyX2_ok hown (hts _ cl_X0_9) (hts _ ia_X2) (hts _ in_X2) hK.1 hS rfl (fun j hj => by rcases (show j = 0 ∨ j = 1 ∨ j = 2 ∨ j = 3 ∨ j = 4 ∨ j = 5 ∨ j = 6 ∨ j = 7 by omega) with rfl | rfl | rfl | rfl | rfl | rfl | rfl | rfl <;> rfl) (Nat.le_of_ble_eq_true rfl) (Nat.le_of_ble_eq_true rfl) dX0_init_48 (fun q_109 H hq hat hz ho hS => ?_)
  have hr_110 := hat
  have zq_109 := hT.fresh hq
  have neq_109_h0 : h0 ≠ q_109 := by have h9 := hr_19.lt; have h8 : h0 < _ := h9; omega
  have hr_19 := hr_19.kept (ho _ hr_19.lt)
  have neq_109_q_1 : q_1 ≠ q_109 := by have h9 := hr_107.lt; have h8 : q_1 < _ := h9; omega
  have hr_107 := hr_107.kept (ho _ hr_107.lt)
  have szq_109 : sz ≤ q_109 := by omega
  have hT := hT.kept ho
  refine lv_dup hx hb dX0_init_51 rfl ?_
  obtain ⟨sz_hs_111, hs_111⟩ : ∃ z, z = H.size := ⟨_, rfl⟩
  refine va_callv (rnIN (fun H => H.size = sz_hs_111 ∧ va_at (DG E) vwCl (q_109, .inr (2, [.int 0, .int 0, .int 0, .int 0, .int 0, .int 0, .int 0, .null])) H ∧ TH E (T0 E) G_101 [] H) (As := []) (rest := [.ref q_109, .int 8, .ref q_1]) ⟨hx, hb, hml, hown, hts⟩ (c_X2_init l E z0 G_101 q_109 sz_hs_111  zq_109 (by have h9 := hz0; have h8 := hz1; omega) (by have h9 := hS.1; have h8 := hz1; omega) ) ⟨va_cnB (host := RX9) 0 hts (gd1 co_X2_init rfl) rfl rfl rfl (hK.2.1 _ mn_X0_17 #[]) (hts _ in_X2) (by decide +kernel) ⟨Nat.le_of_ble_eq_true rfl, Nat.le_of_ble_eq_true rfl⟩, rfl, hts _ im_X2_init⟩ ⟨hs_111.symm, hr_110, hT⟩ (fun U hU hW => hK.go hW hS hAz hU) rfl rfl hl.1 rfl (lv_room (Nat.le_of_ble_eq_true rfl)) dX0_init_52 ⟨Nat.le_of_ble_eq_true rfl, Nat.le_of_ble_eq_true rfl⟩) hS (fun q _ h => h.elim (fun e => by rw [e]; exact (Or.inr szq_109)) (fun h => Or.inr (by have h9 := hS.1; omega))) (fun q h => h.elim (fun e => by rw [e]; exact (Or.inr szq_109)) (fun h => Or.inr (by have h9 := hS.1; omega))) (fun G_112 t H locs ht hvm hw hB hz hk hS => ?_)
  have hw_113 := hw
  rw [ht] at hB
  have lth0 : h0 < sz_hs_111 := by have h9 := hr_19.lt; have h8 : h0 < _ := h9; omega
  have hr_19 := hr_19.kept (hk _ hr_19.lt (fun h => h.elim neq_109_h0 (fun h => by omega)))
  have hG0 : G_112 h0 = 0 := gx_0 hw_113 hG0 neq_109_h0 lth0
  have ltq_1 : q_1 < sz_hs_111 := by have h9 := hr_107.lt; have h8 : q_1 < _ := h9; omega
  have hr_107 := hr_107.kept (hk _ hr_107.lt (fun h => h.elim neq_109_q_1 (fun h => by omega)))
  have zq_1 : G_112 q_1 = 0 := gx_0 hw_113 zq_1 neq_109_q_1 ltq_1
  have hf_3 := af_x hw_113 (by decide) hf_3
  have gp_114 : G_112 q_5 = 31 := gx_k hw_113 gp_103 (by decide)
  have gp_115 : G_112 q_12 = 31 := gx_k hw_113 gp_104 (by decide)
  have gq_116 : G_112 q_109 = 31 := hw_113.2
  have hE := hE.step hw_113 (by omega) (by have h9 := hS.1; omega)
  have hT : TH E (T0 E) G_112 [] H := hB
  obtain ⟨cs_117, ha_117, hg_117_0⟩ := tg_31 hT gq_116 nx_0
  refine rr_aast (D := DG E) hx hb hK.1 7 2 hr_107 hS (Or.inr szq_1) rfl ha_117 rfl (show vp_in (8) 24 from vp_in_iff.mpr ⟨by decide, by decide⟩) dX0_init_55 (fun H locs hn ho hz hS => ?_)
  have hr_118 : va_at (DG E) vwCl (q_1, .inl (E.2.2 7, 24, .inr (.inr (.inr (.inr (va_up (va_up (va_up (va_up (va_up (va_up (va_up (va_up (va_up (fun _ => none) 0 (some q_21)) 1 (some q_32)) 2 (some q_43)) 3 (some q_54)) 4 (some q_65)) 5 (some q_76)) 6 (some q_87)) 7 (some q_98)) 8 (some q_109))))))) H := hn
  have hf_3 := af_push hf_3 gq_116
  have hr_19 := hr_19.kept (ho _ neq_1_h0)
  have hT := hT.off zq_1 ho
  refine lv_iinc (v := 9) (lv' := [(1, .int 9), (0, .ref h0)]) hx hb dX0_init_56 hl (k := 0) rfl (by decide) (by decide) rfl (fun ls hl => ?_)
  refine lv_goto (tgt := 37) hx hb dX0_init_59 (by decide) ?_
  refine lv_iload_n hx hb dX0_init_37 rfl (lv_at hl 0 rfl) ?_
  refine lv_bipush (v := 24) hx hb dX0_init_38 (by decide) ?_
  refine lv_icmp_ge (tgt := 62) hx hb dX0_init_40 (by decide) (fun c_119 => absurd c_119 (by decide)) (fun c_119 => ?_)
  refine lv_aload_n hx hb dX0_init_43 rfl (lv_at hl 1 rfl) ?_
  refine va_get (D := DG E) (ci := 0) (v := .ref q_1) (C := RX0) (T := TX0) (N := 4) hx hb hts iw_X0 hown hK.1 (va_one hr_19) 0 rfl rfl 0 (by decide) (hts _ fl_X0_11) (fun _ h9 => h9) rfl dX0_init_44 ?_
  refine lv_iload_n hx hb dX0_init_47 rfl (lv_at hl 0 rfl) ?_
  have hSo : s.heap.size ≤ _ := hS.1
  refine rr_new (ci := 2) (fs := [.int 0, .int 0, .int 0, .int 0, .int 0, .int 0, .int 0, .null]) (C := RX2) (T := TX2) (N := 8) hx hb hts iw_X2 tyX2 tyX2_ok hown (hts _ cl_X0_9) (hts _ ia_X2) (hts _ in_X2) hK.1 hS rfl (fun j hj => by rcases (show j = 0 ∨ j = 1 ∨ j = 2 ∨ j = 3 ∨ j = 4 ∨ j = 5 ∨ j = 6 ∨ j = 7 by omega) with rfl | rfl | rfl | rfl | rfl | rfl | rfl | rfl <;> rfl) (Nat.le_of_ble_eq_true rfl) (Nat.le_of_ble_eq_true rfl) dX0_init_48 (fun q_120 H hq hat hz ho hS => ?_)
  have hr_121 := hat
  have zq_120 := hT.fresh hq
  have neq_120_h0 : h0 ≠ q_120 := by have h9 := hr_19.lt; have h8 : h0 < _ := h9; omega
  have hr_19 := hr_19.kept (ho _ hr_19.lt)
  have neq_120_q_1 : q_1 ≠ q_120 := by have h9 := hr_118.lt; have h8 : q_1 < _ := h9; omega
  have hr_118 := hr_118.kept (ho _ hr_118.lt)
  have szq_120 : sz ≤ q_120 := by omega
  have hT := hT.kept ho
  refine lv_dup hx hb dX0_init_51 rfl ?_
  obtain ⟨sz_hs_122, hs_122⟩ : ∃ z, z = H.size := ⟨_, rfl⟩
  refine va_callv (rnIN (fun H => H.size = sz_hs_122 ∧ va_at (DG E) vwCl (q_120, .inr (2, [.int 0, .int 0, .int 0, .int 0, .int 0, .int 0, .int 0, .null])) H ∧ TH E (T0 E) G_112 [] H) (As := []) (rest := [.ref q_120, .int 9, .ref q_1]) ⟨hx, hb, hml, hown, hts⟩ (c_X2_init l E z0 G_112 q_120 sz_hs_122  zq_120 (by have h9 := hz0; have h8 := hz1; omega) (by have h9 := hS.1; have h8 := hz1; omega) ) ⟨va_cnB (host := RX9) 0 hts (gd1 co_X2_init rfl) rfl rfl rfl (hK.2.1 _ mn_X0_17 #[]) (hts _ in_X2) (by decide +kernel) ⟨Nat.le_of_ble_eq_true rfl, Nat.le_of_ble_eq_true rfl⟩, rfl, hts _ im_X2_init⟩ ⟨hs_122.symm, hr_121, hT⟩ (fun U hU hW => hK.go hW hS hAz hU) rfl rfl hl.1 rfl (lv_room (Nat.le_of_ble_eq_true rfl)) dX0_init_52 ⟨Nat.le_of_ble_eq_true rfl, Nat.le_of_ble_eq_true rfl⟩) hS (fun q _ h => h.elim (fun e => by rw [e]; exact (Or.inr szq_120)) (fun h => Or.inr (by have h9 := hS.1; omega))) (fun q h => h.elim (fun e => by rw [e]; exact (Or.inr szq_120)) (fun h => Or.inr (by have h9 := hS.1; omega))) (fun G_123 t H locs ht hvm hw hB hz hk hS => ?_)
  have hw_124 := hw
  rw [ht] at hB
  have lth0 : h0 < sz_hs_122 := by have h9 := hr_19.lt; have h8 : h0 < _ := h9; omega
  have hr_19 := hr_19.kept (hk _ hr_19.lt (fun h => h.elim neq_120_h0 (fun h => by omega)))
  have hG0 : G_123 h0 = 0 := gx_0 hw_124 hG0 neq_120_h0 lth0
  have ltq_1 : q_1 < sz_hs_122 := by have h9 := hr_118.lt; have h8 : q_1 < _ := h9; omega
  have hr_118 := hr_118.kept (hk _ hr_118.lt (fun h => h.elim neq_120_q_1 (fun h => by omega)))
  have zq_1 : G_123 q_1 = 0 := gx_0 hw_124 zq_1 neq_120_q_1 ltq_1
  have hf_3 := af_x hw_124 (by decide) hf_3
  have gp_125 : G_123 q_5 = 31 := gx_k hw_124 gp_114 (by decide)
  have gp_126 : G_123 q_12 = 31 := gx_k hw_124 gp_115 (by decide)
  have gq_127 : G_123 q_120 = 31 := hw_124.2
  have hE := hE.step hw_124 (by omega) (by have h9 := hS.1; omega)
  have hT : TH E (T0 E) G_123 [] H := hB
  obtain ⟨cs_128, ha_128, hg_128_0⟩ := tg_31 hT gq_127 nx_0
  refine rr_aast (D := DG E) hx hb hK.1 7 2 hr_118 hS (Or.inr szq_1) rfl ha_128 rfl (show vp_in (9) 24 from vp_in_iff.mpr ⟨by decide, by decide⟩) dX0_init_55 (fun H locs hn ho hz hS => ?_)
  have hr_129 : va_at (DG E) vwCl (q_1, .inl (E.2.2 7, 24, .inr (.inr (.inr (.inr (va_up (va_up (va_up (va_up (va_up (va_up (va_up (va_up (va_up (va_up (fun _ => none) 0 (some q_21)) 1 (some q_32)) 2 (some q_43)) 3 (some q_54)) 4 (some q_65)) 5 (some q_76)) 6 (some q_87)) 7 (some q_98)) 8 (some q_109)) 9 (some q_120))))))) H := hn
  have hf_3 := af_push hf_3 gq_127
  have hr_19 := hr_19.kept (ho _ neq_1_h0)
  have hT := hT.off zq_1 ho
  refine lv_iinc (v := 10) (lv' := [(1, .int 10), (0, .ref h0)]) hx hb dX0_init_56 hl (k := 0) rfl (by decide) (by decide) rfl (fun ls hl => ?_)
  refine lv_goto (tgt := 37) hx hb dX0_init_59 (by decide) ?_
  refine lv_iload_n hx hb dX0_init_37 rfl (lv_at hl 0 rfl) ?_
  refine lv_bipush (v := 24) hx hb dX0_init_38 (by decide) ?_
  refine lv_icmp_ge (tgt := 62) hx hb dX0_init_40 (by decide) (fun c_130 => absurd c_130 (by decide)) (fun c_130 => ?_)
  refine lv_aload_n hx hb dX0_init_43 rfl (lv_at hl 1 rfl) ?_
  refine va_get (D := DG E) (ci := 0) (v := .ref q_1) (C := RX0) (T := TX0) (N := 4) hx hb hts iw_X0 hown hK.1 (va_one hr_19) 0 rfl rfl 0 (by decide) (hts _ fl_X0_11) (fun _ h9 => h9) rfl dX0_init_44 ?_
  refine lv_iload_n hx hb dX0_init_47 rfl (lv_at hl 0 rfl) ?_
  have hSo : s.heap.size ≤ _ := hS.1
  refine rr_new (ci := 2) (fs := [.int 0, .int 0, .int 0, .int 0, .int 0, .int 0, .int 0, .null]) (C := RX2) (T := TX2) (N := 8) hx hb hts iw_X2 tyX2 tyX2_ok hown (hts _ cl_X0_9) (hts _ ia_X2) (hts _ in_X2) hK.1 hS rfl (fun j hj => by rcases (show j = 0 ∨ j = 1 ∨ j = 2 ∨ j = 3 ∨ j = 4 ∨ j = 5 ∨ j = 6 ∨ j = 7 by omega) with rfl | rfl | rfl | rfl | rfl | rfl | rfl | rfl <;> rfl) (Nat.le_of_ble_eq_true rfl) (Nat.le_of_ble_eq_true rfl) dX0_init_48 (fun q_131 H hq hat hz ho hS => ?_)
  have hr_132 := hat
  have zq_131 := hT.fresh hq
  have neq_131_h0 : h0 ≠ q_131 := by have h9 := hr_19.lt; have h8 : h0 < _ := h9; omega
  have hr_19 := hr_19.kept (ho _ hr_19.lt)
  have neq_131_q_1 : q_1 ≠ q_131 := by have h9 := hr_129.lt; have h8 : q_1 < _ := h9; omega
  have hr_129 := hr_129.kept (ho _ hr_129.lt)
  have szq_131 : sz ≤ q_131 := by omega
  have hT := hT.kept ho
  refine lv_dup hx hb dX0_init_51 rfl ?_
  obtain ⟨sz_hs_133, hs_133⟩ : ∃ z, z = H.size := ⟨_, rfl⟩
  refine va_callv (rnIN (fun H => H.size = sz_hs_133 ∧ va_at (DG E) vwCl (q_131, .inr (2, [.int 0, .int 0, .int 0, .int 0, .int 0, .int 0, .int 0, .null])) H ∧ TH E (T0 E) G_123 [] H) (As := []) (rest := [.ref q_131, .int 10, .ref q_1]) ⟨hx, hb, hml, hown, hts⟩ (c_X2_init l E z0 G_123 q_131 sz_hs_133  zq_131 (by have h9 := hz0; have h8 := hz1; omega) (by have h9 := hS.1; have h8 := hz1; omega) ) ⟨va_cnB (host := RX9) 0 hts (gd1 co_X2_init rfl) rfl rfl rfl (hK.2.1 _ mn_X0_17 #[]) (hts _ in_X2) (by decide +kernel) ⟨Nat.le_of_ble_eq_true rfl, Nat.le_of_ble_eq_true rfl⟩, rfl, hts _ im_X2_init⟩ ⟨hs_133.symm, hr_132, hT⟩ (fun U hU hW => hK.go hW hS hAz hU) rfl rfl hl.1 rfl (lv_room (Nat.le_of_ble_eq_true rfl)) dX0_init_52 ⟨Nat.le_of_ble_eq_true rfl, Nat.le_of_ble_eq_true rfl⟩) hS (fun q _ h => h.elim (fun e => by rw [e]; exact (Or.inr szq_131)) (fun h => Or.inr (by have h9 := hS.1; omega))) (fun q h => h.elim (fun e => by rw [e]; exact (Or.inr szq_131)) (fun h => Or.inr (by have h9 := hS.1; omega))) (fun G_134 t H locs ht hvm hw hB hz hk hS => ?_)
  have hw_135 := hw
  rw [ht] at hB
  have lth0 : h0 < sz_hs_133 := by have h9 := hr_19.lt; have h8 : h0 < _ := h9; omega
  have hr_19 := hr_19.kept (hk _ hr_19.lt (fun h => h.elim neq_131_h0 (fun h => by omega)))
  have hG0 : G_134 h0 = 0 := gx_0 hw_135 hG0 neq_131_h0 lth0
  have ltq_1 : q_1 < sz_hs_133 := by have h9 := hr_129.lt; have h8 : q_1 < _ := h9; omega
  have hr_129 := hr_129.kept (hk _ hr_129.lt (fun h => h.elim neq_131_q_1 (fun h => by omega)))
  have zq_1 : G_134 q_1 = 0 := gx_0 hw_135 zq_1 neq_131_q_1 ltq_1
  have hf_3 := af_x hw_135 (by decide) hf_3
  have gp_136 : G_134 q_5 = 31 := gx_k hw_135 gp_125 (by decide)
  have gp_137 : G_134 q_12 = 31 := gx_k hw_135 gp_126 (by decide)
  have gq_138 : G_134 q_131 = 31 := hw_135.2
  have hE := hE.step hw_135 (by omega) (by have h9 := hS.1; omega)
  have hT : TH E (T0 E) G_134 [] H := hB
  obtain ⟨cs_139, ha_139, hg_139_0⟩ := tg_31 hT gq_138 nx_0
  refine rr_aast (D := DG E) hx hb hK.1 7 2 hr_129 hS (Or.inr szq_1) rfl ha_139 rfl (show vp_in (10) 24 from vp_in_iff.mpr ⟨by decide, by decide⟩) dX0_init_55 (fun H locs hn ho hz hS => ?_)
  have hr_140 : va_at (DG E) vwCl (q_1, .inl (E.2.2 7, 24, .inr (.inr (.inr (.inr (va_up (va_up (va_up (va_up (va_up (va_up (va_up (va_up (va_up (va_up (va_up (fun _ => none) 0 (some q_21)) 1 (some q_32)) 2 (some q_43)) 3 (some q_54)) 4 (some q_65)) 5 (some q_76)) 6 (some q_87)) 7 (some q_98)) 8 (some q_109)) 9 (some q_120)) 10 (some q_131))))))) H := hn
  have hf_3 := af_push hf_3 gq_138
  have hr_19 := hr_19.kept (ho _ neq_1_h0)
  have hT := hT.off zq_1 ho
  refine lv_iinc (v := 11) (lv' := [(1, .int 11), (0, .ref h0)]) hx hb dX0_init_56 hl (k := 0) rfl (by decide) (by decide) rfl (fun ls hl => ?_)
  refine lv_goto (tgt := 37) hx hb dX0_init_59 (by decide) ?_
  refine lv_iload_n hx hb dX0_init_37 rfl (lv_at hl 0 rfl) ?_
  refine lv_bipush (v := 24) hx hb dX0_init_38 (by decide) ?_
  refine lv_icmp_ge (tgt := 62) hx hb dX0_init_40 (by decide) (fun c_141 => absurd c_141 (by decide)) (fun c_141 => ?_)
  refine lv_aload_n hx hb dX0_init_43 rfl (lv_at hl 1 rfl) ?_
  refine va_get (D := DG E) (ci := 0) (v := .ref q_1) (C := RX0) (T := TX0) (N := 4) hx hb hts iw_X0 hown hK.1 (va_one hr_19) 0 rfl rfl 0 (by decide) (hts _ fl_X0_11) (fun _ h9 => h9) rfl dX0_init_44 ?_
  refine lv_iload_n hx hb dX0_init_47 rfl (lv_at hl 0 rfl) ?_
  have hSo : s.heap.size ≤ _ := hS.1
  refine rr_new (ci := 2) (fs := [.int 0, .int 0, .int 0, .int 0, .int 0, .int 0, .int 0, .null]) (C := RX2) (T := TX2) (N := 8) hx hb hts iw_X2 tyX2 tyX2_ok hown (hts _ cl_X0_9) (hts _ ia_X2) (hts _ in_X2) hK.1 hS rfl (fun j hj => by rcases (show j = 0 ∨ j = 1 ∨ j = 2 ∨ j = 3 ∨ j = 4 ∨ j = 5 ∨ j = 6 ∨ j = 7 by omega) with rfl | rfl | rfl | rfl | rfl | rfl | rfl | rfl <;> rfl) (Nat.le_of_ble_eq_true rfl) (Nat.le_of_ble_eq_true rfl) dX0_init_48 (fun q_142 H hq hat hz ho hS => ?_)
  have hr_143 := hat
  have zq_142 := hT.fresh hq
  have neq_142_h0 : h0 ≠ q_142 := by have h9 := hr_19.lt; have h8 : h0 < _ := h9; omega
  have hr_19 := hr_19.kept (ho _ hr_19.lt)
  have neq_142_q_1 : q_1 ≠ q_142 := by have h9 := hr_140.lt; have h8 : q_1 < _ := h9; omega
  have hr_140 := hr_140.kept (ho _ hr_140.lt)
  have szq_142 : sz ≤ q_142 := by omega
  have hT := hT.kept ho
  refine lv_dup hx hb dX0_init_51 rfl ?_
  obtain ⟨sz_hs_144, hs_144⟩ : ∃ z, z = H.size := ⟨_, rfl⟩
  refine va_callv (rnIN (fun H => H.size = sz_hs_144 ∧ va_at (DG E) vwCl (q_142, .inr (2, [.int 0, .int 0, .int 0, .int 0, .int 0, .int 0, .int 0, .null])) H ∧ TH E (T0 E) G_134 [] H) (As := []) (rest := [.ref q_142, .int 11, .ref q_1]) ⟨hx, hb, hml, hown, hts⟩ (c_X2_init l E z0 G_134 q_142 sz_hs_144  zq_142 (by have h9 := hz0; have h8 := hz1; omega) (by have h9 := hS.1; have h8 := hz1; omega) ) ⟨va_cnB (host := RX9) 0 hts (gd1 co_X2_init rfl) rfl rfl rfl (hK.2.1 _ mn_X0_17 #[]) (hts _ in_X2) (by decide +kernel) ⟨Nat.le_of_ble_eq_true rfl, Nat.le_of_ble_eq_true rfl⟩, rfl, hts _ im_X2_init⟩ ⟨hs_144.symm, hr_143, hT⟩ (fun U hU hW => hK.go hW hS hAz hU) rfl rfl hl.1 rfl (lv_room (Nat.le_of_ble_eq_true rfl)) dX0_init_52 ⟨Nat.le_of_ble_eq_true rfl, Nat.le_of_ble_eq_true rfl⟩) hS (fun q _ h => h.elim (fun e => by rw [e]; exact (Or.inr szq_142)) (fun h => Or.inr (by have h9 := hS.1; omega))) (fun q h => h.elim (fun e => by rw [e]; exact (Or.inr szq_142)) (fun h => Or.inr (by have h9 := hS.1; omega))) (fun G_145 t H locs ht hvm hw hB hz hk hS => ?_)
  have hw_146 := hw
  rw [ht] at hB
  have lth0 : h0 < sz_hs_144 := by have h9 := hr_19.lt; have h8 : h0 < _ := h9; omega
  have hr_19 := hr_19.kept (hk _ hr_19.lt (fun h => h.elim neq_142_h0 (fun h => by omega)))
  have hG0 : G_145 h0 = 0 := gx_0 hw_146 hG0 neq_142_h0 lth0
  have ltq_1 : q_1 < sz_hs_144 := by have h9 := hr_140.lt; have h8 : q_1 < _ := h9; omega
  have hr_140 := hr_140.kept (hk _ hr_140.lt (fun h => h.elim neq_142_q_1 (fun h => by omega)))
  have zq_1 : G_145 q_1 = 0 := gx_0 hw_146 zq_1 neq_142_q_1 ltq_1
  have hf_3 := af_x hw_146 (by decide) hf_3
  have gp_147 : G_145 q_5 = 31 := gx_k hw_146 gp_136 (by decide)
  have gp_148 : G_145 q_12 = 31 := gx_k hw_146 gp_137 (by decide)
  have gq_149 : G_145 q_142 = 31 := hw_146.2
  have hE := hE.step hw_146 (by omega) (by have h9 := hS.1; omega)
  have hT : TH E (T0 E) G_145 [] H := hB
  obtain ⟨cs_150, ha_150, hg_150_0⟩ := tg_31 hT gq_149 nx_0
  refine rr_aast (D := DG E) hx hb hK.1 7 2 hr_140 hS (Or.inr szq_1) rfl ha_150 rfl (show vp_in (11) 24 from vp_in_iff.mpr ⟨by decide, by decide⟩) dX0_init_55 (fun H locs hn ho hz hS => ?_)
  have hr_151 : va_at (DG E) vwCl (q_1, .inl (E.2.2 7, 24, .inr (.inr (.inr (.inr (va_up (va_up (va_up (va_up (va_up (va_up (va_up (va_up (va_up (va_up (va_up (va_up (fun _ => none) 0 (some q_21)) 1 (some q_32)) 2 (some q_43)) 3 (some q_54)) 4 (some q_65)) 5 (some q_76)) 6 (some q_87)) 7 (some q_98)) 8 (some q_109)) 9 (some q_120)) 10 (some q_131)) 11 (some q_142))))))) H := hn
  have hf_3 := af_push hf_3 gq_149
  have hr_19 := hr_19.kept (ho _ neq_1_h0)
  have hT := hT.off zq_1 ho
  refine lv_iinc (v := 12) (lv' := [(1, .int 12), (0, .ref h0)]) hx hb dX0_init_56 hl (k := 0) rfl (by decide) (by decide) rfl (fun ls hl => ?_)
  refine lv_goto (tgt := 37) hx hb dX0_init_59 (by decide) ?_
  refine lv_iload_n hx hb dX0_init_37 rfl (lv_at hl 0 rfl) ?_
  refine lv_bipush (v := 24) hx hb dX0_init_38 (by decide) ?_
  refine lv_icmp_ge (tgt := 62) hx hb dX0_init_40 (by decide) (fun c_152 => absurd c_152 (by decide)) (fun c_152 => ?_)
  refine lv_aload_n hx hb dX0_init_43 rfl (lv_at hl 1 rfl) ?_
  refine va_get (D := DG E) (ci := 0) (v := .ref q_1) (C := RX0) (T := TX0) (N := 4) hx hb hts iw_X0 hown hK.1 (va_one hr_19) 0 rfl rfl 0 (by decide) (hts _ fl_X0_11) (fun _ h9 => h9) rfl dX0_init_44 ?_
  refine lv_iload_n hx hb dX0_init_47 rfl (lv_at hl 0 rfl) ?_
  have hSo : s.heap.size ≤ _ := hS.1
  refine rr_new (ci := 2) (fs := [.int 0, .int 0, .int 0, .int 0, .int 0, .int 0, .int 0, .null]) (C := RX2) (T := TX2) (N := 8) hx hb hts iw_X2 tyX2 tyX2_ok hown (hts _ cl_X0_9) (hts _ ia_X2) (hts _ in_X2) hK.1 hS rfl (fun j hj => by rcases (show j = 0 ∨ j = 1 ∨ j = 2 ∨ j = 3 ∨ j = 4 ∨ j = 5 ∨ j = 6 ∨ j = 7 by omega) with rfl | rfl | rfl | rfl | rfl | rfl | rfl | rfl <;> rfl) (Nat.le_of_ble_eq_true rfl) (Nat.le_of_ble_eq_true rfl) dX0_init_48 (fun q_153 H hq hat hz ho hS => ?_)
  have hr_154 := hat
  have zq_153 := hT.fresh hq
  have neq_153_h0 : h0 ≠ q_153 := by have h9 := hr_19.lt; have h8 : h0 < _ := h9; omega
  have hr_19 := hr_19.kept (ho _ hr_19.lt)
  have neq_153_q_1 : q_1 ≠ q_153 := by have h9 := hr_151.lt; have h8 : q_1 < _ := h9; omega
  have hr_151 := hr_151.kept (ho _ hr_151.lt)
  have szq_153 : sz ≤ q_153 := by omega
  have hT := hT.kept ho
  refine lv_dup hx hb dX0_init_51 rfl ?_
  obtain ⟨sz_hs_155, hs_155⟩ : ∃ z, z = H.size := ⟨_, rfl⟩
  refine va_callv (rnIN (fun H => H.size = sz_hs_155 ∧ va_at (DG E) vwCl (q_153, .inr (2, [.int 0, .int 0, .int 0, .int 0, .int 0, .int 0, .int 0, .null])) H ∧ TH E (T0 E) G_145 [] H) (As := []) (rest := [.ref q_153, .int 12, .ref q_1]) ⟨hx, hb, hml, hown, hts⟩ (c_X2_init l E z0 G_145 q_153 sz_hs_155  zq_153 (by have h9 := hz0; have h8 := hz1; omega) (by have h9 := hS.1; have h8 := hz1; omega) ) ⟨va_cnB (host := RX9) 0 hts (gd1 co_X2_init rfl) rfl rfl rfl (hK.2.1 _ mn_X0_17 #[]) (hts _ in_X2) (by decide +kernel) ⟨Nat.le_of_ble_eq_true rfl, Nat.le_of_ble_eq_true rfl⟩, rfl, hts _ im_X2_init⟩ ⟨hs_155.symm, hr_154, hT⟩ (fun U hU hW => hK.go hW hS hAz hU) rfl rfl hl.1 rfl (lv_room (Nat.le_of_ble_eq_true rfl)) dX0_init_52 ⟨Nat.le_of_ble_eq_true rfl, Nat.le_of_ble_eq_true rfl⟩) hS (fun q _ h => h.elim (fun e => by rw [e]; exact (Or.inr szq_153)) (fun h => Or.inr (by have h9 := hS.1; omega))) (fun q h => h.elim (fun e => by rw [e]; exact (Or.inr szq_153)) (fun h => Or.inr (by have h9 := hS.1; omega))) (fun G_156 t H locs ht hvm hw hB hz hk hS => ?_)
  have hw_157 := hw
  rw [ht] at hB
  have lth0 : h0 < sz_hs_155 := by have h9 := hr_19.lt; have h8 : h0 < _ := h9; omega
  have hr_19 := hr_19.kept (hk _ hr_19.lt (fun h => h.elim neq_153_h0 (fun h => by omega)))
  have hG0 : G_156 h0 = 0 := gx_0 hw_157 hG0 neq_153_h0 lth0
  have ltq_1 : q_1 < sz_hs_155 := by have h9 := hr_151.lt; have h8 : q_1 < _ := h9; omega
  have hr_151 := hr_151.kept (hk _ hr_151.lt (fun h => h.elim neq_153_q_1 (fun h => by omega)))
  have zq_1 : G_156 q_1 = 0 := gx_0 hw_157 zq_1 neq_153_q_1 ltq_1
  have hf_3 := af_x hw_157 (by decide) hf_3
  have gp_158 : G_156 q_5 = 31 := gx_k hw_157 gp_147 (by decide)
  have gp_159 : G_156 q_12 = 31 := gx_k hw_157 gp_148 (by decide)
  have gq_160 : G_156 q_153 = 31 := hw_157.2
  have hE := hE.step hw_157 (by omega) (by have h9 := hS.1; omega)
  have hT : TH E (T0 E) G_156 [] H := hB
  obtain ⟨cs_161, ha_161, hg_161_0⟩ := tg_31 hT gq_160 nx_0
  refine rr_aast (D := DG E) hx hb hK.1 7 2 hr_151 hS (Or.inr szq_1) rfl ha_161 rfl (show vp_in (12) 24 from vp_in_iff.mpr ⟨by decide, by decide⟩) dX0_init_55 (fun H locs hn ho hz hS => ?_)
  have hr_162 : va_at (DG E) vwCl (q_1, .inl (E.2.2 7, 24, .inr (.inr (.inr (.inr (va_up (va_up (va_up (va_up (va_up (va_up (va_up (va_up (va_up (va_up (va_up (va_up (va_up (fun _ => none) 0 (some q_21)) 1 (some q_32)) 2 (some q_43)) 3 (some q_54)) 4 (some q_65)) 5 (some q_76)) 6 (some q_87)) 7 (some q_98)) 8 (some q_109)) 9 (some q_120)) 10 (some q_131)) 11 (some q_142)) 12 (some q_153))))))) H := hn
  have hf_3 := af_push hf_3 gq_160
  have hr_19 := hr_19.kept (ho _ neq_1_h0)
  have hT := hT.off zq_1 ho
  refine lv_iinc (v := 13) (lv' := [(1, .int 13), (0, .ref h0)]) hx hb dX0_init_56 hl (k := 0) rfl (by decide) (by decide) rfl (fun ls hl => ?_)
  refine lv_goto (tgt := 37) hx hb dX0_init_59 (by decide) ?_
  refine lv_iload_n hx hb dX0_init_37 rfl (lv_at hl 0 rfl) ?_
  refine lv_bipush (v := 24) hx hb dX0_init_38 (by decide) ?_
  refine lv_icmp_ge (tgt := 62) hx hb dX0_init_40 (by decide) (fun c_163 => absurd c_163 (by decide)) (fun c_163 => ?_)
  refine lv_aload_n hx hb dX0_init_43 rfl (lv_at hl 1 rfl) ?_
  refine va_get (D := DG E) (ci := 0) (v := .ref q_1) (C := RX0) (T := TX0) (N := 4) hx hb hts iw_X0 hown hK.1 (va_one hr_19) 0 rfl rfl 0 (by decide) (hts _ fl_X0_11) (fun _ h9 => h9) rfl dX0_init_44 ?_
  refine lv_iload_n hx hb dX0_init_47 rfl (lv_at hl 0 rfl) ?_
  have hSo : s.heap.size ≤ _ := hS.1
  refine rr_new (ci := 2) (fs := [.int 0, .int 0, .int 0, .int 0, .int 0, .int 0, .int 0, .null]) (C := RX2) (T := TX2) (N := 8) hx hb hts iw_X2 tyX2 tyX2_ok hown (hts _ cl_X0_9) (hts _ ia_X2) (hts _ in_X2) hK.1 hS rfl (fun j hj => by rcases (show j = 0 ∨ j = 1 ∨ j = 2 ∨ j = 3 ∨ j = 4 ∨ j = 5 ∨ j = 6 ∨ j = 7 by omega) with rfl | rfl | rfl | rfl | rfl | rfl | rfl | rfl <;> rfl) (Nat.le_of_ble_eq_true rfl) (Nat.le_of_ble_eq_true rfl) dX0_init_48 (fun q_164 H hq hat hz ho hS => ?_)
  have hr_165 := hat
  have zq_164 := hT.fresh hq
  have neq_164_h0 : h0 ≠ q_164 := by have h9 := hr_19.lt; have h8 : h0 < _ := h9; omega
  have hr_19 := hr_19.kept (ho _ hr_19.lt)
  have neq_164_q_1 : q_1 ≠ q_164 := by have h9 := hr_162.lt; have h8 : q_1 < _ := h9; omega
  have hr_162 := hr_162.kept (ho _ hr_162.lt)
  have szq_164 : sz ≤ q_164 := by omega
  have hT := hT.kept ho
  refine lv_dup hx hb dX0_init_51 rfl ?_
  obtain ⟨sz_hs_166, hs_166⟩ : ∃ z, z = H.size := ⟨_, rfl⟩
  refine va_callv (rnIN (fun H => H.size = sz_hs_166 ∧ va_at (DG E) vwCl (q_164, .inr (2, [.int 0, .int 0, .int 0, .int 0, .int 0, .int 0, .int 0, .null])) H ∧ TH E (T0 E) G_156 [] H) (As := []) (rest := [.ref q_164, .int 13, .ref q_1]) ⟨hx, hb, hml, hown, hts⟩ (c_X2_init l E z0 G_156 q_164 sz_hs_166  zq_164 (by have h9 := hz0; have h8 := hz1; omega) (by have h9 := hS.1; have h8 := hz1; omega) ) ⟨va_cnB (host := RX9) 0 hts (gd1 co_X2_init rfl) rfl rfl rfl (hK.2.1 _ mn_X0_17 #[]) (hts _ in_X2) (by decide +kernel) ⟨Nat.le_of_ble_eq_true rfl, Nat.le_of_ble_eq_true rfl⟩, rfl, hts _ im_X2_init⟩ ⟨hs_166.symm, hr_165, hT⟩ (fun U hU hW => hK.go hW hS hAz hU) rfl rfl hl.1 rfl (lv_room (Nat.le_of_ble_eq_true rfl)) dX0_init_52 ⟨Nat.le_of_ble_eq_true rfl, Nat.le_of_ble_eq_true rfl⟩) hS (fun q _ h => h.elim (fun e => by rw [e]; exact (Or.inr szq_164)) (fun h => Or.inr (by have h9 := hS.1; omega))) (fun q h => h.elim (fun e => by rw [e]; exact (Or.inr szq_164)) (fun h => Or.inr (by have h9 := hS.1; omega))) (fun G_167 t H locs ht hvm hw hB hz hk hS => ?_)
  have hw_168 := hw
  rw [ht] at hB
  have lth0 : h0 < sz_hs_166 := by have h9 := hr_19.lt; have h8 : h0 < _ := h9; omega
  have hr_19 := hr_19.kept (hk _ hr_19.lt (fun h => h.elim neq_164_h0 (fun h => by omega)))
  have hG0 : G_167 h0 = 0 := gx_0 hw_168 hG0 neq_164_h0 lth0
  have ltq_1 : q_1 < sz_hs_166 := by have h9 := hr_162.lt; have h8 : q_1 < _ := h9; omega
  have hr_162 := hr_162.kept (hk _ hr_162.lt (fun h => h.elim neq_164_q_1 (fun h => by omega)))
  have zq_1 : G_167 q_1 = 0 := gx_0 hw_168 zq_1 neq_164_q_1 ltq_1
  have hf_3 := af_x hw_168 (by decide) hf_3
  have gp_169 : G_167 q_5 = 31 := gx_k hw_168 gp_158 (by decide)
  have gp_170 : G_167 q_12 = 31 := gx_k hw_168 gp_159 (by decide)
  have gq_171 : G_167 q_164 = 31 := hw_168.2
  have hE := hE.step hw_168 (by omega) (by have h9 := hS.1; omega)
  have hT : TH E (T0 E) G_167 [] H := hB
  obtain ⟨cs_172, ha_172, hg_172_0⟩ := tg_31 hT gq_171 nx_0
  refine rr_aast (D := DG E) hx hb hK.1 7 2 hr_162 hS (Or.inr szq_1) rfl ha_172 rfl (show vp_in (13) 24 from vp_in_iff.mpr ⟨by decide, by decide⟩) dX0_init_55 (fun H locs hn ho hz hS => ?_)
  have hr_173 : va_at (DG E) vwCl (q_1, .inl (E.2.2 7, 24, .inr (.inr (.inr (.inr (va_up (va_up (va_up (va_up (va_up (va_up (va_up (va_up (va_up (va_up (va_up (va_up (va_up (va_up (fun _ => none) 0 (some q_21)) 1 (some q_32)) 2 (some q_43)) 3 (some q_54)) 4 (some q_65)) 5 (some q_76)) 6 (some q_87)) 7 (some q_98)) 8 (some q_109)) 9 (some q_120)) 10 (some q_131)) 11 (some q_142)) 12 (some q_153)) 13 (some q_164))))))) H := hn
  have hf_3 := af_push hf_3 gq_171
  have hr_19 := hr_19.kept (ho _ neq_1_h0)
  have hT := hT.off zq_1 ho
  refine lv_iinc (v := 14) (lv' := [(1, .int 14), (0, .ref h0)]) hx hb dX0_init_56 hl (k := 0) rfl (by decide) (by decide) rfl (fun ls hl => ?_)
  refine lv_goto (tgt := 37) hx hb dX0_init_59 (by decide) ?_
  refine lv_iload_n hx hb dX0_init_37 rfl (lv_at hl 0 rfl) ?_
  refine lv_bipush (v := 24) hx hb dX0_init_38 (by decide) ?_
  refine lv_icmp_ge (tgt := 62) hx hb dX0_init_40 (by decide) (fun c_174 => absurd c_174 (by decide)) (fun c_174 => ?_)
  refine lv_aload_n hx hb dX0_init_43 rfl (lv_at hl 1 rfl) ?_
  refine va_get (D := DG E) (ci := 0) (v := .ref q_1) (C := RX0) (T := TX0) (N := 4) hx hb hts iw_X0 hown hK.1 (va_one hr_19) 0 rfl rfl 0 (by decide) (hts _ fl_X0_11) (fun _ h9 => h9) rfl dX0_init_44 ?_
  refine lv_iload_n hx hb dX0_init_47 rfl (lv_at hl 0 rfl) ?_
  have hSo : s.heap.size ≤ _ := hS.1
  refine rr_new (ci := 2) (fs := [.int 0, .int 0, .int 0, .int 0, .int 0, .int 0, .int 0, .null]) (C := RX2) (T := TX2) (N := 8) hx hb hts iw_X2 tyX2 tyX2_ok hown (hts _ cl_X0_9) (hts _ ia_X2) (hts _ in_X2) hK.1 hS rfl (fun j hj => by rcases (show j = 0 ∨ j = 1 ∨ j = 2 ∨ j = 3 ∨ j = 4 ∨ j = 5 ∨ j = 6 ∨ j = 7 by omega) with rfl | rfl | rfl | rfl | rfl | rfl | rfl | rfl <;> rfl) (Nat.le_of_ble_eq_true rfl) (Nat.le_of_ble_eq_true rfl) dX0_init_48 (fun q_175 H hq hat hz ho hS => ?_)
  have hr_176 := hat
  have zq_175 := hT.fresh hq
  have neq_175_h0 : h0 ≠ q_175 := by have h9 := hr_19.lt; have h8 : h0 < _ := h9; omega
  have hr_19 := hr_19.kept (ho _ hr_19.lt)
  have neq_175_q_1 : q_1 ≠ q_175 := by have h9 := hr_173.lt; have h8 : q_1 < _ := h9; omega
  have hr_173 := hr_173.kept (ho _ hr_173.lt)
  have szq_175 : sz ≤ q_175 := by omega
  have hT := hT.kept ho
  refine lv_dup hx hb dX0_init_51 rfl ?_
  obtain ⟨sz_hs_177, hs_177⟩ : ∃ z, z = H.size := ⟨_, rfl⟩
  refine va_callv (rnIN (fun H => H.size = sz_hs_177 ∧ va_at (DG E) vwCl (q_175, .inr (2, [.int 0, .int 0, .int 0, .int 0, .int 0, .int 0, .int 0, .null])) H ∧ TH E (T0 E) G_167 [] H) (As := []) (rest := [.ref q_175, .int 14, .ref q_1]) ⟨hx, hb, hml, hown, hts⟩ (c_X2_init l E z0 G_167 q_175 sz_hs_177  zq_175 (by have h9 := hz0; have h8 := hz1; omega) (by have h9 := hS.1; have h8 := hz1; omega) ) ⟨va_cnB (host := RX9) 0 hts (gd1 co_X2_init rfl) rfl rfl rfl (hK.2.1 _ mn_X0_17 #[]) (hts _ in_X2) (by decide +kernel) ⟨Nat.le_of_ble_eq_true rfl, Nat.le_of_ble_eq_true rfl⟩, rfl, hts _ im_X2_init⟩ ⟨hs_177.symm, hr_176, hT⟩ (fun U hU hW => hK.go hW hS hAz hU) rfl rfl hl.1 rfl (lv_room (Nat.le_of_ble_eq_true rfl)) dX0_init_52 ⟨Nat.le_of_ble_eq_true rfl, Nat.le_of_ble_eq_true rfl⟩) hS (fun q _ h => h.elim (fun e => by rw [e]; exact (Or.inr szq_175)) (fun h => Or.inr (by have h9 := hS.1; omega))) (fun q h => h.elim (fun e => by rw [e]; exact (Or.inr szq_175)) (fun h => Or.inr (by have h9 := hS.1; omega))) (fun G_178 t H locs ht hvm hw hB hz hk hS => ?_)
  have hw_179 := hw
  rw [ht] at hB
  have lth0 : h0 < sz_hs_177 := by have h9 := hr_19.lt; have h8 : h0 < _ := h9; omega
  have hr_19 := hr_19.kept (hk _ hr_19.lt (fun h => h.elim neq_175_h0 (fun h => by omega)))
  have hG0 : G_178 h0 = 0 := gx_0 hw_179 hG0 neq_175_h0 lth0
  have ltq_1 : q_1 < sz_hs_177 := by have h9 := hr_173.lt; have h8 : q_1 < _ := h9; omega
  have hr_173 := hr_173.kept (hk _ hr_173.lt (fun h => h.elim neq_175_q_1 (fun h => by omega)))
  have zq_1 : G_178 q_1 = 0 := gx_0 hw_179 zq_1 neq_175_q_1 ltq_1
  have hf_3 := af_x hw_179 (by decide) hf_3
  have gp_180 : G_178 q_5 = 31 := gx_k hw_179 gp_169 (by decide)
  have gp_181 : G_178 q_12 = 31 := gx_k hw_179 gp_170 (by decide)
  have gq_182 : G_178 q_175 = 31 := hw_179.2
  have hE := hE.step hw_179 (by omega) (by have h9 := hS.1; omega)
  have hT : TH E (T0 E) G_178 [] H := hB
  obtain ⟨cs_183, ha_183, hg_183_0⟩ := tg_31 hT gq_182 nx_0
  refine rr_aast (D := DG E) hx hb hK.1 7 2 hr_173 hS (Or.inr szq_1) rfl ha_183 rfl (show vp_in (14) 24 from vp_in_iff.mpr ⟨by decide, by decide⟩) dX0_init_55 (fun H locs hn ho hz hS => ?_)
  have hr_184 : va_at (DG E) vwCl (q_1, .inl (E.2.2 7, 24, .inr (.inr (.inr (.inr (va_up (va_up (va_up (va_up (va_up (va_up (va_up (va_up (va_up (va_up (va_up (va_up (va_up (va_up (va_up (fun _ => none) 0 (some q_21)) 1 (some q_32)) 2 (some q_43)) 3 (some q_54)) 4 (some q_65)) 5 (some q_76)) 6 (some q_87)) 7 (some q_98)) 8 (some q_109)) 9 (some q_120)) 10 (some q_131)) 11 (some q_142)) 12 (some q_153)) 13 (some q_164)) 14 (some q_175))))))) H := hn
  have hf_3 := af_push hf_3 gq_182
  have hr_19 := hr_19.kept (ho _ neq_1_h0)
  have hT := hT.off zq_1 ho
  refine lv_iinc (v := 15) (lv' := [(1, .int 15), (0, .ref h0)]) hx hb dX0_init_56 hl (k := 0) rfl (by decide) (by decide) rfl (fun ls hl => ?_)
  refine lv_goto (tgt := 37) hx hb dX0_init_59 (by decide) ?_
  refine lv_iload_n hx hb dX0_init_37 rfl (lv_at hl 0 rfl) ?_
  refine lv_bipush (v := 24) hx hb dX0_init_38 (by decide) ?_
  refine lv_icmp_ge (tgt := 62) hx hb dX0_init_40 (by decide) (fun c_185 => absurd c_185 (by decide)) (fun c_185 => ?_)
  refine lv_aload_n hx hb dX0_init_43 rfl (lv_at hl 1 rfl) ?_
  refine va_get (D := DG E) (ci := 0) (v := .ref q_1) (C := RX0) (T := TX0) (N := 4) hx hb hts iw_X0 hown hK.1 (va_one hr_19) 0 rfl rfl 0 (by decide) (hts _ fl_X0_11) (fun _ h9 => h9) rfl dX0_init_44 ?_
  refine lv_iload_n hx hb dX0_init_47 rfl (lv_at hl 0 rfl) ?_
  have hSo : s.heap.size ≤ _ := hS.1
  refine rr_new (ci := 2) (fs := [.int 0, .int 0, .int 0, .int 0, .int 0, .int 0, .int 0, .null]) (C := RX2) (T := TX2) (N := 8) hx hb hts iw_X2 tyX2 tyX2_ok hown (hts _ cl_X0_9) (hts _ ia_X2) (hts _ in_X2) hK.1 hS rfl (fun j hj => by rcases (show j = 0 ∨ j = 1 ∨ j = 2 ∨ j = 3 ∨ j = 4 ∨ j = 5 ∨ j = 6 ∨ j = 7 by omega) with rfl | rfl | rfl | rfl | rfl | rfl | rfl | rfl <;> rfl) (Nat.le_of_ble_eq_true rfl) (Nat.le_of_ble_eq_true rfl) dX0_init_48 (fun q_186 H hq hat hz ho hS => ?_)
  have hr_187 := hat
  have zq_186 := hT.fresh hq
  have neq_186_h0 : h0 ≠ q_186 := by have h9 := hr_19.lt; have h8 : h0 < _ := h9; omega
  have hr_19 := hr_19.kept (ho _ hr_19.lt)
  have neq_186_q_1 : q_1 ≠ q_186 := by have h9 := hr_184.lt; have h8 : q_1 < _ := h9; omega
  have hr_184 := hr_184.kept (ho _ hr_184.lt)
  have szq_186 : sz ≤ q_186 := by omega
  have hT := hT.kept ho
  refine lv_dup hx hb dX0_init_51 rfl ?_
  obtain ⟨sz_hs_188, hs_188⟩ : ∃ z, z = H.size := ⟨_, rfl⟩
  refine va_callv (rnIN (fun H => H.size = sz_hs_188 ∧ va_at (DG E) vwCl (q_186, .inr (2, [.int 0, .int 0, .int 0, .int 0, .int 0, .int 0, .int 0, .null])) H ∧ TH E (T0 E) G_178 [] H) (As := []) (rest := [.ref q_186, .int 15, .ref q_1]) ⟨hx, hb, hml, hown, hts⟩ (c_X2_init l E z0 G_178 q_186 sz_hs_188  zq_186 (by have h9 := hz0; have h8 := hz1; omega) (by have h9 := hS.1; have h8 := hz1; omega) ) ⟨va_cnB (host := RX9) 0 hts (gd1 co_X2_init rfl) rfl rfl rfl (hK.2.1 _ mn_X0_17 #[]) (hts _ in_X2) (by decide +kernel) ⟨Nat.le_of_ble_eq_true rfl, Nat.le_of_ble_eq_true rfl⟩, rfl, hts _ im_X2_init⟩ ⟨hs_188.symm, hr_187, hT⟩ (fun U hU hW => hK.go hW hS hAz hU) rfl rfl hl.1 rfl (lv_room (Nat.le_of_ble_eq_true rfl)) dX0_init_52 ⟨Nat.le_of_ble_eq_true rfl, Nat.le_of_ble_eq_true rfl⟩) hS (fun q _ h => h.elim (fun e => by rw [e]; exact (Or.inr szq_186)) (fun h => Or.inr (by have h9 := hS.1; omega))) (fun q h => h.elim (fun e => by rw [e]; exact (Or.inr szq_186)) (fun h => Or.inr (by have h9 := hS.1; omega))) (fun G_189 t H locs ht hvm hw hB hz hk hS => ?_)
  have hw_190 := hw
  rw [ht] at hB
  have lth0 : h0 < sz_hs_188 := by have h9 := hr_19.lt; have h8 : h0 < _ := h9; omega
  have hr_19 := hr_19.kept (hk _ hr_19.lt (fun h => h.elim neq_186_h0 (fun h => by omega)))
  have hG0 : G_189 h0 = 0 := gx_0 hw_190 hG0 neq_186_h0 lth0
  have ltq_1 : q_1 < sz_hs_188 := by have h9 := hr_184.lt; have h8 : q_1 < _ := h9; omega
  have hr_184 := hr_184.kept (hk _ hr_184.lt (fun h => h.elim neq_186_q_1 (fun h => by omega)))
  have zq_1 : G_189 q_1 = 0 := gx_0 hw_190 zq_1 neq_186_q_1 ltq_1
  have hf_3 := af_x hw_190 (by decide) hf_3
  have gp_191 : G_189 q_5 = 31 := gx_k hw_190 gp_180 (by decide)
  have gp_192 : G_189 q_12 = 31 := gx_k hw_190 gp_181 (by decide)
  have gq_193 : G_189 q_186 = 31 := hw_190.2
  have hE := hE.step hw_190 (by omega) (by have h9 := hS.1; omega)
  have hT : TH E (T0 E) G_189 [] H := hB
  obtain ⟨cs_194, ha_194, hg_194_0⟩ := tg_31 hT gq_193 nx_0
  refine rr_aast (D := DG E) hx hb hK.1 7 2 hr_184 hS (Or.inr szq_1) rfl ha_194 rfl (show vp_in (15) 24 from vp_in_iff.mpr ⟨by decide, by decide⟩) dX0_init_55 (fun H locs hn ho hz hS => ?_)
  have hr_195 : va_at (DG E) vwCl (q_1, .inl (E.2.2 7, 24, .inr (.inr (.inr (.inr (va_up (va_up (va_up (va_up (va_up (va_up (va_up (va_up (va_up (va_up (va_up (va_up (va_up (va_up (va_up (va_up (fun _ => none) 0 (some q_21)) 1 (some q_32)) 2 (some q_43)) 3 (some q_54)) 4 (some q_65)) 5 (some q_76)) 6 (some q_87)) 7 (some q_98)) 8 (some q_109)) 9 (some q_120)) 10 (some q_131)) 11 (some q_142)) 12 (some q_153)) 13 (some q_164)) 14 (some q_175)) 15 (some q_186))))))) H := hn
  have hf_3 := af_push hf_3 gq_193
  have hr_19 := hr_19.kept (ho _ neq_1_h0)
  have hT := hT.off zq_1 ho
  refine lv_iinc (v := 16) (lv' := [(1, .int 16), (0, .ref h0)]) hx hb dX0_init_56 hl (k := 0) rfl (by decide) (by decide) rfl (fun ls hl => ?_)
  refine lv_goto (tgt := 37) hx hb dX0_init_59 (by decide) ?_
  refine lv_iload_n hx hb dX0_init_37 rfl (lv_at hl 0 rfl) ?_
  refine lv_bipush (v := 24) hx hb dX0_init_38 (by decide) ?_
  refine lv_icmp_ge (tgt := 62) hx hb dX0_init_40 (by decide) (fun c_196 => absurd c_196 (by decide)) (fun c_196 => ?_)
  refine lv_aload_n hx hb dX0_init_43 rfl (lv_at hl 1 rfl) ?_
  refine va_get (D := DG E) (ci := 0) (v := .ref q_1) (C := RX0) (T := TX0) (N := 4) hx hb hts iw_X0 hown hK.1 (va_one hr_19) 0 rfl rfl 0 (by decide) (hts _ fl_X0_11) (fun _ h9 => h9) rfl dX0_init_44 ?_
  refine lv_iload_n hx hb dX0_init_47 rfl (lv_at hl 0 rfl) ?_
  have hSo : s.heap.size ≤ _ := hS.1
  refine rr_new (ci := 2) (fs := [.int 0, .int 0, .int 0, .int 0, .int 0, .int 0, .int 0, .null]) (C := RX2) (T := TX2) (N := 8) hx hb hts iw_X2 tyX2 tyX2_ok hown (hts _ cl_X0_9) (hts _ ia_X2) (hts _ in_X2) hK.1 hS rfl (fun j hj => by rcases (show j = 0 ∨ j = 1 ∨ j = 2 ∨ j = 3 ∨ j = 4 ∨ j = 5 ∨ j = 6 ∨ j = 7 by omega) with rfl | rfl | rfl | rfl | rfl | rfl | rfl | rfl <;> rfl) (Nat.le_of_ble_eq_true rfl) (Nat.le_of_ble_eq_true rfl) dX0_init_48 (fun q_197 H hq hat hz ho hS => ?_)
  have hr_198 := hat
  have zq_197 := hT.fresh hq
  have neq_197_h0 : h0 ≠ q_197 := by have h9 := hr_19.lt; have h8 : h0 < _ := h9; omega
  have hr_19 := hr_19.kept (ho _ hr_19.lt)
  have neq_197_q_1 : q_1 ≠ q_197 := by have h9 := hr_195.lt; have h8 : q_1 < _ := h9; omega
  have hr_195 := hr_195.kept (ho _ hr_195.lt)
  have szq_197 : sz ≤ q_197 := by omega
  have hT := hT.kept ho
  refine lv_dup hx hb dX0_init_51 rfl ?_
  obtain ⟨sz_hs_199, hs_199⟩ : ∃ z, z = H.size := ⟨_, rfl⟩
  refine va_callv (rnIN (fun H => H.size = sz_hs_199 ∧ va_at (DG E) vwCl (q_197, .inr (2, [.int 0, .int 0, .int 0, .int 0, .int 0, .int 0, .int 0, .null])) H ∧ TH E (T0 E) G_189 [] H) (As := []) (rest := [.ref q_197, .int 16, .ref q_1]) ⟨hx, hb, hml, hown, hts⟩ (c_X2_init l E z0 G_189 q_197 sz_hs_199  zq_197 (by have h9 := hz0; have h8 := hz1; omega) (by have h9 := hS.1; have h8 := hz1; omega) ) ⟨va_cnB (host := RX9) 0 hts (gd1 co_X2_init rfl) rfl rfl rfl (hK.2.1 _ mn_X0_17 #[]) (hts _ in_X2) (by decide +kernel) ⟨Nat.le_of_ble_eq_true rfl, Nat.le_of_ble_eq_true rfl⟩, rfl, hts _ im_X2_init⟩ ⟨hs_199.symm, hr_198, hT⟩ (fun U hU hW => hK.go hW hS hAz hU) rfl rfl hl.1 rfl (lv_room (Nat.le_of_ble_eq_true rfl)) dX0_init_52 ⟨Nat.le_of_ble_eq_true rfl, Nat.le_of_ble_eq_true rfl⟩) hS (fun q _ h => h.elim (fun e => by rw [e]; exact (Or.inr szq_197)) (fun h => Or.inr (by have h9 := hS.1; omega))) (fun q h => h.elim (fun e => by rw [e]; exact (Or.inr szq_197)) (fun h => Or.inr (by have h9 := hS.1; omega))) (fun G_200 t H locs ht hvm hw hB hz hk hS => ?_)
  have hw_201 := hw
  rw [ht] at hB
  have lth0 : h0 < sz_hs_199 := by have h9 := hr_19.lt; have h8 : h0 < _ := h9; omega
  have hr_19 := hr_19.kept (hk _ hr_19.lt (fun h => h.elim neq_197_h0 (fun h => by omega)))
  have hG0 : G_200 h0 = 0 := gx_0 hw_201 hG0 neq_197_h0 lth0
  have ltq_1 : q_1 < sz_hs_199 := by have h9 := hr_195.lt; have h8 : q_1 < _ := h9; omega
  have hr_195 := hr_195.kept (hk _ hr_195.lt (fun h => h.elim neq_197_q_1 (fun h => by omega)))
  have zq_1 : G_200 q_1 = 0 := gx_0 hw_201 zq_1 neq_197_q_1 ltq_1
  have hf_3 := af_x hw_201 (by decide) hf_3
  have gp_202 : G_200 q_5 = 31 := gx_k hw_201 gp_191 (by decide)
  have gp_203 : G_200 q_12 = 31 := gx_k hw_201 gp_192 (by decide)
  have gq_204 : G_200 q_197 = 31 := hw_201.2
  have hE := hE.step hw_201 (by omega) (by have h9 := hS.1; omega)
  have hT : TH E (T0 E) G_200 [] H := hB
  obtain ⟨cs_205, ha_205, hg_205_0⟩ := tg_31 hT gq_204 nx_0
  refine rr_aast (D := DG E) hx hb hK.1 7 2 hr_195 hS (Or.inr szq_1) rfl ha_205 rfl (show vp_in (16) 24 from vp_in_iff.mpr ⟨by decide, by decide⟩) dX0_init_55 (fun H locs hn ho hz hS => ?_)
  have hr_206 : va_at (DG E) vwCl (q_1, .inl (E.2.2 7, 24, .inr (.inr (.inr (.inr (va_up (va_up (va_up (va_up (va_up (va_up (va_up (va_up (va_up (va_up (va_up (va_up (va_up (va_up (va_up (va_up (va_up (fun _ => none) 0 (some q_21)) 1 (some q_32)) 2 (some q_43)) 3 (some q_54)) 4 (some q_65)) 5 (some q_76)) 6 (some q_87)) 7 (some q_98)) 8 (some q_109)) 9 (some q_120)) 10 (some q_131)) 11 (some q_142)) 12 (some q_153)) 13 (some q_164)) 14 (some q_175)) 15 (some q_186)) 16 (some q_197))))))) H := hn
  have hf_3 := af_push hf_3 gq_204
  have hr_19 := hr_19.kept (ho _ neq_1_h0)
  have hT := hT.off zq_1 ho
  refine lv_iinc (v := 17) (lv' := [(1, .int 17), (0, .ref h0)]) hx hb dX0_init_56 hl (k := 0) rfl (by decide) (by decide) rfl (fun ls hl => ?_)
  refine lv_goto (tgt := 37) hx hb dX0_init_59 (by decide) ?_
  refine lv_iload_n hx hb dX0_init_37 rfl (lv_at hl 0 rfl) ?_
  refine lv_bipush (v := 24) hx hb dX0_init_38 (by decide) ?_
  refine lv_icmp_ge (tgt := 62) hx hb dX0_init_40 (by decide) (fun c_207 => absurd c_207 (by decide)) (fun c_207 => ?_)
  refine lv_aload_n hx hb dX0_init_43 rfl (lv_at hl 1 rfl) ?_
  refine va_get (D := DG E) (ci := 0) (v := .ref q_1) (C := RX0) (T := TX0) (N := 4) hx hb hts iw_X0 hown hK.1 (va_one hr_19) 0 rfl rfl 0 (by decide) (hts _ fl_X0_11) (fun _ h9 => h9) rfl dX0_init_44 ?_
  refine lv_iload_n hx hb dX0_init_47 rfl (lv_at hl 0 rfl) ?_
  have hSo : s.heap.size ≤ _ := hS.1
  refine rr_new (ci := 2) (fs := [.int 0, .int 0, .int 0, .int 0, .int 0, .int 0, .int 0, .null]) (C := RX2) (T := TX2) (N := 8) hx hb hts iw_X2 tyX2 tyX2_ok hown (hts _ cl_X0_9) (hts _ ia_X2) (hts _ in_X2) hK.1 hS rfl (fun j hj => by rcases (show j = 0 ∨ j = 1 ∨ j = 2 ∨ j = 3 ∨ j = 4 ∨ j = 5 ∨ j = 6 ∨ j = 7 by omega) with rfl | rfl | rfl | rfl | rfl | rfl | rfl | rfl <;> rfl) (Nat.le_of_ble_eq_true rfl) (Nat.le_of_ble_eq_true rfl) dX0_init_48 (fun q_208 H hq hat hz ho hS => ?_)
  have hr_209 := hat
  have zq_208 := hT.fresh hq
  have neq_208_h0 : h0 ≠ q_208 := by have h9 := hr_19.lt; have h8 : h0 < _ := h9; omega
  have hr_19 := hr_19.kept (ho _ hr_19.lt)
  have neq_208_q_1 : q_1 ≠ q_208 := by have h9 := hr_206.lt; have h8 : q_1 < _ := h9; omega
  have hr_206 := hr_206.kept (ho _ hr_206.lt)
  have szq_208 : sz ≤ q_208 := by omega
  have hT := hT.kept ho
  refine lv_dup hx hb dX0_init_51 rfl ?_
  obtain ⟨sz_hs_210, hs_210⟩ : ∃ z, z = H.size := ⟨_, rfl⟩
  refine va_callv (rnIN (fun H => H.size = sz_hs_210 ∧ va_at (DG E) vwCl (q_208, .inr (2, [.int 0, .int 0, .int 0, .int 0, .int 0, .int 0, .int 0, .null])) H ∧ TH E (T0 E) G_200 [] H) (As := []) (rest := [.ref q_208, .int 17, .ref q_1]) ⟨hx, hb, hml, hown, hts⟩ (c_X2_init l E z0 G_200 q_208 sz_hs_210  zq_208 (by have h9 := hz0; have h8 := hz1; omega) (by have h9 := hS.1; have h8 := hz1; omega) ) ⟨va_cnB (host := RX9) 0 hts (gd1 co_X2_init rfl) rfl rfl rfl (hK.2.1 _ mn_X0_17 #[]) (hts _ in_X2) (by decide +kernel) ⟨Nat.le_of_ble_eq_true rfl, Nat.le_of_ble_eq_true rfl⟩, rfl, hts _ im_X2_init⟩ ⟨hs_210.symm, hr_209, hT⟩ (fun U hU hW => hK.go hW hS hAz hU) rfl rfl hl.1 rfl (lv_room (Nat.le_of_ble_eq_true rfl)) dX0_init_52 ⟨Nat.le_of_ble_eq_true rfl, Nat.le_of_ble_eq_true rfl⟩) hS (fun q _ h => h.elim (fun e => by rw [e]; exact (Or.inr szq_208)) (fun h => Or.inr (by have h9 := hS.1; omega))) (fun q h => h.elim (fun e => by rw [e]; exact (Or.inr szq_208)) (fun h => Or.inr (by have h9 := hS.1; omega))) (fun G_211 t H locs ht hvm hw hB hz hk hS => ?_)
  have hw_212 := hw
  rw [ht] at hB
  have lth0 : h0 < sz_hs_210 := by have h9 := hr_19.lt; have h8 : h0 < _ := h9; omega
  have hr_19 := hr_19.kept (hk _ hr_19.lt (fun h => h.elim neq_208_h0 (fun h => by omega)))
  have hG0 : G_211 h0 = 0 := gx_0 hw_212 hG0 neq_208_h0 lth0
  have ltq_1 : q_1 < sz_hs_210 := by have h9 := hr_206.lt; have h8 : q_1 < _ := h9; omega
  have hr_206 := hr_206.kept (hk _ hr_206.lt (fun h => h.elim neq_208_q_1 (fun h => by omega)))
  have zq_1 : G_211 q_1 = 0 := gx_0 hw_212 zq_1 neq_208_q_1 ltq_1
  have hf_3 := af_x hw_212 (by decide) hf_3
  have gp_213 : G_211 q_5 = 31 := gx_k hw_212 gp_202 (by decide)
  have gp_214 : G_211 q_12 = 31 := gx_k hw_212 gp_203 (by decide)
  have gq_215 : G_211 q_208 = 31 := hw_212.2
  have hE := hE.step hw_212 (by omega) (by have h9 := hS.1; omega)
  have hT : TH E (T0 E) G_211 [] H := hB
  obtain ⟨cs_216, ha_216, hg_216_0⟩ := tg_31 hT gq_215 nx_0
  refine rr_aast (D := DG E) hx hb hK.1 7 2 hr_206 hS (Or.inr szq_1) rfl ha_216 rfl (show vp_in (17) 24 from vp_in_iff.mpr ⟨by decide, by decide⟩) dX0_init_55 (fun H locs hn ho hz hS => ?_)
  have hr_217 : va_at (DG E) vwCl (q_1, .inl (E.2.2 7, 24, .inr (.inr (.inr (.inr (va_up (va_up (va_up (va_up (va_up (va_up (va_up (va_up (va_up (va_up (va_up (va_up (va_up (va_up (va_up (va_up (va_up (va_up (fun _ => none) 0 (some q_21)) 1 (some q_32)) 2 (some q_43)) 3 (some q_54)) 4 (some q_65)) 5 (some q_76)) 6 (some q_87)) 7 (some q_98)) 8 (some q_109)) 9 (some q_120)) 10 (some q_131)) 11 (some q_142)) 12 (some q_153)) 13 (some q_164)) 14 (some q_175)) 15 (some q_186)) 16 (some q_197)) 17 (some q_208))))))) H := hn
  have hf_3 := af_push hf_3 gq_215
  have hr_19 := hr_19.kept (ho _ neq_1_h0)
  have hT := hT.off zq_1 ho
  refine lv_iinc (v := 18) (lv' := [(1, .int 18), (0, .ref h0)]) hx hb dX0_init_56 hl (k := 0) rfl (by decide) (by decide) rfl (fun ls hl => ?_)
  refine lv_goto (tgt := 37) hx hb dX0_init_59 (by decide) ?_
  refine lv_iload_n hx hb dX0_init_37 rfl (lv_at hl 0 rfl) ?_
  refine lv_bipush (v := 24) hx hb dX0_init_38 (by decide) ?_
  refine lv_icmp_ge (tgt := 62) hx hb dX0_init_40 (by decide) (fun c_218 => absurd c_218 (by decide)) (fun c_218 => ?_)
  refine lv_aload_n hx hb dX0_init_43 rfl (lv_at hl 1 rfl) ?_
  refine va_get (D := DG E) (ci := 0) (v := .ref q_1) (C := RX0) (T := TX0) (N := 4) hx hb hts iw_X0 hown hK.1 (va_one hr_19) 0 rfl rfl 0 (by decide) (hts _ fl_X0_11) (fun _ h9 => h9) rfl dX0_init_44 ?_
  refine lv_iload_n hx hb dX0_init_47 rfl (lv_at hl 0 rfl) ?_
  have hSo : s.heap.size ≤ _ := hS.1
  refine rr_new (ci := 2) (fs := [.int 0, .int 0, .int 0, .int 0, .int 0, .int 0, .int 0, .null]) (C := RX2) (T := TX2) (N := 8) hx hb hts iw_X2 tyX2 tyX2_ok hown (hts _ cl_X0_9) (hts _ ia_X2) (hts _ in_X2) hK.1 hS rfl (fun j hj => by rcases (show j = 0 ∨ j = 1 ∨ j = 2 ∨ j = 3 ∨ j = 4 ∨ j = 5 ∨ j = 6 ∨ j = 7 by omega) with rfl | rfl | rfl | rfl | rfl | rfl | rfl | rfl <;> rfl) (Nat.le_of_ble_eq_true rfl) (Nat.le_of_ble_eq_true rfl) dX0_init_48 (fun q_219 H hq hat hz ho hS => ?_)
  have hr_220 := hat
  have zq_219 := hT.fresh hq
  have neq_219_h0 : h0 ≠ q_219 := by have h9 := hr_19.lt; have h8 : h0 < _ := h9; omega
  have hr_19 := hr_19.kept (ho _ hr_19.lt)
  have neq_219_q_1 : q_1 ≠ q_219 := by have h9 := hr_217.lt; have h8 : q_1 < _ := h9; omega
  have hr_217 := hr_217.kept (ho _ hr_217.lt)
  have szq_219 : sz ≤ q_219 := by omega
  have hT := hT.kept ho
  refine lv_dup hx hb dX0_init_51 rfl ?_
  obtain ⟨sz_hs_221, hs_221⟩ : ∃ z, z = H.size := ⟨_, rfl⟩
  refine va_callv (rnIN (fun H => H.size = sz_hs_221 ∧ va_at (DG E) vwCl (q_219, .inr (2, [.int 0, .int 0, .int 0, .int 0, .int 0, .int 0, .int 0, .null])) H ∧ TH E (T0 E) G_211 [] H) (As := []) (rest := [.ref q_219, .int 18, .ref q_1]) ⟨hx, hb, hml, hown, hts⟩ (c_X2_init l E z0 G_211 q_219 sz_hs_221  zq_219 (by have h9 := hz0; have h8 := hz1; omega) (by have h9 := hS.1; have h8 := hz1; omega) ) ⟨va_cnB (host := RX9) 0 hts (gd1 co_X2_init rfl) rfl rfl rfl (hK.2.1 _ mn_X0_17 #[]) (hts _ in_X2) (by decide +kernel) ⟨Nat.le_of_ble_eq_true rfl, Nat.le_of_ble_eq_true rfl⟩, rfl, hts _ im_X2_init⟩ ⟨hs_221.symm, hr_220, hT⟩ (fun U hU hW => hK.go hW hS hAz hU) rfl rfl hl.1 rfl (lv_room (Nat.le_of_ble_eq_true rfl)) dX0_init_52 ⟨Nat.le_of_ble_eq_true rfl, Nat.le_of_ble_eq_true rfl⟩) hS (fun q _ h => h.elim (fun e => by rw [e]; exact (Or.inr szq_219)) (fun h => Or.inr (by have h9 := hS.1; omega))) (fun q h => h.elim (fun e => by rw [e]; exact (Or.inr szq_219)) (fun h => Or.inr (by have h9 := hS.1; omega))) (fun G_222 t H locs ht hvm hw hB hz hk hS => ?_)
  have hw_223 := hw
  rw [ht] at hB
  have lth0 : h0 < sz_hs_221 := by have h9 := hr_19.lt; have h8 : h0 < _ := h9; omega
  have hr_19 := hr_19.kept (hk _ hr_19.lt (fun h => h.elim neq_219_h0 (fun h => by omega)))
  have hG0 : G_222 h0 = 0 := gx_0 hw_223 hG0 neq_219_h0 lth0
  have ltq_1 : q_1 < sz_hs_221 := by have h9 := hr_217.lt; have h8 : q_1 < _ := h9; omega
  have hr_217 := hr_217.kept (hk _ hr_217.lt (fun h => h.elim neq_219_q_1 (fun h => by omega)))
  have zq_1 : G_222 q_1 = 0 := gx_0 hw_223 zq_1 neq_219_q_1 ltq_1
  have hf_3 := af_x hw_223 (by decide) hf_3
  have gp_224 : G_222 q_5 = 31 := gx_k hw_223 gp_213 (by decide)
  have gp_225 : G_222 q_12 = 31 := gx_k hw_223 gp_214 (by decide)
  have gq_226 : G_222 q_219 = 31 := hw_223.2
  have hE := hE.step hw_223 (by omega) (by have h9 := hS.1; omega)
  have hT : TH E (T0 E) G_222 [] H := hB
  obtain ⟨cs_227, ha_227, hg_227_0⟩ := tg_31 hT gq_226 nx_0
  refine rr_aast (D := DG E) hx hb hK.1 7 2 hr_217 hS (Or.inr szq_1) rfl ha_227 rfl (show vp_in (18) 24 from vp_in_iff.mpr ⟨by decide, by decide⟩) dX0_init_55 (fun H locs hn ho hz hS => ?_)
  have hr_228 : va_at (DG E) vwCl (q_1, .inl (E.2.2 7, 24, .inr (.inr (.inr (.inr (va_up (va_up (va_up (va_up (va_up (va_up (va_up (va_up (va_up (va_up (va_up (va_up (va_up (va_up (va_up (va_up (va_up (va_up (va_up (fun _ => none) 0 (some q_21)) 1 (some q_32)) 2 (some q_43)) 3 (some q_54)) 4 (some q_65)) 5 (some q_76)) 6 (some q_87)) 7 (some q_98)) 8 (some q_109)) 9 (some q_120)) 10 (some q_131)) 11 (some q_142)) 12 (some q_153)) 13 (some q_164)) 14 (some q_175)) 15 (some q_186)) 16 (some q_197)) 17 (some q_208)) 18 (some q_219))))))) H := hn
  have hf_3 := af_push hf_3 gq_226
  have hr_19 := hr_19.kept (ho _ neq_1_h0)
  have hT := hT.off zq_1 ho
  refine lv_iinc (v := 19) (lv' := [(1, .int 19), (0, .ref h0)]) hx hb dX0_init_56 hl (k := 0) rfl (by decide) (by decide) rfl (fun ls hl => ?_)
  refine lv_goto (tgt := 37) hx hb dX0_init_59 (by decide) ?_
  refine lv_iload_n hx hb dX0_init_37 rfl (lv_at hl 0 rfl) ?_
  refine lv_bipush (v := 24) hx hb dX0_init_38 (by decide) ?_
  refine lv_icmp_ge (tgt := 62) hx hb dX0_init_40 (by decide) (fun c_229 => absurd c_229 (by decide)) (fun c_229 => ?_)
  refine lv_aload_n hx hb dX0_init_43 rfl (lv_at hl 1 rfl) ?_
  refine va_get (D := DG E) (ci := 0) (v := .ref q_1) (C := RX0) (T := TX0) (N := 4) hx hb hts iw_X0 hown hK.1 (va_one hr_19) 0 rfl rfl 0 (by decide) (hts _ fl_X0_11) (fun _ h9 => h9) rfl dX0_init_44 ?_
  refine lv_iload_n hx hb dX0_init_47 rfl (lv_at hl 0 rfl) ?_
  have hSo : s.heap.size ≤ _ := hS.1
  refine rr_new (ci := 2) (fs := [.int 0, .int 0, .int 0, .int 0, .int 0, .int 0, .int 0, .null]) (C := RX2) (T := TX2) (N := 8) hx hb hts iw_X2 tyX2 tyX2_ok hown (hts _ cl_X0_9) (hts _ ia_X2) (hts _ in_X2) hK.1 hS rfl (fun j hj => by rcases (show j = 0 ∨ j = 1 ∨ j = 2 ∨ j = 3 ∨ j = 4 ∨ j = 5 ∨ j = 6 ∨ j = 7 by omega) with rfl | rfl | rfl | rfl | rfl | rfl | rfl | rfl <;> rfl) (Nat.le_of_ble_eq_true rfl) (Nat.le_of_ble_eq_true rfl) dX0_init_48 (fun q_230 H hq hat hz ho hS => ?_)
  have hr_231 := hat
  have zq_230 := hT.fresh hq
  have neq_230_h0 : h0 ≠ q_230 := by have h9 := hr_19.lt; have h8 : h0 < _ := h9; omega
  have hr_19 := hr_19.kept (ho _ hr_19.lt)
  have neq_230_q_1 : q_1 ≠ q_230 := by have h9 := hr_228.lt; have h8 : q_1 < _ := h9; omega
  have hr_228 := hr_228.kept (ho _ hr_228.lt)
  have szq_230 : sz ≤ q_230 := by omega
  have hT := hT.kept ho
  refine lv_dup hx hb dX0_init_51 rfl ?_
  obtain ⟨sz_hs_232, hs_232⟩ : ∃ z, z = H.size := ⟨_, rfl⟩
  refine va_callv (rnIN (fun H => H.size = sz_hs_232 ∧ va_at (DG E) vwCl (q_230, .inr (2, [.int 0, .int 0, .int 0, .int 0, .int 0, .int 0, .int 0, .null])) H ∧ TH E (T0 E) G_222 [] H) (As := []) (rest := [.ref q_230, .int 19, .ref q_1]) ⟨hx, hb, hml, hown, hts⟩ (c_X2_init l E z0 G_222 q_230 sz_hs_232  zq_230 (by have h9 := hz0; have h8 := hz1; omega) (by have h9 := hS.1; have h8 := hz1; omega) ) ⟨va_cnB (host := RX9) 0 hts (gd1 co_X2_init rfl) rfl rfl rfl (hK.2.1 _ mn_X0_17 #[]) (hts _ in_X2) (by decide +kernel) ⟨Nat.le_of_ble_eq_true rfl, Nat.le_of_ble_eq_true rfl⟩, rfl, hts _ im_X2_init⟩ ⟨hs_232.symm, hr_231, hT⟩ (fun U hU hW => hK.go hW hS hAz hU) rfl rfl hl.1 rfl (lv_room (Nat.le_of_ble_eq_true rfl)) dX0_init_52 ⟨Nat.le_of_ble_eq_true rfl, Nat.le_of_ble_eq_true rfl⟩) hS (fun q _ h => h.elim (fun e => by rw [e]; exact (Or.inr szq_230)) (fun h => Or.inr (by have h9 := hS.1; omega))) (fun q h => h.elim (fun e => by rw [e]; exact (Or.inr szq_230)) (fun h => Or.inr (by have h9 := hS.1; omega))) (fun G_233 t H locs ht hvm hw hB hz hk hS => ?_)
  have hw_234 := hw
  rw [ht] at hB
  have lth0 : h0 < sz_hs_232 := by have h9 := hr_19.lt; have h8 : h0 < _ := h9; omega
  have hr_19 := hr_19.kept (hk _ hr_19.lt (fun h => h.elim neq_230_h0 (fun h => by omega)))
  have hG0 : G_233 h0 = 0 := gx_0 hw_234 hG0 neq_230_h0 lth0
  have ltq_1 : q_1 < sz_hs_232 := by have h9 := hr_228.lt; have h8 : q_1 < _ := h9; omega
  have hr_228 := hr_228.kept (hk _ hr_228.lt (fun h => h.elim neq_230_q_1 (fun h => by omega)))
  have zq_1 : G_233 q_1 = 0 := gx_0 hw_234 zq_1 neq_230_q_1 ltq_1
  have hf_3 := af_x hw_234 (by decide) hf_3
  have gp_235 : G_233 q_5 = 31 := gx_k hw_234 gp_224 (by decide)
  have gp_236 : G_233 q_12 = 31 := gx_k hw_234 gp_225 (by decide)
  have gq_237 : G_233 q_230 = 31 := hw_234.2
  have hE := hE.step hw_234 (by omega) (by have h9 := hS.1; omega)
  have hT : TH E (T0 E) G_233 [] H := hB
  obtain ⟨cs_238, ha_238, hg_238_0⟩ := tg_31 hT gq_237 nx_0
  refine rr_aast (D := DG E) hx hb hK.1 7 2 hr_228 hS (Or.inr szq_1) rfl ha_238 rfl (show vp_in (19) 24 from vp_in_iff.mpr ⟨by decide, by decide⟩) dX0_init_55 (fun H locs hn ho hz hS => ?_)
  have hr_239 : va_at (DG E) vwCl (q_1, .inl (E.2.2 7, 24, .inr (.inr (.inr (.inr (va_up (va_up (va_up (va_up (va_up (va_up (va_up (va_up (va_up (va_up (va_up (va_up (va_up (va_up (va_up (va_up (va_up (va_up (va_up (va_up (fun _ => none) 0 (some q_21)) 1 (some q_32)) 2 (some q_43)) 3 (some q_54)) 4 (some q_65)) 5 (some q_76)) 6 (some q_87)) 7 (some q_98)) 8 (some q_109)) 9 (some q_120)) 10 (some q_131)) 11 (some q_142)) 12 (some q_153)) 13 (some q_164)) 14 (some q_175)) 15 (some q_186)) 16 (some q_197)) 17 (some q_208)) 18 (some q_219)) 19 (some q_230))))))) H := hn
  have hf_3 := af_push hf_3 gq_237
  have hr_19 := hr_19.kept (ho _ neq_1_h0)
  have hT := hT.off zq_1 ho
  refine lv_iinc (v := 20) (lv' := [(1, .int 20), (0, .ref h0)]) hx hb dX0_init_56 hl (k := 0) rfl (by decide) (by decide) rfl (fun ls hl => ?_)
  refine lv_goto (tgt := 37) hx hb dX0_init_59 (by decide) ?_
  refine lv_iload_n hx hb dX0_init_37 rfl (lv_at hl 0 rfl) ?_
  refine lv_bipush (v := 24) hx hb dX0_init_38 (by decide) ?_
  refine lv_icmp_ge (tgt := 62) hx hb dX0_init_40 (by decide) (fun c_240 => absurd c_240 (by decide)) (fun c_240 => ?_)
  refine lv_aload_n hx hb dX0_init_43 rfl (lv_at hl 1 rfl) ?_
  refine va_get (D := DG E) (ci := 0) (v := .ref q_1) (C := RX0) (T := TX0) (N := 4) hx hb hts iw_X0 hown hK.1 (va_one hr_19) 0 rfl rfl 0 (by decide) (hts _ fl_X0_11) (fun _ h9 => h9) rfl dX0_init_44 ?_
  refine lv_iload_n hx hb dX0_init_47 rfl (lv_at hl 0 rfl) ?_
  have hSo : s.heap.size ≤ _ := hS.1
  refine rr_new (ci := 2) (fs := [.int 0, .int 0, .int 0, .int 0, .int 0, .int 0, .int 0, .null]) (C := RX2) (T := TX2) (N := 8) hx hb hts iw_X2 tyX2 tyX2_ok hown (hts _ cl_X0_9) (hts _ ia_X2) (hts _ in_X2) hK.1 hS rfl (fun j hj => by rcases (show j = 0 ∨ j = 1 ∨ j = 2 ∨ j = 3 ∨ j = 4 ∨ j = 5 ∨ j = 6 ∨ j = 7 by omega) with rfl | rfl | rfl | rfl | rfl | rfl | rfl | rfl <;> rfl) (Nat.le_of_ble_eq_true rfl) (Nat.le_of_ble_eq_true rfl) dX0_init_48 (fun q_241 H hq hat hz ho hS => ?_)
  have hr_242 := hat
  have zq_241 := hT.fresh hq
  have neq_241_h0 : h0 ≠ q_241 := by have h9 := hr_19.lt; have h8 : h0 < _ := h9; omega
  have hr_19 := hr_19.kept (ho _ hr_19.lt)
  have neq_241_q_1 : q_1 ≠ q_241 := by have h9 := hr_239.lt; have h8 : q_1 < _ := h9; omega
  have hr_239 := hr_239.kept (ho _ hr_239.lt)
  have szq_241 : sz ≤ q_241 := by omega
  have hT := hT.kept ho
  refine lv_dup hx hb dX0_init_51 rfl ?_
  obtain ⟨sz_hs_243, hs_243⟩ : ∃ z, z = H.size := ⟨_, rfl⟩
  refine va_callv (rnIN (fun H => H.size = sz_hs_243 ∧ va_at (DG E) vwCl (q_241, .inr (2, [.int 0, .int 0, .int 0, .int 0, .int 0, .int 0, .int 0, .null])) H ∧ TH E (T0 E) G_233 [] H) (As := []) (rest := [.ref q_241, .int 20, .ref q_1]) ⟨hx, hb, hml, hown, hts⟩ (c_X2_init l E z0 G_233 q_241 sz_hs_243  zq_241 (by have h9 := hz0; have h8 := hz1; omega) (by have h9 := hS.1; have h8 := hz1; omega) ) ⟨va_cnB (host := RX9) 0 hts (gd1 co_X2_init rfl) rfl rfl rfl (hK.2.1 _ mn_X0_17 #[]) (hts _ in_X2) (by decide +kernel) ⟨Nat.le_of_ble_eq_true rfl, Nat.le_of_ble_eq_true rfl⟩, rfl, hts _ im_X2_init⟩ ⟨hs_243.symm, hr_242, hT⟩ (fun U hU hW => hK.go hW hS hAz hU) rfl rfl hl.1 rfl (lv_room (Nat.le_of_ble_eq_true rfl)) dX0_init_52 ⟨Nat.le_of_ble_eq_true rfl, Nat.le_of_ble_eq_true rfl⟩) hS (fun q _ h => h.elim (fun e => by rw [e]; exact (Or.inr szq_241)) (fun h => Or.inr (by have h9 := hS.1; omega))) (fun q h => h.elim (fun e => by rw [e]; exact (Or.inr szq_241)) (fun h => Or.inr (by have h9 := hS.1; omega))) (fun G_244 t H locs ht hvm hw hB hz hk hS => ?_)
  have hw_245 := hw
  rw [ht] at hB
  have lth0 : h0 < sz_hs_243 := by have h9 := hr_19.lt; have h8 : h0 < _ := h9; omega
  have hr_19 := hr_19.kept (hk _ hr_19.lt (fun h => h.elim neq_241_h0 (fun h => by omega)))
  have hG0 : G_244 h0 = 0 := gx_0 hw_245 hG0 neq_241_h0 lth0
  have ltq_1 : q_1 < sz_hs_243 := by have h9 := hr_239.lt; have h8 : q_1 < _ := h9; omega
  have hr_239 := hr_239.kept (hk _ hr_239.lt (fun h => h.elim neq_241_q_1 (fun h => by omega)))
  have zq_1 : G_244 q_1 = 0 := gx_0 hw_245 zq_1 neq_241_q_1 ltq_1
  have hf_3 := af_x hw_245 (by decide) hf_3
  have gp_246 : G_244 q_5 = 31 := gx_k hw_245 gp_235 (by decide)
  have gp_247 : G_244 q_12 = 31 := gx_k hw_245 gp_236 (by decide)
  have gq_248 : G_244 q_241 = 31 := hw_245.2
  have hE := hE.step hw_245 (by omega) (by have h9 := hS.1; omega)
  have hT : TH E (T0 E) G_244 [] H := hB
  obtain ⟨cs_249, ha_249, hg_249_0⟩ := tg_31 hT gq_248 nx_0
  refine rr_aast (D := DG E) hx hb hK.1 7 2 hr_239 hS (Or.inr szq_1) rfl ha_249 rfl (show vp_in (20) 24 from vp_in_iff.mpr ⟨by decide, by decide⟩) dX0_init_55 (fun H locs hn ho hz hS => ?_)
  have hr_250 : va_at (DG E) vwCl (q_1, .inl (E.2.2 7, 24, .inr (.inr (.inr (.inr (va_up (va_up (va_up (va_up (va_up (va_up (va_up (va_up (va_up (va_up (va_up (va_up (va_up (va_up (va_up (va_up (va_up (va_up (va_up (va_up (va_up (fun _ => none) 0 (some q_21)) 1 (some q_32)) 2 (some q_43)) 3 (some q_54)) 4 (some q_65)) 5 (some q_76)) 6 (some q_87)) 7 (some q_98)) 8 (some q_109)) 9 (some q_120)) 10 (some q_131)) 11 (some q_142)) 12 (some q_153)) 13 (some q_164)) 14 (some q_175)) 15 (some q_186)) 16 (some q_197)) 17 (some q_208)) 18 (some q_219)) 19 (some q_230)) 20 (some q_241))))))) H := hn
  have hf_3 := af_push hf_3 gq_248
  have hr_19 := hr_19.kept (ho _ neq_1_h0)
  have hT := hT.off zq_1 ho
  refine lv_iinc (v := 21) (lv' := [(1, .int 21), (0, .ref h0)]) hx hb dX0_init_56 hl (k := 0) rfl (by decide) (by decide) rfl (fun ls hl => ?_)
  refine lv_goto (tgt := 37) hx hb dX0_init_59 (by decide) ?_
  refine lv_iload_n hx hb dX0_init_37 rfl (lv_at hl 0 rfl) ?_
  refine lv_bipush (v := 24) hx hb dX0_init_38 (by decide) ?_
  refine lv_icmp_ge (tgt := 62) hx hb dX0_init_40 (by decide) (fun c_251 => absurd c_251 (by decide)) (fun c_251 => ?_)
  refine lv_aload_n hx hb dX0_init_43 rfl (lv_at hl 1 rfl) ?_
  refine va_get (D := DG E) (ci := 0) (v := .ref q_1) (C := RX0) (T := TX0) (N := 4) hx hb hts iw_X0 hown hK.1 (va_one hr_19) 0 rfl rfl 0 (by decide) (hts _ fl_X0_11) (fun _ h9 => h9) rfl dX0_init_44 ?_
  refine lv_iload_n hx hb dX0_init_47 rfl (lv_at hl 0 rfl) ?_
  have hSo : s.heap.size ≤ _ := hS.1
  refine rr_new (ci := 2) (fs := [.int 0, .int 0, .int 0, .int 0, .int 0, .int 0, .int 0, .null]) (C := RX2) (T := TX2) (N := 8) hx hb hts iw_X2 tyX2 tyX2_ok hown (hts _ cl_X0_9) (hts _ ia_X2) (hts _ in_X2) hK.1 hS rfl (fun j hj => by rcases (show j = 0 ∨ j = 1 ∨ j = 2 ∨ j = 3 ∨ j = 4 ∨ j = 5 ∨ j = 6 ∨ j = 7 by omega) with rfl | rfl | rfl | rfl | rfl | rfl | rfl | rfl <;> rfl) (Nat.le_of_ble_eq_true rfl) (Nat.le_of_ble_eq_true rfl) dX0_init_48 (fun q_252 H hq hat hz ho hS => ?_)
  have hr_253 := hat
  have zq_252 := hT.fresh hq
  have neq_252_h0 : h0 ≠ q_252 := by have h9 := hr_19.lt; have h8 : h0 < _ := h9; omega
  have hr_19 := hr_19.kept (ho _ hr_19.lt)
  have neq_252_q_1 : q_1 ≠ q_252 := by have h9 := hr_250.lt; have h8 : q_1 < _ := h9; omega
  have hr_250 := hr_250.kept (ho _ hr_250.lt)
  have szq_252 : sz ≤ q_252 := by omega
  have hT := hT.kept ho
  refine lv_dup hx hb dX0_init_51 rfl ?_
  obtain ⟨sz_hs_254, hs_254⟩ : ∃ z, z = H.size := ⟨_, rfl⟩
  refine va_callv (rnIN (fun H => H.size = sz_hs_254 ∧ va_at (DG E) vwCl (q_252, .inr (2, [.int 0, .int 0, .int 0, .int 0, .int 0, .int 0, .int 0, .null])) H ∧ TH E (T0 E) G_244 [] H) (As := []) (rest := [.ref q_252, .int 21, .ref q_1]) ⟨hx, hb, hml, hown, hts⟩ (c_X2_init l E z0 G_244 q_252 sz_hs_254  zq_252 (by have h9 := hz0; have h8 := hz1; omega) (by have h9 := hS.1; have h8 := hz1; omega) ) ⟨va_cnB (host := RX9) 0 hts (gd1 co_X2_init rfl) rfl rfl rfl (hK.2.1 _ mn_X0_17 #[]) (hts _ in_X2) (by decide +kernel) ⟨Nat.le_of_ble_eq_true rfl, Nat.le_of_ble_eq_true rfl⟩, rfl, hts _ im_X2_init⟩ ⟨hs_254.symm, hr_253, hT⟩ (fun U hU hW => hK.go hW hS hAz hU) rfl rfl hl.1 rfl (lv_room (Nat.le_of_ble_eq_true rfl)) dX0_init_52 ⟨Nat.le_of_ble_eq_true rfl, Nat.le_of_ble_eq_true rfl⟩) hS (fun q _ h => h.elim (fun e => by rw [e]; exact (Or.inr szq_252)) (fun h => Or.inr (by have h9 := hS.1; omega))) (fun q h => h.elim (fun e => by rw [e]; exact (Or.inr szq_252)) (fun h => Or.inr (by have h9 := hS.1; omega))) (fun G_255 t H locs ht hvm hw hB hz hk hS => ?_)
  have hw_256 := hw
  rw [ht] at hB
  have lth0 : h0 < sz_hs_254 := by have h9 := hr_19.lt; have h8 : h0 < _ := h9; omega
  have hr_19 := hr_19.kept (hk _ hr_19.lt (fun h => h.elim neq_252_h0 (fun h => by omega)))
  have hG0 : G_255 h0 = 0 := gx_0 hw_256 hG0 neq_252_h0 lth0
  have ltq_1 : q_1 < sz_hs_254 := by have h9 := hr_250.lt; have h8 : q_1 < _ := h9; omega
  have hr_250 := hr_250.kept (hk _ hr_250.lt (fun h => h.elim neq_252_q_1 (fun h => by omega)))
  have zq_1 : G_255 q_1 = 0 := gx_0 hw_256 zq_1 neq_252_q_1 ltq_1
  have hf_3 := af_x hw_256 (by decide) hf_3
  have gp_257 : G_255 q_5 = 31 := gx_k hw_256 gp_246 (by decide)
  have gp_258 : G_255 q_12 = 31 := gx_k hw_256 gp_247 (by decide)
  have gq_259 : G_255 q_252 = 31 := hw_256.2
  have hE := hE.step hw_256 (by omega) (by have h9 := hS.1; omega)
  have hT : TH E (T0 E) G_255 [] H := hB
  obtain ⟨cs_260, ha_260, hg_260_0⟩ := tg_31 hT gq_259 nx_0
  refine rr_aast (D := DG E) hx hb hK.1 7 2 hr_250 hS (Or.inr szq_1) rfl ha_260 rfl (show vp_in (21) 24 from vp_in_iff.mpr ⟨by decide, by decide⟩) dX0_init_55 (fun H locs hn ho hz hS => ?_)
  have hr_261 : va_at (DG E) vwCl (q_1, .inl (E.2.2 7, 24, .inr (.inr (.inr (.inr (va_up (va_up (va_up (va_up (va_up (va_up (va_up (va_up (va_up (va_up (va_up (va_up (va_up (va_up (va_up (va_up (va_up (va_up (va_up (va_up (va_up (va_up (fun _ => none) 0 (some q_21)) 1 (some q_32)) 2 (some q_43)) 3 (some q_54)) 4 (some q_65)) 5 (some q_76)) 6 (some q_87)) 7 (some q_98)) 8 (some q_109)) 9 (some q_120)) 10 (some q_131)) 11 (some q_142)) 12 (some q_153)) 13 (some q_164)) 14 (some q_175)) 15 (some q_186)) 16 (some q_197)) 17 (some q_208)) 18 (some q_219)) 19 (some q_230)) 20 (some q_241)) 21 (some q_252))))))) H := hn
  have hf_3 := af_push hf_3 gq_259
  have hr_19 := hr_19.kept (ho _ neq_1_h0)
  have hT := hT.off zq_1 ho
  refine lv_iinc (v := 22) (lv' := [(1, .int 22), (0, .ref h0)]) hx hb dX0_init_56 hl (k := 0) rfl (by decide) (by decide) rfl (fun ls hl => ?_)
  refine lv_goto (tgt := 37) hx hb dX0_init_59 (by decide) ?_
  refine lv_iload_n hx hb dX0_init_37 rfl (lv_at hl 0 rfl) ?_
  refine lv_bipush (v := 24) hx hb dX0_init_38 (by decide) ?_
  refine lv_icmp_ge (tgt := 62) hx hb dX0_init_40 (by decide) (fun c_262 => absurd c_262 (by decide)) (fun c_262 => ?_)
  refine lv_aload_n hx hb dX0_init_43 rfl (lv_at hl 1 rfl) ?_
  refine va_get (D := DG E) (ci := 0) (v := .ref q_1) (C := RX0) (T := TX0) (N := 4) hx hb hts iw_X0 hown hK.1 (va_one hr_19) 0 rfl rfl 0 (by decide) (hts _ fl_X0_11) (fun _ h9 => h9) rfl dX0_init_44 ?_
  refine lv_iload_n hx hb dX0_init_47 rfl (lv_at hl 0 rfl) ?_
  have hSo : s.heap.size ≤ _ := hS.1
  refine rr_new (ci := 2) (fs := [.int 0, .int 0, .int 0, .int 0, .int 0, .int 0, .int 0, .null]) (C := RX2) (T := TX2) (N := 8) hx hb hts iw_X2 tyX2 tyX2_ok hown (hts _ cl_X0_9) (hts _ ia_X2) (hts _ in_X2) hK.1 hS rfl (fun j hj => by rcases (show j = 0 ∨ j = 1 ∨ j = 2 ∨ j = 3 ∨ j = 4 ∨ j = 5 ∨ j = 6 ∨ j = 7 by omega) with rfl | rfl | rfl | rfl | rfl | rfl | rfl | rfl <;> rfl) (Nat.le_of_ble_eq_true rfl) (Nat.le_of_ble_eq_true rfl) dX0_init_48 (fun q_263 H hq hat hz ho hS => ?_)
  have hr_264 := hat
  have zq_263 := hT.fresh hq
  have neq_263_h0 : h0 ≠ q_263 := by have h9 := hr_19.lt; have h8 : h0 < _ := h9; omega
  have hr_19 := hr_19.kept (ho _ hr_19.lt)
  have neq_263_q_1 : q_1 ≠ q_263 := by have h9 := hr_261.lt; have h8 : q_1 < _ := h9; omega
  have hr_261 := hr_261.kept (ho _ hr_261.lt)
  have szq_263 : sz ≤ q_263 := by omega
  have hT := hT.kept ho
  refine lv_dup hx hb dX0_init_51 rfl ?_
  obtain ⟨sz_hs_265, hs_265⟩ : ∃ z, z = H.size := ⟨_, rfl⟩
  refine va_callv (rnIN (fun H => H.size = sz_hs_265 ∧ va_at (DG E) vwCl (q_263, .inr (2, [.int 0, .int 0, .int 0, .int 0, .int 0, .int 0, .int 0, .null])) H ∧ TH E (T0 E) G_255 [] H) (As := []) (rest := [.ref q_263, .int 22, .ref q_1]) ⟨hx, hb, hml, hown, hts⟩ (c_X2_init l E z0 G_255 q_263 sz_hs_265  zq_263 (by have h9 := hz0; have h8 := hz1; omega) (by have h9 := hS.1; have h8 := hz1; omega) ) ⟨va_cnB (host := RX9) 0 hts (gd1 co_X2_init rfl) rfl rfl rfl (hK.2.1 _ mn_X0_17 #[]) (hts _ in_X2) (by decide +kernel) ⟨Nat.le_of_ble_eq_true rfl, Nat.le_of_ble_eq_true rfl⟩, rfl, hts _ im_X2_init⟩ ⟨hs_265.symm, hr_264, hT⟩ (fun U hU hW => hK.go hW hS hAz hU) rfl rfl hl.1 rfl (lv_room (Nat.le_of_ble_eq_true rfl)) dX0_init_52 ⟨Nat.le_of_ble_eq_true rfl, Nat.le_of_ble_eq_true rfl⟩) hS (fun q _ h => h.elim (fun e => by rw [e]; exact (Or.inr szq_263)) (fun h => Or.inr (by have h9 := hS.1; omega))) (fun q h => h.elim (fun e => by rw [e]; exact (Or.inr szq_263)) (fun h => Or.inr (by have h9 := hS.1; omega))) (fun G_266 t H locs ht hvm hw hB hz hk hS => ?_)
  have hw_267 := hw
  rw [ht] at hB
  have lth0 : h0 < sz_hs_265 := by have h9 := hr_19.lt; have h8 : h0 < _ := h9; omega
  have hr_19 := hr_19.kept (hk _ hr_19.lt (fun h => h.elim neq_263_h0 (fun h => by omega)))
  have hG0 : G_266 h0 = 0 := gx_0 hw_267 hG0 neq_263_h0 lth0
  have ltq_1 : q_1 < sz_hs_265 := by have h9 := hr_261.lt; have h8 : q_1 < _ := h9; omega
  have hr_261 := hr_261.kept (hk _ hr_261.lt (fun h => h.elim neq_263_q_1 (fun h => by omega)))
  have zq_1 : G_266 q_1 = 0 := gx_0 hw_267 zq_1 neq_263_q_1 ltq_1
  have hf_3 := af_x hw_267 (by decide) hf_3
  have gp_268 : G_266 q_5 = 31 := gx_k hw_267 gp_257 (by decide)
  have gp_269 : G_266 q_12 = 31 := gx_k hw_267 gp_258 (by decide)
  have gq_270 : G_266 q_263 = 31 := hw_267.2
  have hE := hE.step hw_267 (by omega) (by have h9 := hS.1; omega)
  have hT : TH E (T0 E) G_266 [] H := hB
  obtain ⟨cs_271, ha_271, hg_271_0⟩ := tg_31 hT gq_270 nx_0
  refine rr_aast (D := DG E) hx hb hK.1 7 2 hr_261 hS (Or.inr szq_1) rfl ha_271 rfl (show vp_in (22) 24 from vp_in_iff.mpr ⟨by decide, by decide⟩) dX0_init_55 (fun H locs hn ho hz hS => ?_)
  have hr_272 : va_at (DG E) vwCl (q_1, .inl (E.2.2 7, 24, .inr (.inr (.inr (.inr (va_up (va_up (va_up (va_up (va_up (va_up (va_up (va_up (va_up (va_up (va_up (va_up (va_up (va_up (va_up (va_up (va_up (va_up (va_up (va_up (va_up (va_up (va_up (fun _ => none) 0 (some q_21)) 1 (some q_32)) 2 (some q_43)) 3 (some q_54)) 4 (some q_65)) 5 (some q_76)) 6 (some q_87)) 7 (some q_98)) 8 (some q_109)) 9 (some q_120)) 10 (some q_131)) 11 (some q_142)) 12 (some q_153)) 13 (some q_164)) 14 (some q_175)) 15 (some q_186)) 16 (some q_197)) 17 (some q_208)) 18 (some q_219)) 19 (some q_230)) 20 (some q_241)) 21 (some q_252)) 22 (some q_263))))))) H := hn
  have hf_3 := af_push hf_3 gq_270
  have hr_19 := hr_19.kept (ho _ neq_1_h0)
  have hT := hT.off zq_1 ho
  refine lv_iinc (v := 23) (lv' := [(1, .int 23), (0, .ref h0)]) hx hb dX0_init_56 hl (k := 0) rfl (by decide) (by decide) rfl (fun ls hl => ?_)
  refine lv_goto (tgt := 37) hx hb dX0_init_59 (by decide) ?_
  refine lv_iload_n hx hb dX0_init_37 rfl (lv_at hl 0 rfl) ?_
  refine lv_bipush (v := 24) hx hb dX0_init_38 (by decide) ?_
  refine lv_icmp_ge (tgt := 62) hx hb dX0_init_40 (by decide) (fun c_273 => absurd c_273 (by decide)) (fun c_273 => ?_)
  refine lv_aload_n hx hb dX0_init_43 rfl (lv_at hl 1 rfl) ?_
  refine va_get (D := DG E) (ci := 0) (v := .ref q_1) (C := RX0) (T := TX0) (N := 4) hx hb hts iw_X0 hown hK.1 (va_one hr_19) 0 rfl rfl 0 (by decide) (hts _ fl_X0_11) (fun _ h9 => h9) rfl dX0_init_44 ?_
  refine lv_iload_n hx hb dX0_init_47 rfl (lv_at hl 0 rfl) ?_
  have hSo : s.heap.size ≤ _ := hS.1
  refine rr_new (ci := 2) (fs := [.int 0, .int 0, .int 0, .int 0, .int 0, .int 0, .int 0, .null]) (C := RX2) (T := TX2) (N := 8) hx hb hts iw_X2 tyX2 tyX2_ok hown (hts _ cl_X0_9) (hts _ ia_X2) (hts _ in_X2) hK.1 hS rfl (fun j hj => by rcases (show j = 0 ∨ j = 1 ∨ j = 2 ∨ j = 3 ∨ j = 4 ∨ j = 5 ∨ j = 6 ∨ j = 7 by omega) with rfl | rfl | rfl | rfl | rfl | rfl | rfl | rfl <;> rfl) (Nat.le_of_ble_eq_true rfl) (Nat.le_of_ble_eq_true rfl) dX0_init_48 (fun q_274 H hq hat hz ho hS => ?_)
  have hr_275 := hat
  have zq_274 := hT.fresh hq
  have neq_274_h0 : h0 ≠ q_274 := by have h9 := hr_19.lt; have h8 : h0 < _ := h9; omega
  have hr_19 := hr_19.kept (ho _ hr_19.lt)
  have neq_274_q_1 : q_1 ≠ q_274 := by have h9 := hr_272.lt; have h8 : q_1 < _ := h9; omega
  have hr_272 := hr_272.kept (ho _ hr_272.lt)
  have szq_274 : sz ≤ q_274 := by omega
  have hT := hT.kept ho
  refine lv_dup hx hb dX0_init_51 rfl ?_
  obtain ⟨sz_hs_276, hs_276⟩ : ∃ z, z = H.size := ⟨_, rfl⟩
  refine va_callv (rnIN (fun H => H.size = sz_hs_276 ∧ va_at (DG E) vwCl (q_274, .inr (2, [.int 0, .int 0, .int 0, .int 0, .int 0, .int 0, .int 0, .null])) H ∧ TH E (T0 E) G_266 [] H) (As := []) (rest := [.ref q_274, .int 23, .ref q_1]) ⟨hx, hb, hml, hown, hts⟩ (c_X2_init l E z0 G_266 q_274 sz_hs_276  zq_274 (by have h9 := hz0; have h8 := hz1; omega) (by have h9 := hS.1; have h8 := hz1; omega) ) ⟨va_cnB (host := RX9) 0 hts (gd1 co_X2_init rfl) rfl rfl rfl (hK.2.1 _ mn_X0_17 #[]) (hts _ in_X2) (by decide +kernel) ⟨Nat.le_of_ble_eq_true rfl, Nat.le_of_ble_eq_true rfl⟩, rfl, hts _ im_X2_init⟩ ⟨hs_276.symm, hr_275, hT⟩ (fun U hU hW => hK.go hW hS hAz hU) rfl rfl hl.1 rfl (lv_room (Nat.le_of_ble_eq_true rfl)) dX0_init_52 ⟨Nat.le_of_ble_eq_true rfl, Nat.le_of_ble_eq_true rfl⟩) hS (fun q _ h => h.elim (fun e => by rw [e]; exact (Or.inr szq_274)) (fun h => Or.inr (by have h9 := hS.1; omega))) (fun q h => h.elim (fun e => by rw [e]; exact (Or.inr szq_274)) (fun h => Or.inr (by have h9 := hS.1; omega))) (fun G_277 t H locs ht hvm hw hB hz hk hS => ?_)
  have hw_278 := hw
  rw [ht] at hB
  have lth0 : h0 < sz_hs_276 := by have h9 := hr_19.lt; have h8 : h0 < _ := h9; omega
  have hr_19 := hr_19.kept (hk _ hr_19.lt (fun h => h.elim neq_274_h0 (fun h => by omega)))
  have hG0 : G_277 h0 = 0 := gx_0 hw_278 hG0 neq_274_h0 lth0
  have ltq_1 : q_1 < sz_hs_276 := by have h9 := hr_272.lt; have h8 : q_1 < _ := h9; omega
  have hr_272 := hr_272.kept (hk _ hr_272.lt (fun h => h.elim neq_274_q_1 (fun h => by omega)))
  have zq_1 : G_277 q_1 = 0 := gx_0 hw_278 zq_1 neq_274_q_1 ltq_1
  have hf_3 := af_x hw_278 (by decide) hf_3
  have gp_279 : G_277 q_5 = 31 := gx_k hw_278 gp_268 (by decide)
  have gp_280 : G_277 q_12 = 31 := gx_k hw_278 gp_269 (by decide)
  have gq_281 : G_277 q_274 = 31 := hw_278.2
  have hE := hE.step hw_278 (by omega) (by have h9 := hS.1; omega)
  have hT : TH E (T0 E) G_277 [] H := hB
  obtain ⟨cs_282, ha_282, hg_282_0⟩ := tg_31 hT gq_281 nx_0
  refine rr_aast (D := DG E) hx hb hK.1 7 2 hr_272 hS (Or.inr szq_1) rfl ha_282 rfl (show vp_in (23) 24 from vp_in_iff.mpr ⟨by decide, by decide⟩) dX0_init_55 (fun H locs hn ho hz hS => ?_)
  have hr_283 : va_at (DG E) vwCl (q_1, .inl (E.2.2 7, 24, .inr (.inr (.inr (.inr (va_up (va_up (va_up (va_up (va_up (va_up (va_up (va_up (va_up (va_up (va_up (va_up (va_up (va_up (va_up (va_up (va_up (va_up (va_up (va_up (va_up (va_up (va_up (va_up (fun _ => none) 0 (some q_21)) 1 (some q_32)) 2 (some q_43)) 3 (some q_54)) 4 (some q_65)) 5 (some q_76)) 6 (some q_87)) 7 (some q_98)) 8 (some q_109)) 9 (some q_120)) 10 (some q_131)) 11 (some q_142)) 12 (some q_153)) 13 (some q_164)) 14 (some q_175)) 15 (some q_186)) 16 (some q_197)) 17 (some q_208)) 18 (some q_219)) 19 (some q_230)) 20 (some q_241)) 21 (some q_252)) 22 (some q_263)) 23 (some q_274))))))) H := hn
  have hf_3 := af_push hf_3 gq_281
  have hr_19 := hr_19.kept (ho _ neq_1_h0)
  have hT := hT.off zq_1 ho
  refine lv_iinc (v := 24) (lv' := [(1, .int 24), (0, .ref h0)]) hx hb dX0_init_56 hl (k := 0) rfl (by decide) (by decide) rfl (fun ls hl => ?_)
  refine lv_goto (tgt := 37) hx hb dX0_init_59 (by decide) ?_
  refine lv_iload_n hx hb dX0_init_37 rfl (lv_at hl 0 rfl) ?_
  refine lv_bipush (v := 24) hx hb dX0_init_38 (by decide) ?_
  refine lv_icmp_ge (tgt := 62) hx hb dX0_init_40 (by decide) (fun c_284 => ?_) (fun c_284 => absurd c_284 (by decide))
  have hT := hT.add (g := 30) zq_1 (show T0 E (va_up G_277 q_1 30) 30 _ from ⟨_, rfl, af_up zq_1 (by decide) hf_3⟩) hr_283
  have hE := hE.add (g := 30) zq_1 (by omega)
  have gp_286 := up_k (g := 30) gp_279 zq_1 (by decide)
  have gp_287 := up_k (g := 30) gp_280 zq_1 (by decide)
  have hG0 := (va_up_ne G_277 30 neq_1_h0).trans hG0
  have gq_288 := va_up_self G_277 q_1 30
  obtain ⟨G_285, eG_285⟩ : ∃ z, z = va_up G_277 q_1 30 := ⟨_, rfl⟩
  rw [← eG_285] at hT hE gq_288 gp_286 gp_287 hG0
  have hT := hT.add (g := 4) hG0 (show T0 E (va_up G_285 h0 4) 4 _ from ⟨q_1, q_5, q_12, rfl, up_k gq_288 hG0 (by decide), up_k gp_286 hG0 (by decide), up_k gp_287 hG0 (by decide)⟩) hr_19
  refine W.widen (k := 53) (n := 336) (Nat.le_of_ble_eq_true rfl) (Nat.le_of_ble_eq_true rfl) ?_
  exact W.vret hx hb hr (fun t ht hW => ⟨⟨_, rfl, hE.fin hG0, by show TH _ _ _ _ t.heap; rw [ht]; exact hT⟩, hS.F ht⟩) hS.2.2 dX0_init_62
