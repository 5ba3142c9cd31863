theorem dX0_init_0 : decode cX0_init 0 = .ok (.aload_n 0, 1) := by decide +kernel
theorem dX0_init_1 : decode cX0_init 1 = .ok (.invokespecial 3, 3) := by decide +kernel
theorem dX0_init_4 : decode cX0_init 4 = .ok (.aload_n 0, 1) := by decide +kernel
theorem dX0_init_5 : decode cX0_init 5 = .ok (.bipush 24, 2) := by decide +kernel
theorem dX0_init_7 : decode cX0_init 7 = .ok (.anewarray 9, 3) := by decide +kernel
theorem dX0_init_10 : decode cX0_init 10 = .ok (.putfield 11, 3) := by decide +kernel
theorem dX0_init_13 : decode cX0_init 13 = .ok (.aload_n 0, 1) := by decide +kernel
theorem dX0_init_14 : decode cX0_init 14 = .ok (.new 9, 3) := by decide +kernel
theorem dX0_init_17 : decode cX0_init 17 = .ok (.dup, 1) := by decide +kernel
theorem dX0_init_18 : decode cX0_init 18 = .ok (.invokespecial 17, 3) := by decide +kernel
theorem dX0_init_21 : decode cX0_init 21 = .ok (.putfield 18, 3) := by decide +kernel
theorem dX0_init_24 : decode cX0_init 24 = .ok (.aload_n 0, 1) := by decide +kernel
theorem dX0_init_25 : decode cX0_init 25 = .ok (.new 9, 3) := by decide +kernel
theorem dX0_init_28 : decode cX0_init 28 = .ok (.dup, 1) := by decide +kernel
theorem dX0_init_29 : decode cX0_init 29 = .ok (.invokespecial 17, 3) := by decide +kernel
theorem dX0_init_32 : decode cX0_init 32 = .ok (.putfield 22, 3) := by decide +kernel
theorem dX0_init_35 : decode cX0_init 35 = .ok (.iconst 0, 1) := by decide +kernel
theorem dX0_init_36 : decode cX0_init 36 = .ok (.istore_n 1, 1) := by decide +kernel
theorem dX0_init_37 : decode cX0_init 37 = .ok (.iload_n 1, 1) := by decide +kernel
theorem dX0_init_38 : decode cX0_init 38 = .ok (.bipush 24, 2) := by decide +kernel
theorem dX0_init_40 : decode cX0_init 40 = .ok (.if_icmp .ge 22, 3) := by decide +kernel
theorem dX0_init_43 : decode cX0_init 43 = .ok (.aload_n 0, 1) := by decide +kernel
theorem dX0_init_44 : decode cX0_init 44 = .ok (.getfield 11, 3) := by decide +kernel
theorem dX0_init_47 : decode cX0_init 47 = .ok (.iload_n 1, 1) := by decide +kernel
theorem dX0_init_48 : decode cX0_init 48 = .ok (.new 9, 3) := by decide +kernel
theorem dX0_init_51 : decode cX0_init 51 = .ok (.dup, 1) := by decide +kernel
theorem dX0_init_52 : decode cX0_init 52 = .ok (.invokespecial 17, 3) := by decide +kernel
theorem dX0_init_55 : decode cX0_init 55 = .ok (.aastore, 1) := by decide +kernel
theorem dX0_init_56 : decode cX0_init 56 = .ok (.iinc 1 1, 3) := by decide +kernel
theorem dX0_init_59 : decode cX0_init 59 = .ok (.goto (-22), 3) := by decide +kernel
theorem dX0_init_62 : decode cX0_init 62 = .ok (.return_, 1) := by decide +kernel
set_option maxHeartbeats 16000000 in
set_option maxRecDepth 100000 in
theorem c_X0_init (l : Launch) (E : EE) (z0 : Nat) (G : Nat → Nat) (h0 sz : Nat)  (hG0 : G h0 = 0) (hz0 : z0 ≤ h0) (hz1 : z0 ≤ sz)  : Met l yX0_init [Cond.code yX0_init cX0_init 2 none] ({ frames := 2, cells := 53, slots := 336, locals := 40 } : Room) (va_Pc [.ref h0] (fun U => (U.heap.size = sz ∧ va_at (DG E) vwCl (h0, .inr (0, [.null, .int 0, .null, .null])) U.heap ∧ TH E (T0 E) G [] U.heap) ∧ KS E z0 U)) (va_Qv (fun (G1 : Nat → Nat) => GX G G1 h0 4 sz) (fun G1 t => TH E (T0 E) G1 [] t.heap) (AC h0 sz)) 53 336 (AC h0 sz) := by
  refine Met.ofW (cc := cX0_init) (maxL := 2) (ret := none) (by decide) rfl ?_
  intro p e s m args below meth c s₁ B hml hv
  obtain ⟨rfl, ⟨hsz, hr0, hT⟩, hK⟩ := hv
  have hx := B.exec
  have hb := B.bytes
  have hr := B.returns
  have hts : ∀ w ∈ TS, w.before ([.ref h0] : List Value).toArray s = true := fun w hw => hK.2.1 w hw _
  have hown : s.vm.findClass RX0 = some m.cls := findClass_of_methodNamed B.named
  have hlocks := B.notSynchronized
  have hin : meth.name = "<init>" := (name_of_methodNamed B.named B.method).1
  have hS : va_S (AC h0 sz) s.heap s.heap [] := va_S.rf
  have hAz : ∀ q, AC h0 sz q → z0 ≤ q := fun q h => h.elim (fun e => by omega) (fun e => by omega)
  have hE : GE G G h0 sz := GE.rf
  have hlt0 : h0 < sz := by have h9 := hr0.lt; have h8 : h0 < _ := h9; omega
  obtain ⟨H, eH⟩ : ∃ H, H = s.heap := ⟨_, rfl⟩
  rw [← eH] at hr0 hT
  have hS : va_S (AC h0 sz) s.heap H [] := by rw [eH]; exact hS
  rw [← eH]
  have hsz : s.heap.size = sz := hsz
  have hl := lv_entry ([.ref h0]) (n := 2) (Nat.le_of_ble_eq_true rfl)
  rw [lg_entry_eq]
  generalize (lg_sl ([.ref h0]) ++ List.replicate (2 - (lg_sl ([.ref h0])).length) Slot.unset).toArray = ls at hl ⊢
  have hl : lv_has ls 2 [(0, .ref h0)] := hl
  refine lv_aload_n hx hb dX0_init_0 rfl (lv_at hl 0 rfl) ?_
  refine W.objInit hx hb hown (hts _ ml_X0_3) (hts _ im_Object__init_) (hts _ co_Object__init_) rfl (by rw [hml]; exact hl.1) rfl dX0_init_1 (Nat.le_of_ble_eq_true rfl) (Nat.le_of_ble_eq_true rfl) ?_
  refine W.eq (g2 := F0 m 4 ls []) rfl ?_
  refine lv_aload_n hx hb dX0_init_4 rfl (lv_at hl 0 rfl) ?_
  refine lv_bipush (v := 24) hx hb dX0_init_5 (by decide) ?_
  have hSo : s.heap.size ≤ _ := hS.1
  refine rr_newq (D := DG E) (N' := 24) hx hb hown (hts _ cl_X0_9) (hts _ ao_X2) hK.1 7 rfl hS (by decide) (by decide) (by decide) (Nat.le_of_ble_eq_true rfl) (Nat.le_of_ble_eq_true rfl) dX0_init_7 (fun q_1 H hq hat hz ho hS => ?_)
  have hr_2 := hat
  have zq_1 := hT.fresh hq
  have neq_1_h0 : h0 ≠ q_1 := ne_q hr0.lt hq
  have hr0 := hr0.kept (ho _ hr0.lt)
  have szq_1 : sz ≤ q_1 := le_q hsz hSo hq
  have hT := hT.kept ho
  have hf_3 : ∀ j, j < 0 → ∃ b, (fun _ : Nat => (none : Option Nat)) j = some b ∧ G b = 31 := af_0
  refine rr_putF (D := DG E) (ci := 0) (v := .ref q_1) (ty := .array (.object "RemoteReach$Packet")) (C := RX0) (T := TX0) (N := 4) hx hb hts iw_X0 tyX0 tyX0_ok nmX0 hown hK.1 hr0 hS (Or.inl rfl) rfl 0 (by decide) (hts _ fl_X0_11) (fun _ h9 => h9) rfl hin rfl (by decide +kernel) rfl rfl (Nat.le_of_ble_eq_true rfl) dX0_init_10 (fun H locs hn ho hz hS => ?_)
  have hr_4 : va_at (DG E) vwCl (h0, .inr (0, [.ref q_1, .int 0, .null, .null])) H := hn
  have hr_2 := hr_2.kept (ho _ (Ne.symm neq_1_h0))
  have hT := hT.off hG0 ho
  refine lv_aload_n hx hb dX0_init_13 rfl (lv_at hl 0 rfl) ?_
  have hSo : s.heap.size ≤ _ := hS.1
  refine rr_new (ci := 2) (fs := [.int 0, .int 0, .int 0, .int 0, .int 0, .int 0, .int 0, .null]) (C := RX2) (T := TX2) (N := 8) hx hb hts iw_X2 tyX2 tyX2_ok hown (hts _ cl_X0_9) (hts _ ia_X2) (hts _ in_X2) hK.1 hS rfl (fun j hj => by rcases (show j = 0 ∨ j = 1 ∨ j = 2 ∨ j = 3 ∨ j = 4 ∨ j = 5 ∨ j = 6 ∨ j = 7 by omega) with rfl | rfl | rfl | rfl | rfl | rfl | rfl | rfl <;> rfl) (Nat.le_of_ble_eq_true rfl) (Nat.le_of_ble_eq_true rfl) dX0_init_14 (fun q_5 H hq hat hz ho hS => ?_)
  have hr_6 := hat
  have zq_5 := hT.fresh hq
  have neq_5_h0 : h0 ≠ q_5 := ne_q hr_4.lt hq
  have hr_4 := hr_4.kept (ho _ hr_4.lt)
  have neq_5_q_1 : q_1 ≠ q_5 := ne_q hr_2.lt hq
  have hr_2 := hr_2.kept (ho _ hr_2.lt)
  have szq_5 : sz ≤ q_5 := le_q hsz hSo hq
  have hT := hT.kept ho
  refine lv_dup hx hb dX0_init_17 rfl ?_
  obtain ⟨sz_hs_7, hs_7⟩ : ∃ z, z = H.size := ⟨_, rfl⟩
  have szshs_7 : sz ≤ sz_hs_7 := le_q hsz hS.1 hs_7
  refine va_callv (rnIN (fun H => H.size = sz_hs_7 ∧ va_at (DG E) vwCl (q_5, .inr (2, [.int 0, .int 0, .int 0, .int 0, .int 0, .int 0, .int 0, .null])) H ∧ TH E (T0 E) G [] H) (As := []) (rest := [.ref q_5, .ref h0]) ⟨hx, hb, hml, hown, hts⟩ (c_X2_init l E z0 G q_5 sz_hs_7  zq_5 (Nat.le_trans hz1 szq_5) (Nat.le_trans hz1 szshs_7) ) ⟨va_cnB (host := RX9) 0 hts (gd1 co_X2_init rfl) rfl rfl rfl (hK.2.1 _ mn_X0_17 #[]) (hts _ in_X2) (by decide +kernel) ⟨Nat.le_of_ble_eq_true rfl, Nat.le_of_ble_eq_true rfl⟩, rfl, hts _ im_X2_init⟩ ⟨hs_7.symm, hr_6, hT⟩ (fun U hU hW => hK.go hW hS hAz hU) rfl rfl hl.1 rfl (lv_room (Nat.le_of_ble_eq_true rfl)) dX0_init_18 ⟨Nat.le_of_ble_eq_true rfl, Nat.le_of_ble_eq_true rfl⟩) hS (fun q _ h => h.elim (fun e => by rw [e]; exact (Or.inr szq_5)) (fun h => Or.inr (Nat.le_trans szshs_7 h))) (fun q h => h.elim (fun e => by rw [e]; exact (Or.inr szq_5)) (fun h => Or.inr (Nat.le_trans szshs_7 h))) (fun G_8 t H locs ht hvm hw hB hz hk hS => ?_)
  have hw_9 := hw
  rw [ht] at hB
  have lth0 : h0 < sz_hs_7 := ltz_s hr_4.lt hs_7
  have hr_4 := hr_4.kept (hk _ hr_4.lt (fun h => h.elim neq_5_h0 (fun h => absurd h (Nat.not_le.mpr lth0))))
  have hG0 : G_8 h0 = 0 := gx_0 hw_9 hG0 neq_5_h0 lth0
  have ltq_1 : q_1 < sz_hs_7 := ltz_s hr_2.lt hs_7
  have hr_2 := hr_2.kept (hk _ hr_2.lt (fun h => h.elim neq_5_q_1 (fun h => absurd h (Nat.not_le.mpr ltq_1))))
  have zq_1 : G_8 q_1 = 0 := gx_0 hw_9 zq_1 neq_5_q_1 ltq_1
  have hf_3 := af_x hw_9 (by decide) hf_3
  have gq_10 : G_8 q_5 = 31 := hw_9.2
  have hE := hE.step hw_9 szq_5 szshs_7
  have hT : TH E (T0 E) G_8 [] H := hB
  refine rr_put (D := DG E) (ci := 0) (v := .ref q_5) (ty := .object "RemoteReach$Packet") (C := RX0) (T := TX0) (N := 4) hx hb hts iw_X0 tyX0 tyX0_ok nmX0 hown hK.1 hr_4 hS (Or.inl rfl) rfl 2 (by decide) (hts _ fl_X0_18) (fun _ h9 => h9) rfl (by decide +kernel) rfl rfl (Nat.le_of_ble_eq_true rfl) dX0_init_21 (fun H locs hn ho hz hS => ?_)
  have hr_11 : va_at (DG E) vwCl (h0, .inr (0, [.ref q_1, .int 0, .ref q_5, .null])) H := hn
  have hr_2 := hr_2.kept (ho _ (Ne.symm neq_1_h0))
  have hT := hT.off hG0 ho
  refine lv_aload_n hx hb dX0_init_24 rfl (lv_at hl 0 rfl) ?_
  have hSo : s.heap.size ≤ _ := hS.1
  refine rr_new (ci := 2) (fs := [.int 0, .int 0, .int 0, .int 0, .int 0, .int 0, .int 0, .null]) (C := RX2) (T := TX2) (N := 8) hx hb hts iw_X2 tyX2 tyX2_ok hown (hts _ cl_X0_9) (hts _ ia_X2) (hts _ in_X2) hK.1 hS rfl (fun j hj => by rcases (show j = 0 ∨ j = 1 ∨ j = 2 ∨ j = 3 ∨ j = 4 ∨ j = 5 ∨ j = 6 ∨ j = 7 by omega) with rfl | rfl | rfl | rfl | rfl | rfl | rfl | rfl <;> rfl) (Nat.le_of_ble_eq_true rfl) (Nat.le_of_ble_eq_true rfl) dX0_init_25 (fun q_12 H hq hat hz ho hS => ?_)
  have hr_13 := hat
  have zq_12 := hT.fresh hq
  have neq_12_h0 : h0 ≠ q_12 := ne_q hr_11.lt hq
  have hr_11 := hr_11.kept (ho _ hr_11.lt)
  have neq_12_q_1 : q_1 ≠ q_12 := ne_q hr_2.lt hq
  have hr_2 := hr_2.kept (ho _ hr_2.lt)
  have szq_12 : sz ≤ q_12 := le_q hsz hSo hq
  have hT := hT.kept ho
  refine lv_dup hx hb dX0_init_28 rfl ?_
  obtain ⟨sz_hs_14, hs_14⟩ : ∃ z, z = H.size := ⟨_, rfl⟩
  have szshs_14 : sz ≤ sz_hs_14 := le_q hsz hS.1 hs_14
  refine va_callv (rnIN (fun H => H.size = sz_hs_14 ∧ va_at (DG E) vwCl (q_12, .inr (2, [.int 0, .int 0, .int 0, .int 0, .int 0, .int 0, .int 0, .null])) H ∧ TH E (T0 E) G_8 [] H) (As := []) (rest := [.ref q_12, .ref h0]) ⟨hx, hb, hml, hown, hts⟩ (c_X2_init l E z0 G_8 q_12 sz_hs_14  zq_12 (Nat.le_trans hz1 szq_12) (Nat.le_trans hz1 szshs_14) ) ⟨va_cnB (host := RX9) 0 hts (gd1 co_X2_init rfl) rfl rfl rfl (hK.2.1 _ mn_X0_17 #[]) (hts _ in_X2) (by decide +kernel) ⟨Nat.le_of_ble_eq_true rfl, Nat.le_of_ble_eq_true rfl⟩, rfl, hts _ im_X2_init⟩ ⟨hs_14.symm, hr_13, hT⟩ (fun U hU hW => hK.go hW hS hAz hU) rfl rfl hl.1 rfl (lv_room (Nat.le_of_ble_eq_true rfl)) dX0_init_29 ⟨Nat.le_of_ble_eq_true rfl, Nat.le_of_ble_eq_true rfl⟩) hS (fun q _ h => h.elim (fun e => by rw [e]; exact (Or.inr szq_12)) (fun h => Or.inr (Nat.le_trans szshs_14 h))) (fun q h => h.elim (fun e => by rw [e]; exact (Or.inr szq_12)) (fun h => Or.inr (Nat.le_trans szshs_14 h))) (fun G_15 t H locs ht hvm hw hB hz hk hS => ?_)
  have hw_16 := hw
  rw [ht] at hB
  have lth0 : h0 < sz_hs_14 := ltz_s hr_11.lt hs_14
  have hr_11 := hr_11.kept (hk _ hr_11.lt (fun h => h.elim neq_12_h0 (fun h => absurd h (Nat.not_le.mpr lth0))))
  have hG0 : G_15 h0 = 0 := gx_0 hw_16 hG0 neq_12_h0 lth0
  have ltq_1 : q_1 < sz_hs_14 := ltz_s hr_2.lt hs_14
  have hr_2 := hr_2.kept (hk _ hr_2.lt (fun h => h.elim neq_12_q_1 (fun h => absurd h (Nat.not_le.mpr ltq_1))))
  have zq_1 : G_15 q_1 = 0 := gx_0 hw_16 zq_1 neq_12_q_1 ltq_1
  have hf_3 := af_x hw_16 (by decide) hf_3
  have gp_17 : G_15 q_5 = 31 := gx_k hw_16 gq_10 (by decide)
  have gq_18 : G_15 q_12 = 31 := hw_16.2
  have hE := hE.step hw_16 szq_12 szshs_14
  have hT : TH E (T0 E) G_15 [] H := hB
  refine rr_putF (D := DG E) (ci := 0) (v := .ref q_12) (ty := .object "RemoteReach$Packet") (C := RX0) (T := TX0) (N := 4) hx hb hts iw_X0 tyX0 tyX0_ok nmX0 hown hK.1 hr_11 hS (Or.inl rfl) rfl 3 (by decide) (hts _ fl_X0_22) (fun _ h9 => h9) rfl hin rfl (by decide +kernel) rfl rfl (Nat.le_of_ble_eq_true rfl) dX0_init_32 (fun H locs hn ho hz hS => ?_)
  have hr_19 : va_at (DG E) vwCl (h0, .inr (0, [.ref q_1, .int 0, .ref q_5, .ref q_12])) H := hn
  have hr_2 := hr_2.kept (ho _ (Ne.symm neq_1_h0))
  have hT := hT.off hG0 ho
  refine lv_iconst (v := 0) hx hb dX0_init_35 (by decide) ?_
  refine lv_istore_n (lv' := [(1, .int 0), (0, .ref h0)]) hx hb dX0_init_36 rfl hl (by decide) rfl (fun ls hl => ?_)
  refine lp_k (fun n H locs ls C S => ∃ (i : Nat) (G2 : Nat → Nat) (f : Nat → Option Nat), i ≤ 24 ∧ 24 - i = n ∧ C = 5 + 2 * i ∧ S = 48 + 12 * i ∧ TH E (T0 E) G2 [] H ∧ va_at (DG E) vwCl (h0, .inr (0, [.ref q_1, .int 0, .ref q_5, .ref q_12])) H ∧ va_at (DG E) vwCl (q_1, .inl (E.2.2 7, 24, .inr (.inr (.inr (.inr f))))) H ∧ (∀ j, j < i → ∃ b, f j = some b ∧ G2 b = 31) ∧ G2 h0 = 0 ∧ G2 q_1 = 0 ∧ G2 q_5 = 31 ∧ G2 q_12 = 31 ∧ GE G G2 h0 sz ∧ va_S (AC h0 sz) s.heap H locs ∧ lv_has ls 2 [(1, .int (nI i)), (0, .ref h0)]) (fun n H locs ls C S ih hI => ?_) ⟨0, _, _, by omega, rfl, rfl, rfl, hT, hr_19, hr_2, hf_3, hG0, zq_1, gp_17, gq_18, hE, hS, hl⟩
  obtain ⟨i, G2, f, hi, hn, rfl, rfl, hT, hr9, hrr, hfi, hG0, zqr, gta, glo, hE, hS, hl⟩ := hI
  have hiI : (nI i).toInt = (i : Int) := nI_toInt (by omega)
  refine lv_iload_n hx hb dX0_init_37 rfl (lv_at hl 0 rfl) ?_
  refine lv_bipush (v := 24) hx hb dX0_init_38 (by decide) ?_
  refine lv_icmp_ge (tgt := 62) hx hb dX0_init_40 (by decide) (fun c1 => ?_) (fun c1 => ?_)
  · simp only [le_I, hiI, i_24] at c1
    obtain rfl : i = 24 := by omega
    have hT := hT.add (g := 30) zqr (show T0 E (va_up G2 q_1 30) 30 _ from ⟨_, rfl, af_up zqr (by decide) hfi⟩) hrr
    have hE := hE.add (g := 30) zqr szq_1
    have gp_21 := up_k (g := 30) gta zqr (by decide)
    have gp_22 := up_k (g := 30) glo zqr (by decide)
    have hG0 := (va_up_ne G2 30 neq_1_h0).trans hG0
    have gq_23 := va_up_self G2 q_1 30
    obtain ⟨G_20, eG_20⟩ : ∃ z, z = va_up G2 q_1 30 := ⟨_, rfl⟩
    rw [← eG_20] at hT hE gq_23 gp_21 gp_22 hG0
    have hT := hT.add (g := 4) hG0 (show T0 E (va_up G_20 h0 4) 4 _ from ⟨q_1, q_5, q_12, rfl, up_k gq_23 hG0 (by decide), up_k gp_21 hG0 (by decide), up_k gp_22 hG0 (by decide)⟩) hr9
    refine W.widen (k := 53) (n := 336) (Nat.le_of_ble_eq_true rfl) (Nat.le_of_ble_eq_true rfl) ?_
    exact W.vret hx hb hr (fun t ht hW => ⟨⟨_, rfl, hE.fin hG0, by show TH _ _ _ _ t.heap; rw [ht]; exact hT⟩, hS.F ht⟩) hS.2.2 dX0_init_62
  · simp only [le_I, hiI, i_24] at c1
    have hi24 : i < 24 := by omega
    refine lv_aload_n hx hb dX0_init_43 rfl (lv_at hl 1 rfl) ?_
    refine va_get (D := DG E) (ci := 0) (v := .ref q_1) (C := RX0) (T := TX0) (N := 4) hx hb hts iw_X0 hown hK.1 (va_one hr9) 0 rfl rfl 0 (by decide) (hts _ fl_X0_11) (fun _ h9 => h9) rfl dX0_init_44 ?_
    refine lv_iload_n hx hb dX0_init_47 rfl (lv_at hl 0 rfl) ?_
    refine rr_new (ci := 2) (fs := [.int 0, .int 0, .int 0, .int 0, .int 0, .int 0, .int 0, .null]) (C := RX2) (T := TX2) (N := 8) hx hb hts iw_X2 tyX2 tyX2_ok hown (hts _ cl_X0_9) (hts _ ia_X2) (hts _ in_X2) hK.1 hS rfl (fun j hj => by rcases (show j = 0 ∨ j = 1 ∨ j = 2 ∨ j = 3 ∨ j = 4 ∨ j = 5 ∨ j = 6 ∨ j = 7 by omega) with rfl | rfl | rfl | rfl | rfl | rfl | rfl | rfl <;> rfl) (show 5 + 2 * i + 1 ≤ 53 by omega) (show 48 + 12 * i + 8 ≤ 336 by omega) dX0_init_48 (fun q8 H8 hq hat hz ho hS8 => ?_)
    have hSs := hS.1
    have zq8 := hT.fresh hq
    have ne8 : h0 ≠ q8 := by have h9 := hr9.lt; have h8 : h0 < _ := h9; omega
    have ne8r : q_1 ≠ q8 := by have h9 := hrr.lt; have h8 : q_1 < _ := h9; omega
    have hr9 := hr9.kept (ho _ hr9.lt)
    have hrr := hrr.kept (ho _ hrr.lt)
    have szq8 : sz ≤ q8 := by omega
    have hT := hT.kept ho
    refine lv_dup hx hb dX0_init_51 rfl ?_
    obtain ⟨sz8, hs8⟩ : ∃ z, z = H8.size := ⟨_, rfl⟩
    refine va_callv (rnIN (fun H => H.size = sz8 ∧ va_at (DG E) vwCl (q8, .inr (2, [.int 0, .int 0, .int 0, .int 0, .int 0, .int 0, .int 0, .null])) H ∧ TH E (T0 E) G2 [] H) (As := []) (rest := [.ref q8, .int (nI i), .ref q_1]) ⟨hx, hb, hml, hown, hts⟩ (c_X2_init l E z0 G2 q8 sz8 zq8 (by omega) (by have h9 := hS8.1; omega)) ⟨va_cnB (host := RX9) 0 hts (gd1 co_X2_init rfl) rfl rfl rfl (hK.2.1 _ mn_X0_17 #[]) (hts _ in_X2) (by decide +kernel) ⟨Nat.le_of_ble_eq_true rfl, Nat.le_of_ble_eq_true rfl⟩, rfl, hts _ im_X2_init⟩ ⟨hs8.symm, hat, hT⟩ (fun U hU hW => hK.go hW hS8 hAz hU) rfl rfl hl.1 rfl (lv_room (Nat.le_of_ble_eq_true rfl)) dX0_init_52 ⟨(show 5 + 2 * i + 1 + 1 ≤ 53 by omega), (show 48 + 12 * i + 8 + 4 ≤ 336 by omega)⟩) hS8 (fun q _ h => h.elim (fun e => by rw [e]; exact (Or.inr szq8)) (fun h => Or.inr (by have h9 := hS8.1; omega))) (fun q h => h.elim (fun e => by rw [e]; exact (Or.inr szq8)) (fun h => Or.inr (by have h9 := hS8.1; omega))) (fun G3 t H7 locs ht hvm hw hB hz7 hk hS7 => ?_)
    rw [ht] at hB
    have lt0 : h0 < sz8 := by have h9 := hr9.lt; have h8 : h0 < _ := h9; omega
    have ltr : q_1 < sz8 := by have h9 := hrr.lt; have h8 : q_1 < _ := h9; omega
    have hr9 := hr9.kept (hk _ hr9.lt (fun h => h.elim ne8 (fun h => by omega)))
    have hrr := hrr.kept (hk _ hrr.lt (fun h => h.elim ne8r (fun h => by omega)))
    have hG0 : G3 h0 = 0 := gx_0 hw hG0 ne8 lt0
    have zqr : G3 q_1 = 0 := gx_0 hw zqr ne8r ltr
    have hfi := af_x hw (by decide) hfi
    have gta : G3 q_5 = 31 := gx_k hw gta (by decide)
    have glo : G3 q_12 = 31 := gx_k hw glo (by decide)
    have gq8 : G3 q8 = 31 := hw.2
    have hE := hE.step hw (by omega) (by have h9 := hS8.1; omega)
    have hT : TH E (T0 E) G3 [] H7 := hB
    obtain ⟨cs8, ha8, hg8⟩ := tg_31 hT gq8 nx_0
    refine rr_aast (D := DG E) hx hb hK.1 7 2 hrr hS7 (Or.inr szq_1) rfl ha8 rfl (show vp_in (nI i) 24 from vp_in_nI (by omega) (by omega)) dX0_init_55 (fun H6 locs hn6 ho6 hz6 hS6 => ?_)
    rw [nI_clamp (by omega)] at hn6
    have hfi := af_push hfi gq8
    have hr9 := hr9.kept (ho6 _ neq_1_h0)
    have hT := hT.off zqr ho6
    have h7 : (nI i + Int32.ofInt 1) = nI (i + 1) := by
      rw [eq_I, nI_toInt (by omega)]
      have h9 := s_add (x := nI i) (y := 1) (by rw [hiI, i_1]; omega) (by rw [hiI, i_1]; omega)
      rw [hiI, i_1] at h9
      exact h9
    refine lv_iinc (v := nI (i + 1)) (lv' := [(1, .int (nI (i + 1))), (0, .ref h0)]) hx hb dX0_init_56 hl (k := 0) rfl h7 (by decide) rfl (fun ls hl => ?_)
    refine lv_goto (tgt := 37) hx hb dX0_init_59 (by decide) ?_
    exact ih _ (by omega) _ _ _ _ _ ⟨i + 1, G3, _, by omega, rfl, by omega, by omega, hT, hr9, hn6, hfi, hG0, zqr, gta, glo, hE, hS6, hl⟩
