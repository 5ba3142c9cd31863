set_option maxHeartbeats 16000000 in
set_option maxRecDepth 100000 in
theorem whole_start {p : Program} {e : Env} {s : State} {m : MethodId} {below : List Frame} {meth : Method} {c : Code} (l : Launch) (hst : l.stackTraces = false) {b L : Nat} {xs : Nat → Int32} (hL : L ≤ 3587) (C0 : lw_At p s m meth c b L xs) : W p l e room_1 s m #[Value.ref b] below meth c s.heap [] 0 0 (lw_Z below #[Value.ref b] s) (entryFrame m ([Value.ref b] : List Value).toArray 7) := by
  obtain ⟨hx, hb, hr, hml, hown, hts0, hX, hbl, hlocks, hgv⟩ := id C0
  have hts : ∀ w ∈ TS, w.before #[Value.ref b] s = true := fun w hw => hts0 w (List.mem_filter.mp hw).1
  have hbA : ¬ (fun q : Nat => s.heap.size ≤ q) b := Nat.not_le.mpr hbl
  have hAz : ∀ q, (fun q : Nat => s.heap.size ≤ q) q → s.heap.size ≤ q := fun q h => h
  obtain ⟨⟨E, hK⟩, hN⟩ := startK C0
  have hS : va_S (fun q : Nat => s.heap.size ≤ q) s.heap s.heap [] := va_S.rf
  have hl := lv_entry ([.ref b]) (n := 7) (Nat.le_of_ble_eq_true rfl)
  rw [lg_entry_eq]
  generalize (lg_sl ([.ref b]) ++ List.replicate (7 - (lg_sl ([.ref b])).length) Slot.unset).toArray = ls at hl ⊢
  have hl : lv_has ls 7 [(0, .ref b)] := hl
  have hSo : s.heap.size ≤ _ := hS.1
  refine rr_new (ci := 9) (fs := [.null, .null, .null]) (C := RX9) (T := TX9) (N := 3) hx hb hts iw_X9 tyX9 tyX9_ok hown (hts _ cl_L_8) (hts _ ia_X9) (hts _ in_X9) hK.1 hS rfl (fun j hj => by rcases (show j = 0 ∨ j = 1 ∨ j = 2 by omega) with rfl | rfl | rfl <;> rfl) (Nat.le_of_ble_eq_true rfl) (Nat.le_of_ble_eq_true rfl) dL_law_0 (fun x0 H hq hat hz ho hS => ?_)
  have hx9 := hat
  have hx0z : s.heap.size ≤ x0 := by omega
  have hsz := hz
  rw [← hq] at hsz
  refine lv_dup hx hb dL_law_3 rfl ?_
  refine lv_aload_n hx hb dL_law_4 rfl (lv_at hl 0 rfl) ?_
  refine lv_iconst (v := nI 0) hx hb dL_law_5 (by decide) ?_
  refine va_calli (va_runS (As := [.ref b, .int (nI 0)]) (rest := [.ref x0, .ref x0]) ⟨hx, hb, hml, hown, hts⟩ (c_L_cell l b L xs 0 hL (by decide) _) (cwS 2 hts (gdS ml_L_45 st_L_cell in_L co_L_cell rfl) rfl rfl rfl (by decide +kernel) ⟨Nat.le_of_ble_eq_true rfl, Nat.le_of_ble_eq_true rfl⟩) ⟨fun a U g mk q => ⟨q.1, va_X.moved (Vm.Alike.refl U.vm) q.2.1, q.2.2⟩, fun U hU hW => ⟨rfl, va_X.moved hW.alike (by rw [hU]; exact hX.kept (hS.2.1 b hbl hbA)), by rw [hU]; exact Nat.lt_of_lt_of_le hbl hS.1, by rw [hU]⟩⟩ rfl rfl hl.1 rfl (lv_room (Nat.le_of_ble_eq_true rfl)) dL_law_6 ⟨Nat.le_of_ble_eq_true rfl, Nat.le_of_ble_eq_true rfl⟩) hS (fun q _ h => h.elim) (fun q h => h.elim) (fun y0 _ t H locs ht hvm hw hB hz hk hS => ?_)
  rw [ht] at hB
  have hsz := hB.trans hsz
  subst hw
  have hx9 := hx9.kept (hk _ hx9.lt (fun h => h))
  refine lv_aload_n hx hb dL_law_9 rfl (lv_at hl 0 rfl) ?_
  refine lv_iconst (v := nI 1) hx hb dL_law_10 (by decide) ?_
  refine va_calli (va_runS (As := [.ref b, .int (nI 1)]) (rest := [.int (cellv L xs 0), .ref x0, .ref x0]) ⟨hx, hb, hml, hown, hts⟩ (c_L_cell l b L xs 1 hL (by decide) _) (cwS 2 hts (gdS ml_L_45 st_L_cell in_L co_L_cell rfl) rfl rfl rfl (by decide +kernel) ⟨Nat.le_of_ble_eq_true rfl, Nat.le_of_ble_eq_true rfl⟩) ⟨fun a U g mk q => ⟨q.1, va_X.moved (Vm.Alike.refl U.vm) q.2.1, q.2.2⟩, fun U hU hW => ⟨rfl, va_X.moved hW.alike (by rw [hU]; exact hX.kept (hS.2.1 b hbl hbA)), by rw [hU]; exact Nat.lt_of_lt_of_le hbl hS.1, by rw [hU]⟩⟩ rfl rfl hl.1 rfl (lv_room (Nat.le_of_ble_eq_true rfl)) dL_law_11 ⟨Nat.le_of_ble_eq_true rfl, Nat.le_of_ble_eq_true rfl⟩) hS (fun q _ h => h.elim) (fun q h => h.elim) (fun y1 _ t H locs ht hvm hw hB hz hk hS => ?_)
  rw [ht] at hB
  have hsz := hB.trans hsz
  subst hw
  have hx9 := hx9.kept (hk _ hx9.lt (fun h => h))
  refine lv_aload_n hx hb dL_law_14 rfl (lv_at hl 0 rfl) ?_
  refine lv_iconst (v := nI 2) hx hb dL_law_15 (by decide) ?_
  refine va_calli (va_runS (As := [.ref b, .int (nI 2)]) (rest := [.int (cellv L xs 1), .int (cellv L xs 0), .ref x0, .ref x0]) ⟨hx, hb, hml, hown, hts⟩ (c_L_cell l b L xs 2 hL (by decide) _) (cwS 2 hts (gdS ml_L_45 st_L_cell in_L co_L_cell rfl) rfl rfl rfl (by decide +kernel) ⟨Nat.le_of_ble_eq_true rfl, Nat.le_of_ble_eq_true rfl⟩) ⟨fun a U g mk q => ⟨q.1, va_X.moved (Vm.Alike.refl U.vm) q.2.1, q.2.2⟩, fun U hU hW => ⟨rfl, va_X.moved hW.alike (by rw [hU]; exact hX.kept (hS.2.1 b hbl hbA)), by rw [hU]; exact Nat.lt_of_lt_of_le hbl hS.1, by rw [hU]⟩⟩ rfl rfl hl.1 rfl (lv_room (Nat.le_of_ble_eq_true rfl)) dL_law_16 ⟨Nat.le_of_ble_eq_true rfl, Nat.le_of_ble_eq_true rfl⟩) hS (fun q _ h => h.elim) (fun q h => h.elim) (fun y2 _ t H locs ht hvm hw hB hz hk hS => ?_)
  rw [ht] at hB
  have hsz := hB.trans hsz
  subst hw
  have hx9 := hx9.kept (hk _ hx9.lt (fun h => h))
  refine va_callv (rnI (fun H => H.size = x0 + 1 ∧ va_at (DG E) vwCl (x0, .inr (9, [.null, .null, .null])) H) (As := [.int (cellv L xs 0), .int (cellv L xs 1), .int (cellv L xs 2)]) (rest := [.ref x0]) ⟨hx, hb, hml, hown, hts⟩ (e_X9_init l E s.heap.size x0 (x0 + 1) (cellv L xs 0) (cellv L xs 1) (cellv L xs 2) hx0z (by omega) (by omega)) (cwI 3 hts (gd1 co_X9_init rfl) rfl rfl rfl (hts _ in_X9) (hts _ ml_L_51) (hts _ im_X9_init) rfl (by decide +kernel) ⟨Nat.le_of_ble_eq_true rfl, Nat.le_of_ble_eq_true rfl⟩) ⟨hsz, hx9⟩ (fun U hU hW => hK.go hW hS hAz hU) rfl rfl hl.1 rfl (lv_room (Nat.le_of_ble_eq_true rfl)) dL_law_19 ⟨Nat.le_of_ble_eq_true rfl, Nat.le_of_ble_eq_true rfl⟩) hS (fun q _ h => h.elim (fun e => by rw [e]; exact hx0z) (fun h => by show s.heap.size ≤ q; omega)) (fun q h => h.elim (fun e => by rw [e]; exact hx0z) (fun h => by show s.heap.size ≤ q; omega)) (fun _ t H locs ht hvm hw hB hz hk hS => ?_)
  rw [ht] at hB
  obtain ⟨hsz1, hat1, hTB1⟩ := hB
  have hT := TX.start hat1 hTB1
  have hxc : G0 x0 x0 = 1 := G0_x
  have hGzc : ∀ q, G0 x0 q ≠ 0 → s.heap.size ≤ q := fun q h => by have h9 := G0_lt h; omega
  refine lv_astore_n (lv' := [(1, .ref x0), (0, .ref b)]) hx hb dL_law_22 rfl hl (by decide) rfl (fun ls hl => ?_)
  have hSo : s.heap.size ≤ _ := hS.1
  refine rr_new (ci := 10) (fs := [.int 0, .int 0, .int 0, .int 0, .null, .null, .null, .null, .null, .null, .null, .null, .null, .null, .null, .null, .null, .null, .null, .null, .null, .null, .null, .null, .null, .null, .null, .null, .null, .null, .null, .null, .null, .null, .null, .null, .null, .null, .null, .null, .int 0, .null, .null, .null, .null, .null, .null, .null, .null]) (C := RX10) (T := TX10) (N := 49) hx hb hts iw_X10 tyX10 tyX10_ok hown (hts _ cl_L_53) (hts _ ia_X10) (hts _ in_X10) hK.1 hS rfl (fun j hj => by rcases (show j = 0 ∨ j = 1 ∨ j = 2 ∨ j = 3 ∨ j = 4 ∨ j = 5 ∨ j = 6 ∨ j = 7 ∨ j = 8 ∨ j = 9 ∨ j = 10 ∨ j = 11 ∨ j = 12 ∨ j = 13 ∨ j = 14 ∨ j = 15 ∨ j = 16 ∨ j = 17 ∨ j = 18 ∨ j = 19 ∨ j = 20 ∨ j = 21 ∨ j = 22 ∨ j = 23 ∨ j = 24 ∨ j = 25 ∨ j = 26 ∨ j = 27 ∨ j = 28 ∨ j = 29 ∨ j = 30 ∨ j = 31 ∨ j = 32 ∨ j = 33 ∨ j = 34 ∨ j = 35 ∨ j = 36 ∨ j = 37 ∨ j = 38 ∨ j = 39 ∨ j = 40 ∨ j = 41 ∨ j = 42 ∨ j = 43 ∨ j = 44 ∨ j = 45 ∨ j = 46 ∨ j = 47 ∨ j = 48 by omega) with rfl | rfl | rfl | rfl | rfl | rfl | rfl | rfl | rfl | rfl | rfl | rfl | rfl | rfl | rfl | rfl | rfl | rfl | rfl | rfl | rfl | rfl | rfl | rfl | rfl | rfl | rfl | rfl | rfl | rfl | rfl | rfl | rfl | rfl | rfl | rfl | rfl | rfl | rfl | rfl | rfl | rfl | rfl | rfl | rfl | rfl | rfl | rfl | rfl <;> rfl) (Nat.le_of_ble_eq_true rfl) (Nat.le_of_ble_eq_true rfl) dL_law_23 (fun m0 H hq hat hz ho hS => ?_)
  have hm9 := hat
  have hm0z : s.heap.size ≤ m0 := by omega
  have hm1 : x0 + 145 ≤ m0 := by omega
  have zm : G0 x0 m0 = 0 := Decidable.byContradiction fun h => by have h9 := G0_lt h; omega
  have hT := hT.kept ho
  have hsz := hz
  rw [← hq] at hsz
  refine lv_dup hx hb dL_law_26 rfl ?_
  refine lv_aload_n hx hb dL_law_27 rfl (lv_at hl 1 rfl) ?_
  refine lv_iconst (v := nI 0) hx hb dL_law_28 (by decide) ?_
  refine va_calli (va_runS (As := [.ref b, .int (nI 0)]) (rest := [.ref m0, .ref m0]) ⟨hx, hb, hml, hown, hts⟩ (c_L_cell l b L xs 0 hL (by decide) _) (cwS 2 hts (gdS ml_L_45 st_L_cell in_L co_L_cell rfl) rfl rfl rfl (by decide +kernel) ⟨Nat.le_of_ble_eq_true rfl, Nat.le_of_ble_eq_true rfl⟩) ⟨fun a U g mk q => ⟨q.1, va_X.moved (Vm.Alike.refl U.vm) q.2.1, q.2.2⟩, fun U hU hW => ⟨rfl, va_X.moved hW.alike (by rw [hU]; exact hX.kept (hS.2.1 b hbl hbA)), by rw [hU]; exact Nat.lt_of_lt_of_le hbl hS.1, by rw [hU]⟩⟩ rfl rfl hl.1 rfl (lv_room (Nat.le_of_ble_eq_true rfl)) dL_law_29 ⟨Nat.le_of_ble_eq_true rfl, Nat.le_of_ble_eq_true rfl⟩) hS (fun q _ h => h.elim) (fun q h => h.elim) (fun y3 _ t H locs ht hvm hw hB hz hk hS => ?_)
  rw [ht] at hB
  have hsz := hB.trans hsz
  subst hw
  have hm9 := hm9.kept (hk _ hm9.lt (fun h => h))
  have hT := hT.kept (fun q hq => hk q hq (fun h => h))
  refine lv_aload_n hx hb dL_law_32 rfl (lv_at hl 1 rfl) ?_
  refine lv_iconst (v := nI 1) hx hb dL_law_33 (by decide) ?_
  refine va_calli (va_runS (As := [.ref b, .int (nI 1)]) (rest := [.int (cellv L xs 0), .ref m0, .ref m0]) ⟨hx, hb, hml, hown, hts⟩ (c_L_cell l b L xs 1 hL (by decide) _) (cwS 2 hts (gdS ml_L_45 st_L_cell in_L co_L_cell rfl) rfl rfl rfl (by decide +kernel) ⟨Nat.le_of_ble_eq_true rfl, Nat.le_of_ble_eq_true rfl⟩) ⟨fun a U g mk q => ⟨q.1, va_X.moved (Vm.Alike.refl U.vm) q.2.1, q.2.2⟩, fun U hU hW => ⟨rfl, va_X.moved hW.alike (by rw [hU]; exact hX.kept (hS.2.1 b hbl hbA)), by rw [hU]; exact Nat.lt_of_lt_of_le hbl hS.1, by rw [hU]⟩⟩ rfl rfl hl.1 rfl (lv_room (Nat.le_of_ble_eq_true rfl)) dL_law_34 ⟨Nat.le_of_ble_eq_true rfl, Nat.le_of_ble_eq_true rfl⟩) hS (fun q _ h => h.elim) (fun q h => h.elim) (fun y4 _ t H locs ht hvm hw hB hz hk hS => ?_)
  rw [ht] at hB
  have hsz := hB.trans hsz
  subst hw
  have hm9 := hm9.kept (hk _ hm9.lt (fun h => h))
  have hT := hT.kept (fun q hq => hk q hq (fun h => h))
  refine lv_aload_n hx hb dL_law_37 rfl (lv_at hl 1 rfl) ?_
  refine lv_iconst (v := nI 2) hx hb dL_law_38 (by decide) ?_
  refine va_calli (va_runS (As := [.ref b, .int (nI 2)]) (rest := [.int (cellv L xs 1), .int (cellv L xs 0), .ref m0, .ref m0]) ⟨hx, hb, hml, hown, hts⟩ (c_L_cell l b L xs 2 hL (by decide) _) (cwS 2 hts (gdS ml_L_45 st_L_cell in_L co_L_cell rfl) rfl rfl rfl (by decide +kernel) ⟨Nat.le_of_ble_eq_true rfl, Nat.le_of_ble_eq_true rfl⟩) ⟨fun a U g mk q => ⟨q.1, va_X.moved (Vm.Alike.refl U.vm) q.2.1, q.2.2⟩, fun U hU hW => ⟨rfl, va_X.moved hW.alike (by rw [hU]; exact hX.kept (hS.2.1 b hbl hbA)), by rw [hU]; exact Nat.lt_of_lt_of_le hbl hS.1, by rw [hU]⟩⟩ rfl rfl hl.1 rfl (lv_room (Nat.le_of_ble_eq_true rfl)) dL_law_39 ⟨Nat.le_of_ble_eq_true rfl, Nat.le_of_ble_eq_true rfl⟩) hS (fun q _ h => h.elim) (fun q h => h.elim) (fun y5 _ t H locs ht hvm hw hB hz hk hS => ?_)
  rw [ht] at hB
  have hsz := hB.trans hsz
  subst hw
  have hm9 := hm9.kept (hk _ hm9.lt (fun h => h))
  have hT := hT.kept (fun q hq => hk q hq (fun h => h))
  refine va_callv (rnI (fun H => H.size = m0 + 1 ∧ va_at (DG E) vwCl (m0, .inr (10, [.int 0, .int 0, .int 0, .int 0, .null, .null, .null, .null, .null, .null, .null, .null, .null, .null, .null, .null, .null, .null, .null, .null, .null, .null, .null, .null, .null, .null, .null, .null, .null, .null, .null, .null, .null, .null, .null, .null, .null, .null, .null, .null, .int 0, .null, .null, .null, .null, .null, .null, .null, .null])) H ∧ TH E (T0 E) (fun _ => 0) [] H) (As := [.int (cellv L xs 0), .int (cellv L xs 1), .int (cellv L xs 2)]) (rest := [.ref m0]) ⟨hx, hb, hml, hown, hts⟩ (c_X10_init l E s.heap.size (fun _ => 0) m0 (m0 + 1) (cellv L xs 0) (cellv L xs 1) (cellv L xs 2) rfl hm0z (by omega)) (cwI 3 hts (gd1 co_X10_init rfl) rfl rfl rfl (hts _ in_X10) (hts _ ml_L_55) (hts _ im_X10_init) rfl (by decide +kernel) ⟨Nat.le_of_ble_eq_true rfl, Nat.le_of_ble_eq_true rfl⟩) ⟨hsz, hm9, TH.zero⟩ (fun U hU hW => hK.go hW hS hAz hU) rfl rfl hl.1 rfl (lv_room (Nat.le_of_ble_eq_true rfl)) dL_law_42 ⟨Nat.le_of_ble_eq_true rfl, Nat.le_of_ble_eq_true rfl⟩) hS (fun q _ h => h.elim (fun e => by rw [e]; exact hm0z) (fun h => by show s.heap.size ≤ q; omega)) (fun q h => h.elim (fun e => by rw [e]; exact hm0z) (fun h => by show s.heap.size ≤ q; omega)) (fun Gm t H locs ht hvm hw2 hB hz hk hS => ?_)
  rw [ht] at hB
  obtain ⟨hTm, rf, hat0, hrf⟩ := hB
  have hT := hT.keptAC zm (by omega) hk
  have hmm : Gm m0 = 20 := hw2.2
  have hGzm : ∀ q, Gm q ≠ 0 → s.heap.size ≤ q := fun q h => by rcases hw2.1.2 q h with h | h | h <;> first | exact absurd rfl h | omega
  have hd : ∀ a, Gm a ≠ 0 → G0 x0 a = 0 := fun a h => Decidable.byContradiction fun hc => by
    have h9 := G0_lt hc
    rcases hw2.1.2 a h with h | h | h
    · exact absurd rfl h
    · omega
    · omega
  refine lv_astore_n (lv' := [(2, .ref m0), (1, .ref x0), (0, .ref b)]) hx hb dL_law_45 rfl hl (by decide) rfl (fun ls hl => ?_)
  refine lv_iconst (v := 1) hx hb dL_law_46 (by decide) ?_
  have hSo : s.heap.size ≤ _ := hS.1
  refine rr_newa (D := DG E) (atype := .long) (N' := 1) (a0 := (1, .inr (.inl (fun _ => 0)))) hx hb (hts _ ac_long) hK.1 2 rfl hS rfl (by decide) (by decide) (by decide) (Nat.le_of_ble_eq_true rfl) (Nat.le_of_ble_eq_true rfl) dL_law_47 (fun o0 H hq hro hz ho hS => ?_)
  have hGco : G0 x0 o0 = 0 := Decidable.byContradiction fun h => by have h9 := (hT o0 h).lt; have h8 : o0 < _ := h9; omega
  have hGmo : Gm o0 = 0 := hTm.fresh hq
  have hoz : s.heap.size ≤ o0 := by omega
  have hT := hT.kept ho
  have hTm := hTm.kept ho
  have hat0 := hat0.kept (ho _ hat0.lt)
  refine lv_astore_n (lv' := [(3, .ref o0), (2, .ref m0), (1, .ref x0), (0, .ref b)]) hx hb dL_law_49 rfl hl (by decide) rfl (fun ls hl => ?_)
  refine lv_iconst (v := nI 3) hx hb dL_law_50 (by decide) ?_
  refine lv_istore (lv' := [(4, .int (nI 3)), (3, .ref o0), (2, .ref m0), (1, .ref x0), (0, .ref b)]) hx hb dL_law_51 hl (by decide) rfl (fun ls hl => ?_)
  refine W.widen (k := 191) (n := 2010) (Nat.le_of_ble_eq_true rfl) (Nat.le_of_ble_eq_true rfl) ?_
  have hMH : MH E m0 rf (wi (cellv L xs 0) 2 20) (wi (cellv L xs 1) 0 7) (wi (cellv L xs 2) 0 7) (fun _ _ => 0) 0 0 _ := ⟨hat0, fun j a b c => tg_arr hTm (hrf j a b c) nx_0⟩
  exact law_loop (i := 3) hst C0 hL hK hN ⟨hxc, ⟨hmm, hrf⟩, hGzc, hGzm, hd, hGco, hGmo, hoz, wi_2⟩ (by omega) (by omega) (by omega) ⟨_, _, _, 0, 0, hT, TW.start, hMH, sim_start wi_2, riv_start, ⟨_, hro⟩, hS⟩ hl
