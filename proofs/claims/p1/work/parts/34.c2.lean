set_option maxHeartbeats 8000000 in
set_option maxRecDepth 100000 in
theorem lk_5 {p : Program} {l : Launch} {e : Env} {s : State} {m : MethodId} {below : List Frame} {meth : Method} {c : Code} {b : Nat} {xs : Nat → Int32} {E : EE} {Gc Gm : Nat → Nat} {x0 m0 o0 : Nat} {H : Heap} {locs : List Loc} {ls : Array Slot} (hst : l.stackTraces = false) (C0 : lw_At p s m meth c b 10 xs) (hK : KS E s.heap.size s) (hN : NC s) (hTc : TH E (T0 E) Gc [] H) (hTm : TH E (T0 E) Gm [] H) (hxc : Gc x0 = 1) (hmm : Gm m0 = 20) (hGzc : ∀ q, Gc q ≠ 0 → s.heap.size ≤ q) (hGzm : ∀ q, Gm q ≠ 0 → s.heap.size ≤ q) (hd : ∀ a, Gm a ≠ 0 → Gc a = 0) (hro : va_at (DG E) vwCl (o0, .inl (E.2.2 2, 1, .inr (.inl (fun _ => 0)))) H) (hGco : Gc o0 = 0) (hGmo : Gm o0 = 0) (hoz : s.heap.size ≤ o0) (hS : va_S (fun q : Nat => s.heap.size ≤ q) s.heap H locs) (hl : lv_has ls 7 [(4, .int 3), (3, .ref o0), (2, .ref m0), (1, .ref x0), (0, .ref b)]) : W p l e room_1 s m #[Value.ref b] below meth c H locs 191 2010 (lw_Z below #[Value.ref b] s) (F0 m 422 ls []) := by
  obtain ⟨hx, hb, hr, hml, hown, hts0, hX, hbl, hlocks, hgv⟩ := id C0
  have hts : ∀ w ∈ TS, w.before #[Value.ref b] s = true := fun w hw => hts0 w (List.mem_filter.mp hw).1
  have hbA : ¬ (fun q : Nat => s.heap.size ≤ q) b := Nat.not_le.mpr hbl
  have hAz : ∀ q, (fun q : Nat => s.heap.size ≤ q) q → s.heap.size ≤ q := fun q h => h
  refine lv_aload_n hx hb dL_law_422 rfl (lv_at hl 3 rfl) ?_
  refine lv_aload_n hx hb dL_law_423 rfl (lv_at hl 4 rfl) ?_
  refine lv_iload hx hb dL_law_424 (lv_at hl 0 rfl) ?_
  refine lv_iconst (v := 1) hx hb dL_law_426 (by decide) ?_
  refine lv_iadd hx hb dL_law_427 ?_
  refine W.eq (g2 := F0 m 428 ls [.int 4, .ref b, .ref x0]) (by rfl) ?_
  refine va_sld hx hb hX hbl hbA hS (show vp_in (4) 10 from vp_in_iff.mpr ⟨by decide, by decide⟩) dL_law_428 ?_
  refine W.eq (g2 := F0 m 429 ls [.int (xs 4), .ref x0]) (by rfl) ?_
  refine lv_aload_n hx hb dL_law_429 rfl (lv_at hl 4 rfl) ?_
  refine lv_iload hx hb dL_law_430 (lv_at hl 0 rfl) ?_
  refine lv_iconst (v := 2) hx hb dL_law_432 (by decide) ?_
  refine lv_iadd hx hb dL_law_433 ?_
  refine W.eq (g2 := F0 m 434 ls [.int 5, .ref b, .int (xs 4), .ref x0]) (by rfl) ?_
  refine va_sld hx hb hX hbl hbA hS (show vp_in (5) 10 from vp_in_iff.mpr ⟨by decide, by decide⟩) dL_law_434 ?_
  refine W.eq (g2 := F0 m 435 ls [.int (xs 5), .int (xs 4), .ref x0]) (by rfl) ?_
  refine lv_aload_n hx hb dL_law_435 rfl (lv_at hl 4 rfl) ?_
  refine lv_iload hx hb dL_law_436 (lv_at hl 0 rfl) ?_
  refine lv_iconst (v := 3) hx hb dL_law_438 (by decide) ?_
  refine lv_iadd hx hb dL_law_439 ?_
  refine W.eq (g2 := F0 m 440 ls [.int 6, .ref b, .int (xs 5), .int (xs 4), .ref x0]) (by rfl) ?_
  refine va_sld hx hb hX hbl hbA hS (show vp_in (6) 10 from vp_in_iff.mpr ⟨by decide, by decide⟩) dL_law_440 ?_
  refine W.eq (g2 := F0 m 441 ls [.int (xs 6), .int (xs 5), .int (xs 4), .ref x0]) (by rfl) ?_
  refine lv_aload_n hx hb dL_law_441 rfl (lv_at hl 1 rfl) ?_
  refine va_calli (vx_runSW (hh := [(0, 12, 15, 13), (0, 12, 19, 22)]) (As := [.ref x0, .int (xs 4), .int (xs 5), .int (xs 6), .ref o0]) (rest := []) ⟨hx, hb, hml, hown, hts⟩ (c_L_send l hst E s.heap.size Gc hGzc x0 (xs 4) (xs 5) (xs 6) o0 hxc) (vx_cwSW 5 hts (gdW ml_L_79 st_L_send in_L co_L_send rfl) rfl rfl rfl (by decide +kernel) ⟨Nat.le_of_ble_eq_true rfl, Nat.le_of_ble_eq_true rfl⟩) ⟨fun a U g mk q => ⟨q.1, q.2.1, KS.calling q.2.2.1, NC.vm q.2.2.2 rfl⟩, fun U hU hW => ⟨rfl, by rw [hU]; exact hTc, hK.go hW hS hAz hU, hN.go hW⟩⟩ rfl rfl hl.1 rfl (lv_room (Nat.le_of_ble_eq_true rfl)) dL_law_442 ⟨Nat.le_of_ble_eq_true rfl, Nat.le_of_ble_eq_true rfl⟩) hS (fun q _ h => hGzc q h) (fun q h => hGzc q h) (fun r_1 _ t H locs ht hvm hw hB hz hk hS => ?_)
  have hTm := hTm.other hd hk
  have hro := hro.kept (hk _ hro.lt (fun h => h hGco))
  rcases hw with ⟨rfl, hV⟩ | ⟨rfl, hV⟩
  · refine lv_istore (lv' := [(5, .int 1), (4, .int 3), (3, .ref o0), (2, .ref m0), (1, .ref x0), (0, .ref b)]) hx hb dL_law_445 hl (by decide) rfl (fun ls hl => ?_)
    refine lv_aload_n hx hb dL_law_447 rfl (lv_at hl 3 rfl) ?_
    refine lv_aload_n hx hb dL_law_448 rfl (lv_at hl 5 rfl) ?_
    refine lv_iload hx hb dL_law_449 (lv_at hl 1 rfl) ?_
    refine lv_iconst (v := 1) hx hb dL_law_451 (by decide) ?_
    refine lv_iadd hx hb dL_law_452 ?_
    refine W.eq (g2 := F0 m 453 ls [.int 4, .ref b, .ref m0]) (by rfl) ?_
    refine va_sld hx hb hX hbl hbA hS (show vp_in (4) 10 from vp_in_iff.mpr ⟨by decide, by decide⟩) dL_law_453 ?_
    refine W.eq (g2 := F0 m 454 ls [.int (xs 4), .ref m0]) (by rfl) ?_
    refine lv_aload_n hx hb dL_law_454 rfl (lv_at hl 5 rfl) ?_
    refine lv_iload hx hb dL_law_455 (lv_at hl 1 rfl) ?_
    refine lv_iconst (v := 2) hx hb dL_law_457 (by decide) ?_
    refine lv_iadd hx hb dL_law_458 ?_
    refine W.eq (g2 := F0 m 459 ls [.int 5, .ref b, .int (xs 4), .ref m0]) (by rfl) ?_
    refine va_sld hx hb hX hbl hbA hS (show vp_in (5) 10 from vp_in_iff.mpr ⟨by decide, by decide⟩) dL_law_459 ?_
    refine W.eq (g2 := F0 m 460 ls [.int (xs 5), .int (xs 4), .ref m0]) (by rfl) ?_
    refine lv_aload_n hx hb dL_law_460 rfl (lv_at hl 5 rfl) ?_
    refine lv_iload hx hb dL_law_461 (lv_at hl 1 rfl) ?_
    refine lv_iconst (v := 3) hx hb dL_law_463 (by decide) ?_
    refine lv_iadd hx hb dL_law_464 ?_
    refine W.eq (g2 := F0 m 465 ls [.int 6, .ref b, .int (xs 5), .int (xs 4), .ref m0]) (by rfl) ?_
    refine va_sld hx hb hX hbl hbA hS (show vp_in (6) 10 from vp_in_iff.mpr ⟨by decide, by decide⟩) dL_law_465 ?_
    refine W.eq (g2 := F0 m 466 ls [.int (xs 6), .int (xs 5), .int (xs 4), .ref m0]) (by rfl) ?_
    obtain ⟨_, _, _, _, ha_2, _⟩ := tg_20 hTm hmm nx_0
    refine va_calli (rnV (fun H => TH E (T0 E) Gm [] H) (As := [.int (xs 4), .int (xs 5), .int (xs 6)]) (rest := []) ⟨hx, hb, hml, hown, hts⟩ (c_X10_send l E s.heap.size Gm hGzm m0 (xs 4) (xs 5) (xs 6) hmm) (cwV 3 hts (gdV ml_L_82 im_X10_send se_X10_X10_send in_X10 co_X10_send rfl) rfl rfl rfl (by decide +kernel) ⟨Nat.le_of_ble_eq_true rfl, Nat.le_of_ble_eq_true rfl⟩) hTm (fun U hU hW => hK.go hW hS hAz hU) (va_recv hK.1 (va_one ha_2) (ci := 10) (q0 := 0) rfl rfl) rfl rfl hl.1 rfl (lv_room (Nat.le_of_ble_eq_true rfl)) dL_law_466 ⟨Nat.le_of_ble_eq_true rfl, Nat.le_of_ble_eq_true rfl⟩) hS (fun q _ h => hGzm q h) (fun q h => hGzm q h) (fun r_2 _ t H locs ht hvm hw hB hz hk hS => ?_)
    have hro := hro.kept (hk _ hro.lt (fun h => h hGmo))
    obtain ⟨fsx, hatx, hfx⟩ := hB
    rw [ht] at hatx
    rw [if_neg hV] at hfx
    subst hw
    refine lv_istore (lv' := [(6, .int 0), (5, .int 1), (4, .int 3), (3, .ref o0), (2, .ref m0), (1, .ref x0), (0, .ref b)]) hx hb dL_law_469 hl (by decide) rfl (fun ls hl => ?_)
    refine lv_aload_n hx hb dL_law_471 rfl (lv_at hl 4 rfl) ?_
    refine va_calli (rnV (fun H => va_at (DG E) vwCl (m0, .inr (10, fsx)) H) (As := []) (rest := []) ⟨hx, hb, hml, hown, hts⟩ (c_X10_thrown l E s.heap.size m0 fsx 1 hfx) (cwV 0 hts (gdV ml_L_60 im_X10_thrown se_X10_X10_thrown in_X10 co_X10_thrown rfl) rfl rfl rfl (by decide +kernel) ⟨Nat.le_of_ble_eq_true rfl, Nat.le_of_ble_eq_true rfl⟩) hatx (fun U hU hW => hK.go hW hS hAz hU) (va_recv hK.1 (va_one hatx) (ci := 10) (q0 := 0) rfl rfl) rfl rfl hl.1 rfl (lv_room (Nat.le_of_ble_eq_true rfl)) dL_law_472 ⟨Nat.le_of_ble_eq_true rfl, Nat.le_of_ble_eq_true rfl⟩) hS (fun q _ h => h.elim) (fun q h => h.elim) (fun r_3 _ t H locs ht hvm hw hB hz hk hS => ?_)
    have hro := hro.kept (hk _ hro.lt (fun h => h))
    subst hw
    refine lv_iload hx hb dL_law_475 (lv_at hl 1 rfl) ?_
    refine lv_icmp_eq (tgt := 482) hx hb dL_law_477 (by decide) (fun c_4 => ?_) (fun c_4 => absurd c_4 (by decide))
    refine lv_iload hx hb dL_law_482 (lv_at hl 1 rfl) ?_
    refine lv_if_ne (tgt := 499) hx hb dL_law_484 (by decide) (fun c_5 => ?_) (fun c_5 => absurd c_5 (by decide))
    refine lv_goto (tgt := 1116) hx hb dL_law_499 (by decide) ?_
    exact law_tail C0 hS (Nat.le_of_ble_eq_true rfl) (Nat.le_of_ble_eq_true rfl) (lv_sub hl [2, 6] rfl)
  · refine lv_istore (lv' := [(5, .int 2), (4, .int 3), (3, .ref o0), (2, .ref m0), (1, .ref x0), (0, .ref b)]) hx hb dL_law_445 hl (by decide) rfl (fun ls hl => ?_)
    refine lv_aload_n hx hb dL_law_447 rfl (lv_at hl 3 rfl) ?_
    refine lv_aload_n hx hb dL_law_448 rfl (lv_at hl 5 rfl) ?_
    refine lv_iload hx hb dL_law_449 (lv_at hl 1 rfl) ?_
    refine lv_iconst (v := 1) hx hb dL_law_451 (by decide) ?_
    refine lv_iadd hx hb dL_law_452 ?_
    refine W.eq (g2 := F0 m 453 ls [.int 4, .ref b, .ref m0]) (by rfl) ?_
    refine va_sld hx hb hX hbl hbA hS (show vp_in (4) 10 from vp_in_iff.mpr ⟨by decide, by decide⟩) dL_law_453 ?_
    refine W.eq (g2 := F0 m 454 ls [.int (xs 4), .ref m0]) (by rfl) ?_
    refine lv_aload_n hx hb dL_law_454 rfl (lv_at hl 5 rfl) ?_
    refine lv_iload hx hb dL_law_455 (lv_at hl 1 rfl) ?_
    refine lv_iconst (v := 2) hx hb dL_law_457 (by decide) ?_
    refine lv_iadd hx hb dL_law_458 ?_
    refine W.eq (g2 := F0 m 459 ls [.int 5, .ref b, .int (xs 4), .ref m0]) (by rfl) ?_
    refine va_sld hx hb hX hbl hbA hS (show vp_in (5) 10 from vp_in_iff.mpr ⟨by decide, by decide⟩) dL_law_459 ?_
    refine W.eq (g2 := F0 m 460 ls [.int (xs 5), .int (xs 4), .ref m0]) (by rfl) ?_
    refine lv_aload_n hx hb dL_law_460 rfl (lv_at hl 5 rfl) ?_
    refine lv_iload hx hb dL_law_461 (lv_at hl 1 rfl) ?_
    refine lv_iconst (v := 3) hx hb dL_law_463 (by decide) ?_
    refine lv_iadd hx hb dL_law_464 ?_
    refine W.eq (g2 := F0 m 465 ls [.int 6, .ref b, .int (xs 5), .int (xs 4), .ref m0]) (by rfl) ?_
    refine va_sld hx hb hX hbl hbA hS (show vp_in (6) 10 from vp_in_iff.mpr ⟨by decide, by decide⟩) dL_law_465 ?_
    refine W.eq (g2 := F0 m 466 ls [.int (xs 6), .int (xs 5), .int (xs 4), .ref m0]) (by rfl) ?_
    obtain ⟨_, _, _, _, ha_6, _⟩ := tg_20 hTm hmm nx_0
    refine va_calli (rnV (fun H => TH E (T0 E) Gm [] H) (As := [.int (xs 4), .int (xs 5), .int (xs 6)]) (rest := []) ⟨hx, hb, hml, hown, hts⟩ (c_X10_send l E s.heap.size Gm hGzm m0 (xs 4) (xs 5) (xs 6) hmm) (cwV 3 hts (gdV ml_L_82 im_X10_send se_X10_X10_send in_X10 co_X10_send rfl) rfl rfl rfl (by decide +kernel) ⟨Nat.le_of_ble_eq_true rfl, Nat.le_of_ble_eq_true rfl⟩) hTm (fun U hU hW => hK.go hW hS hAz hU) (va_recv hK.1 (va_one ha_6) (ci := 10) (q0 := 0) rfl rfl) rfl rfl hl.1 rfl (lv_room (Nat.le_of_ble_eq_true rfl)) dL_law_466 ⟨Nat.le_of_ble_eq_true rfl, Nat.le_of_ble_eq_true rfl⟩) hS (fun q _ h => hGzm q h) (fun q h => hGzm q h) (fun r_6 _ t H locs ht hvm hw hB hz hk hS => ?_)
    have hro := hro.kept (hk _ hro.lt (fun h => h hGmo))
    obtain ⟨fsx, hatx, hfx⟩ := hB
    rw [ht] at hatx
    rw [if_pos hV] at hfx
    subst hw
    refine lv_istore (lv' := [(6, .int 0), (5, .int 2), (4, .int 3), (3, .ref o0), (2, .ref m0), (1, .ref x0), (0, .ref b)]) hx hb dL_law_469 hl (by decide) rfl (fun ls hl => ?_)
    refine lv_aload_n hx hb dL_law_471 rfl (lv_at hl 4 rfl) ?_
    refine va_calli (rnV (fun H => va_at (DG E) vwCl (m0, .inr (10, fsx)) H) (As := []) (rest := []) ⟨hx, hb, hml, hown, hts⟩ (c_X10_thrown l E s.heap.size m0 fsx 2 hfx) (cwV 0 hts (gdV ml_L_60 im_X10_thrown se_X10_X10_thrown in_X10 co_X10_thrown rfl) rfl rfl rfl (by decide +kernel) ⟨Nat.le_of_ble_eq_true rfl, Nat.le_of_ble_eq_true rfl⟩) hatx (fun U hU hW => hK.go hW hS hAz hU) (va_recv hK.1 (va_one hatx) (ci := 10) (q0 := 0) rfl rfl) rfl rfl hl.1 rfl (lv_room (Nat.le_of_ble_eq_true rfl)) dL_law_472 ⟨Nat.le_of_ble_eq_true rfl, Nat.le_of_ble_eq_true rfl⟩) hS (fun q _ h => h.elim) (fun q h => h.elim) (fun r_7 _ t H locs ht hvm hw hB hz hk hS => ?_)
    have hro := hro.kept (hk _ hro.lt (fun h => h))
    subst hw
    refine lv_iload hx hb dL_law_475 (lv_at hl 1 rfl) ?_
    refine lv_icmp_eq (tgt := 482) hx hb dL_law_477 (by decide) (fun c_8 => ?_) (fun c_8 => absurd c_8 (by decide))
    refine lv_iload hx hb dL_law_482 (lv_at hl 1 rfl) ?_
    refine lv_if_ne (tgt := 499) hx hb dL_law_484 (by decide) (fun c_9 => ?_) (fun c_9 => absurd c_9 (by decide))
    refine lv_goto (tgt := 1116) hx hb dL_law_499 (by decide) ?_
    exact law_tail C0 hS (Nat.le_of_ble_eq_true rfl) (Nat.le_of_ble_eq_true rfl) (lv_sub hl [2, 6] rfl)
set_option maxHeartbeats 8000000 in
set_option maxRecDepth 100000 in
theorem lk_6 {p : Program} {l : Launch} {e : Env} {s : State} {m : MethodId} {below : List Frame} {meth : Method} {c : Code} {b : Nat} {xs : Nat → Int32} {E : EE} {Gc Gm : Nat → Nat} {x0 m0 o0 : Nat} {H : Heap} {locs : List Loc} {ls : Array Slot} (hst : l.stackTraces = false) (C0 : lw_At p s m meth c b 10 xs) (hK : KS E s.heap.size s) (hN : NC s) (hTc : TH E (T0 E) Gc [] H) (hTm : TH E (T0 E) Gm [] H) (hxc : Gc x0 = 1) (hmm : Gm m0 = 20) (hGzc : ∀ q, Gc q ≠ 0 → s.heap.size ≤ q) (hGzm : ∀ q, Gm q ≠ 0 → s.heap.size ≤ q) (hd : ∀ a, Gm a ≠ 0 → Gc a = 0) (hro : va_at (DG E) vwCl (o0, .inl (E.2.2 2, 1, .inr (.inl (fun _ => 0)))) H) (hGco : Gc o0 = 0) (hGmo : Gm o0 = 0) (hoz : s.heap.size ≤ o0) (hS : va_S (fun q : Nat => s.heap.size ≤ q) s.heap H locs) (hl : lv_has ls 7 [(4, .int 3), (3, .ref o0), (2, .ref m0), (1, .ref x0), (0, .ref b)]) : W p l e room_1 s m #[Value.ref b] below meth c H locs 191 2010 (lw_Z below #[Value.ref b] s) (F0 m 502 ls []) := by
  obtain ⟨hx, hb, hr, hml, hown, hts0, hX, hbl, hlocks, hgv⟩ := id C0
  have hts : ∀ w ∈ TS, w.before #[Value.ref b] s = true := fun w hw => hts0 w (List.mem_filter.mp hw).1
  have hbA : ¬ (fun q : Nat => s.heap.size ≤ q) b := Nat.not_le.mpr hbl
  have hAz : ∀ q, (fun q : Nat => s.heap.size ≤ q) q → s.heap.size ≤ q := fun q h => h
  refine lv_aload_n hx hb dL_law_502 rfl (lv_at hl 3 rfl) ?_
  refine lv_aload_n hx hb dL_law_503 rfl (lv_at hl 4 rfl) ?_
  refine lv_iload hx hb dL_law_504 (lv_at hl 0 rfl) ?_
  refine lv_iconst (v := 1) hx hb dL_law_506 (by decide) ?_
  refine lv_iadd hx hb dL_law_507 ?_
  refine W.eq (g2 := F0 m 508 ls [.int 4, .ref b, .ref x0]) (by rfl) ?_
  refine va_sld hx hb hX hbl hbA hS (show vp_in (4) 10 from vp_in_iff.mpr ⟨by decide, by decide⟩) dL_law_508 ?_
  refine W.eq (g2 := F0 m 509 ls [.int (xs 4), .ref x0]) (by rfl) ?_
  refine lv_aload_n hx hb dL_law_509 rfl (lv_at hl 4 rfl) ?_
  refine lv_iload hx hb dL_law_510 (lv_at hl 0 rfl) ?_
  refine lv_iconst (v := 2) hx hb dL_law_512 (by decide) ?_
  refine lv_iadd hx hb dL_law_513 ?_
  refine W.eq (g2 := F0 m 514 ls [.int 5, .ref b, .int (xs 4), .ref x0]) (by rfl) ?_
  refine va_sld hx hb hX hbl hbA hS (show vp_in (5) 10 from vp_in_iff.mpr ⟨by decide, by decide⟩) dL_law_514 ?_
  refine W.eq (g2 := F0 m 515 ls [.int (xs 5), .int (xs 4), .ref x0]) (by rfl) ?_
  refine lv_if_eq (tgt := 522) hx hb dL_law_515 (by decide) (fun c_1 => ?_) (fun c_1 => ?_)
  · simp only [lt_I, le_I, eq_I, i_0, i_1, i_2, i_3, i_4, i_5, i_6, i_7, i_8, i_10, i_12, i_16, i_20, i_23, i_24, i_31, i_32, i_63, i_64, i_m1] at c_1
    refine lv_iconst (v := 0) hx hb dL_law_522 (by decide) ?_
    refine lv_aload_n hx hb dL_law_523 rfl (lv_at hl 4 rfl) ?_
    refine lv_iload hx hb dL_law_524 (lv_at hl 0 rfl) ?_
    refine lv_iconst (v := 3) hx hb dL_law_526 (by decide) ?_
    refine lv_iadd hx hb dL_law_527 ?_
    refine W.eq (g2 := F0 m 528 ls [.int 6, .ref b, .int 0, .int (xs 4), .ref x0]) (by rfl) ?_
    refine va_sld hx hb hX hbl hbA hS (show vp_in (6) 10 from vp_in_iff.mpr ⟨by decide, by decide⟩) dL_law_528 ?_
    refine W.eq (g2 := F0 m 529 ls [.int (xs 6), .int 0, .int (xs 4), .ref x0]) (by rfl) ?_
    refine lv_aload_n hx hb dL_law_529 rfl (lv_at hl 4 rfl) ?_
    refine lv_iload hx hb dL_law_530 (lv_at hl 0 rfl) ?_
    refine lv_iconst (v := 4) hx hb dL_law_532 (by decide) ?_
    refine lv_iadd hx hb dL_law_533 ?_
    refine W.eq (g2 := F0 m 534 ls [.int 7, .ref b, .int (xs 6), .int 0, .int (xs 4), .ref x0]) (by rfl) ?_
    refine va_sld hx hb hX hbl hbA hS (show vp_in (7) 10 from vp_in_iff.mpr ⟨by decide, by decide⟩) dL_law_534 ?_
    refine W.eq (g2 := F0 m 535 ls [.int (xs 7), .int (xs 6), .int 0, .int (xs 4), .ref x0]) (by rfl) ?_
    refine lv_aload_n hx hb dL_law_535 rfl (lv_at hl 4 rfl) ?_
    refine lv_iload hx hb dL_law_536 (lv_at hl 0 rfl) ?_
    refine lv_iconst (v := 5) hx hb dL_law_538 (by decide) ?_
    refine lv_iadd hx hb dL_law_539 ?_
    refine W.eq (g2 := F0 m 540 ls [.int 8, .ref b, .int (xs 7), .int (xs 6), .int 0, .int (xs 4), .ref x0]) (by rfl) ?_
    refine va_sld hx hb hX hbl hbA hS (show vp_in (8) 10 from vp_in_iff.mpr ⟨by decide, by decide⟩) dL_law_540 ?_
    refine W.eq (g2 := F0 m 541 ls [.int (xs 8), .int (xs 7), .int (xs 6), .int 0, .int (xs 4), .ref x0]) (by rfl) ?_
    refine lv_aload_n hx hb dL_law_541 rfl (lv_at hl 4 rfl) ?_
    refine lv_iload hx hb dL_law_542 (lv_at hl 0 rfl) ?_
    refine lv_bipush (v := 6) hx hb dL_law_544 (by decide) ?_
    refine lv_iadd hx hb dL_law_546 ?_
    refine W.eq (g2 := F0 m 547 ls [.int 9, .ref b, .int (xs 8), .int (xs 7), .int (xs 6), .int 0, .int (xs 4), .ref x0]) (by rfl) ?_
    refine va_sld hx hb hX hbl hbA hS (show vp_in (9) 10 from vp_in_iff.mpr ⟨by decide, by decide⟩) dL_law_547 ?_
    refine W.eq (g2 := F0 m 548 ls [.int (xs 9), .int (xs 8), .int (xs 7), .int (xs 6), .int 0, .int (xs 4), .ref x0]) (by rfl) ?_
    refine lv_aload_n hx hb dL_law_548 rfl (lv_at hl 1 rfl) ?_
    refine va_calli (vx_runSW (hh := [(0, 18, 21, 13), (0, 18, 25, 22)]) (As := [.ref x0, .int (xs 4), .int 0, .int (xs 6), .int (xs 7), .int (xs 8), .int (xs 9), .ref o0]) (rest := []) ⟨hx, hb, hml, hown, hts⟩ (c_L_move l hst E s.heap.size Gc hGzc x0 (xs 4) 0 (xs 6) (xs 7) (xs 8) (xs 9) o0 hxc) (vx_cwSW 8 hts (gdW ml_L_83 st_L_move in_L co_L_move rfl) rfl rfl rfl (by decide +kernel) ⟨Nat.le_of_ble_eq_true rfl, Nat.le_of_ble_eq_true rfl⟩) ⟨fun a U g mk q => ⟨q.1, q.2.1, KS.calling q.2.2.1, NC.vm q.2.2.2 rfl⟩, fun U hU hW => ⟨rfl, by rw [hU]; exact hTc, hK.go hW hS hAz hU, hN.go hW⟩⟩ rfl rfl hl.1 rfl (lv_room (Nat.le_of_ble_eq_true rfl)) dL_law_549 ⟨Nat.le_of_ble_eq_true rfl, Nat.le_of_ble_eq_true rfl⟩) hS (fun q _ h => hGzc q h) (fun q h => hGzc q h) (fun r_2 _ t H locs ht hvm hw hB hz hk hS => ?_)
    have hTm := hTm.other hd hk
    have hro := hro.kept (hk _ hro.lt (fun h => h hGco))
    rcases hw with ⟨rfl, hV⟩ | ⟨rfl, hV⟩
    · refine lv_istore (lv' := [(5, .int 1), (4, .int 3), (3, .ref o0), (2, .ref m0), (1, .ref x0), (0, .ref b)]) hx hb dL_law_552 hl (by decide) rfl (fun ls hl => ?_)
      refine lv_aload_n hx hb dL_law_554 rfl (lv_at hl 3 rfl) ?_
      refine lv_aload_n hx hb dL_law_555 rfl (lv_at hl 5 rfl) ?_
      refine lv_iload hx hb dL_law_556 (lv_at hl 1 rfl) ?_
      refine lv_iconst (v := 1) hx hb dL_law_558 (by decide) ?_
      refine lv_iadd hx hb dL_law_559 ?_
      refine W.eq (g2 := F0 m 560 ls [.int 4, .ref b, .ref m0]) (by rfl) ?_
      refine va_sld hx hb hX hbl hbA hS (show vp_in (4) 10 from vp_in_iff.mpr ⟨by decide, by decide⟩) dL_law_560 ?_
      refine W.eq (g2 := F0 m 561 ls [.int (xs 4), .ref m0]) (by rfl) ?_
      refine lv_aload_n hx hb dL_law_561 rfl (lv_at hl 5 rfl) ?_
      refine lv_iload hx hb dL_law_562 (lv_at hl 1 rfl) ?_
      refine lv_iconst (v := 2) hx hb dL_law_564 (by decide) ?_
      refine lv_iadd hx hb dL_law_565 ?_
      refine W.eq (g2 := F0 m 566 ls [.int 5, .ref b, .int (xs 4), .ref m0]) (by rfl) ?_
      refine va_sld hx hb hX hbl hbA hS (show vp_in (5) 10 from vp_in_iff.mpr ⟨by decide, by decide⟩) dL_law_566 ?_
      refine W.eq (g2 := F0 m 567 ls [.int (xs 5), .int (xs 4), .ref m0]) (by rfl) ?_
      refine lv_if_eq (tgt := 574) hx hb dL_law_567 (by decide) (fun c_3 => ?_) (fun c_3 => ?_)
      · simp only [lt_I, le_I, eq_I, i_0, i_1, i_2, i_3, i_4, i_5, i_6, i_7, i_8, i_10, i_12, i_16, i_20, i_23, i_24, i_31, i_32, i_63, i_64, i_m1] at c_3
        refine lv_iconst (v := 0) hx hb dL_law_574 (by decide) ?_
        refine lv_aload_n hx hb dL_law_575 rfl (lv_at hl 5 rfl) ?_
        refine lv_iload hx hb dL_law_576 (lv_at hl 1 rfl) ?_
        refine lv_iconst (v := 3) hx hb dL_law_578 (by decide) ?_
        refine lv_iadd hx hb dL_law_579 ?_
        refine W.eq (g2 := F0 m 580 ls [.int 6, .ref b, .int 0, .int (xs 4), .ref m0]) (by rfl) ?_
        refine va_sld hx hb hX hbl hbA hS (show vp_in (6) 10 from vp_in_iff.mpr ⟨by decide, by decide⟩) dL_law_580 ?_
        refine W.eq (g2 := F0 m 581 ls [.int (xs 6), .int 0, .int (xs 4), .ref m0]) (by rfl) ?_
        refine lv_aload_n hx hb dL_law_581 rfl (lv_at hl 5 rfl) ?_
        refine lv_iload hx hb dL_law_582 (lv_at hl 1 rfl) ?_
        refine lv_iconst (v := 4) hx hb dL_law_584 (by decide) ?_
        refine lv_iadd hx hb dL_law_585 ?_
        refine W.eq (g2 := F0 m 586 ls [.int 7, .ref b, .int (xs 6), .int 0, .int (xs 4), .ref m0]) (by rfl) ?_
        refine va_sld hx hb hX hbl hbA hS (show vp_in (7) 10 from vp_in_iff.mpr ⟨by decide, by decide⟩) dL_law_586 ?_
        refine W.eq (g2 := F0 m 587 ls [.int (xs 7), .int (xs 6), .int 0, .int (xs 4), .ref m0]) (by rfl) ?_
        refine lv_aload_n hx hb dL_law_587 rfl (lv_at hl 5 rfl) ?_
        refine lv_iload hx hb dL_law_588 (lv_at hl 1 rfl) ?_
        refine lv_iconst (v := 5) hx hb dL_law_590 (by decide) ?_
        refine lv_iadd hx hb dL_law_591 ?_
        refine W.eq (g2 := F0 m 592 ls [.int 8, .ref b, .int (xs 7), .int (xs 6), .int 0, .int (xs 4), .ref m0]) (by rfl) ?_
        refine va_sld hx hb hX hbl hbA hS (show vp_in (8) 10 from vp_in_iff.mpr ⟨by decide, by decide⟩) dL_law_592 ?_
        refine W.eq (g2 := F0 m 593 ls [.int (xs 8), .int (xs 7), .int (xs 6), .int 0, .int (xs 4), .ref m0]) (by rfl) ?_
        refine lv_aload_n hx hb dL_law_593 rfl (lv_at hl 5 rfl) ?_
        refine lv_iload hx hb dL_law_594 (lv_at hl 1 rfl) ?_
        refine lv_bipush (v := 6) hx hb dL_law_596 (by decide) ?_
        refine lv_iadd hx hb dL_law_598 ?_
        refine W.eq (g2 := F0 m 599 ls [.int 9, .ref b, .int (xs 8), .int (xs 7), .int (xs 6), .int 0, .int (xs 4), .ref m0]) (by rfl) ?_
        refine va_sld hx hb hX hbl hbA hS (show vp_in (9) 10 from vp_in_iff.mpr ⟨by decide, by decide⟩) dL_law_599 ?_
        refine W.eq (g2 := F0 m 600 ls [.int (xs 9), .int (xs 8), .int (xs 7), .int (xs 6), .int 0, .int (xs 4), .ref m0]) (by rfl) ?_
        obtain ⟨_, _, _, _, ha_4, _⟩ := tg_20 hTm hmm nx_0
        refine va_calli (rnV (fun H => TH E (T0 E) Gm [] H) (As := [.int (xs 4), .int 0, .int (xs 6), .int (xs 7), .int (xs 8), .int (xs 9)]) (rest := []) ⟨hx, hb, hml, hown, hts⟩ (c_X10_move l E s.heap.size Gm hGzm m0 (xs 4) 0 (xs 6) (xs 7) (xs 8) (xs 9) hmm) (cwV 6 hts (gdV ml_L_86 im_X10_move se_X10_X10_move in_X10 co_X10_move rfl) rfl rfl rfl (by decide +kernel) ⟨Nat.le_of_ble_eq_true rfl, Nat.le_of_ble_eq_true rfl⟩) hTm (fun U hU hW => hK.go hW hS hAz hU) (va_recv hK.1 (va_one ha_4) (ci := 10) (q0 := 0) rfl rfl) rfl rfl hl.1 rfl (lv_room (Nat.le_of_ble_eq_true rfl)) dL_law_600 ⟨Nat.le_of_ble_eq_true rfl, Nat.le_of_ble_eq_true rfl⟩) hS (fun q _ h => hGzm q h) (fun q h => hGzm q h) (fun r_4 _ t H locs ht hvm hw hB hz hk hS => ?_)
        have hro := hro.kept (hk _ hro.lt (fun h => h hGmo))
        obtain ⟨fsx, hatx, hfx⟩ := hB
        rw [ht] at hatx
        rw [if_neg hV] at hfx
        subst hw
        refine lv_istore (lv' := [(6, .int 0), (5, .int 1), (4, .int 3), (3, .ref o0), (2, .ref m0), (1, .ref x0), (0, .ref b)]) hx hb dL_law_603 hl (by decide) rfl (fun ls hl => ?_)
        refine lv_aload_n hx hb dL_law_605 rfl (lv_at hl 4 rfl) ?_
        refine va_calli (rnV (fun H => va_at (DG E) vwCl (m0, .inr (10, fsx)) H) (As := []) (rest := []) ⟨hx, hb, hml, hown, hts⟩ (c_X10_thrown l E s.heap.size m0 fsx 1 hfx) (cwV 0 hts (gdV ml_L_60 im_X10_thrown se_X10_X10_thrown in_X10 co_X10_thrown rfl) rfl rfl rfl (by decide +kernel) ⟨Nat.le_of_ble_eq_true rfl, Nat.le_of_ble_eq_true rfl⟩) hatx (fun U hU hW => hK.go hW hS hAz hU) (va_recv hK.1 (va_one hatx) (ci := 10) (q0 := 0) rfl rfl) rfl rfl hl.1 rfl (lv_room (Nat.le_of_ble_eq_true rfl)) dL_law_606 ⟨Nat.le_of_ble_eq_true rfl, Nat.le_of_ble_eq_true rfl⟩) hS (fun q _ h => h.elim) (fun q h => h.elim) (fun r_5 _ t H locs ht hvm hw hB hz hk hS => ?_)
        have hro := hro.kept (hk _ hro.lt (fun h => h))
        subst hw
        refine lv_iload hx hb dL_law_609 (lv_at hl 1 rfl) ?_
        refine lv_icmp_eq (tgt := 616) hx hb dL_law_611 (by decide) (fun c_6 => ?_) (fun c_6 => absurd c_6 (by decide))
        refine lv_iload hx hb dL_law_616 (lv_at hl 1 rfl) ?_
        refine lv_if_ne (tgt := 633) hx hb dL_law_618 (by decide) (fun c_7 => ?_) (fun c_7 => absurd c_7 (by decide))
        refine lv_goto (tgt := 1116) hx hb dL_law_633 (by decide) ?_
        exact law_tail C0 hS (Nat.le_of_ble_eq_true rfl) (Nat.le_of_ble_eq_true rfl) (lv_sub hl [2, 6] rfl)
      · simp only [lt_I, le_I, eq_I, i_0, i_1, i_2, i_3, i_4, i_5, i_6, i_7, i_8, i_10, i_12, i_16, i_20, i_23, i_24, i_31, i_32, i_63, i_64, i_m1] at c_3
        refine lv_iconst (v := 1) hx hb dL_law_570 (by decide) ?_
        refine lv_goto (tgt := 575) hx hb dL_law_571 (by decide) ?_
        refine lv_aload_n hx hb dL_law_575 rfl (lv_at hl 5 rfl) ?_
        refine lv_iload hx hb dL_law_576 (lv_at hl 1 rfl) ?_
        refine lv_iconst (v := 3) hx hb dL_law_578 (by decide) ?_
        refine lv_iadd hx hb dL_law_579 ?_
        refine W.eq (g2 := F0 m 580 ls [.int 6, .ref b, .int 1, .int (xs 4), .ref m0]) (by rfl) ?_
        refine va_sld hx hb hX hbl hbA hS (show vp_in (6) 10 from vp_in_iff.mpr ⟨by decide, by decide⟩) dL_law_580 ?_
        refine W.eq (g2 := F0 m 581 ls [.int (xs 6), .int 1, .int (xs 4), .ref m0]) (by rfl) ?_
        refine lv_aload_n hx hb dL_law_581 rfl (lv_at hl 5 rfl) ?_
        refine lv_iload hx hb dL_law_582 (lv_at hl 1 rfl) ?_
        refine lv_iconst (v := 4) hx hb dL_law_584 (by decide) ?_
        refine lv_iadd hx hb dL_law_585 ?_
        refine W.eq (g2 := F0 m 586 ls [.int 7, .ref b, .int (xs 6), .int 1, .int (xs 4), .ref m0]) (by rfl) ?_
        refine va_sld hx hb hX hbl hbA hS (show vp_in (7) 10 from vp_in_iff.mpr ⟨by decide, by decide⟩) dL_law_586 ?_
        refine W.eq (g2 := F0 m 587 ls [.int (xs 7), .int (xs 6), .int 1, .int (xs 4), .ref m0]) (by rfl) ?_
        refine lv_aload_n hx hb dL_law_587 rfl (lv_at hl 5 rfl) ?_
        refine lv_iload hx hb dL_law_588 (lv_at hl 1 rfl) ?_
        refine lv_iconst (v := 5) hx hb dL_law_590 (by decide) ?_
        refine lv_iadd hx hb dL_law_591 ?_
        refine W.eq (g2 := F0 m 592 ls [.int 8, .ref b, .int (xs 7), .int (xs 6), .int 1, .int (xs 4), .ref m0]) (by rfl) ?_
        refine va_sld hx hb hX hbl hbA hS (show vp_in (8) 10 from vp_in_iff.mpr ⟨by decide, by decide⟩) dL_law_592 ?_
        refine W.eq (g2 := F0 m 593 ls [.int (xs 8), .int (xs 7), .int (xs 6), .int 1, .int (xs 4), .ref m0]) (by rfl) ?_
        refine lv_aload_n hx hb dL_law_593 rfl (lv_at hl 5 rfl) ?_
        refine lv_iload hx hb dL_law_594 (lv_at hl 1 rfl) ?_
        refine lv_bipush (v := 6) hx hb dL_law_596 (by decide) ?_
        refine lv_iadd hx hb dL_law_598 ?_
        refine W.eq (g2 := F0 m 599 ls [.int 9, .ref b, .int (xs 8), .int (xs 7), .int (xs 6), .int 1, .int (xs 4), .ref m0]) (by rfl) ?_
        refine va_sld hx hb hX hbl hbA hS (show vp_in (9) 10 from vp_in_iff.mpr ⟨by decide, by decide⟩) dL_law_599 ?_
        refine W.eq (g2 := F0 m 600 ls [.int (xs 9), .int (xs 8), .int (xs 7), .int (xs 6), .int 1, .int (xs 4), .ref m0]) (by rfl) ?_
        obtain ⟨_, _, _, _, ha_8, _⟩ := tg_20 hTm hmm nx_0
        refine va_calli (rnV (fun H => TH E (T0 E) Gm [] H) (As := [.int (xs 4), .int 1, .int (xs 6), .int (xs 7), .int (xs 8), .int (xs 9)]) (rest := []) ⟨hx, hb, hml, hown, hts⟩ (c_X10_move l E s.heap.size Gm hGzm m0 (xs 4) 1 (xs 6) (xs 7) (xs 8) (xs 9) hmm) (cwV 6 hts (gdV ml_L_86 im_X10_move se_X10_X10_move in_X10 co_X10_move rfl) rfl rfl rfl (by decide +kernel) ⟨Nat.le_of_ble_eq_true rfl, Nat.le_of_ble_eq_true rfl⟩) hTm (fun U hU hW => hK.go hW hS hAz hU) (va_recv hK.1 (va_one ha_8) (ci := 10) (q0 := 0) rfl rfl) rfl rfl hl.1 rfl (lv_room (Nat.le_of_ble_eq_true rfl)) dL_law_600 ⟨Nat.le_of_ble_eq_true rfl, Nat.le_of_ble_eq_true rfl⟩) hS (fun q _ h => hGzm q h) (fun q h => hGzm q h) (fun r_8 _ t H locs ht hvm hw hB hz hk hS => ?_)
        have hro := hro.kept (hk _ hro.lt (fun h => h hGmo))
        obtain ⟨fsx, hatx, hfx⟩ := hB
        rw [ht] at hatx
        rw [if_neg hV] at hfx
        subst hw
        refine lv_istore (lv' := [(6, .int 0), (5, .int 1), (4, .int 3), (3, .ref o0), (2, .ref m0), (1, .ref x0), (0, .ref b)]) hx hb dL_law_603 hl (by decide) rfl (fun ls hl => ?_)
        refine lv_aload_n hx hb dL_law_605 rfl (lv_at hl 4 rfl) ?_
        refine va_calli (rnV (fun H => va_at (DG E) vwCl (m0, .inr (10, fsx)) H) (As := []) (rest := []) ⟨hx, hb, hml, hown, hts⟩ (c_X10_thrown l E s.heap.size m0 fsx 1 hfx) (cwV 0 hts (gdV ml_L_60 im_X10_thrown se_X10_X10_thrown in_X10 co_X10_thrown rfl) rfl rfl rfl (by decide +kernel) ⟨Nat.le_of_ble_eq_true rfl, Nat.le_of_ble_eq_true rfl⟩) hatx (fun U hU hW => hK.go hW hS hAz hU) (va_recv hK.1 (va_one hatx) (ci := 10) (q0 := 0) rfl rfl) rfl rfl hl.1 rfl (lv_room (Nat.le_of_ble_eq_true rfl)) dL_law_606 ⟨Nat.le_of_ble_eq_true rfl, Nat.le_of_ble_eq_true rfl⟩) hS (fun q _ h => h.elim) (fun q h => h.elim) (fun r_9 _ t H locs ht hvm hw hB hz hk hS => ?_)
        have hro := hro.kept (hk _ hro.lt (fun h => h))
        subst hw
        refine lv_iload hx hb dL_law_609 (lv_at hl 1 rfl) ?_
        refine lv_icmp_eq (tgt := 616) hx hb dL_law_611 (by decide) (fun c_10 => ?_) (fun c_10 => absurd c_10 (by decide))
        refine lv_iload hx hb dL_law_616 (lv_at hl 1 rfl) ?_
        refine lv_if_ne (tgt := 633) hx hb dL_law_618 (by decide) (fun c_11 => ?_) (fun c_11 => absurd c_11 (by decide))
        refine lv_goto (tgt := 1116) hx hb dL_law_633 (by decide) ?_
        exact law_tail C0 hS (Nat.le_of_ble_eq_true rfl) (Nat.le_of_ble_eq_true rfl) (lv_sub hl [2, 6] rfl)
    · refine lv_istore (lv' := [(5, .int 2), (4, .int 3), (3, .ref o0), (2, .ref m0), (1, .ref x0), (0, .ref b)]) hx hb dL_law_552 hl (by decide) rfl (fun ls hl => ?_)
      refine lv_aload_n hx hb dL_law_554 rfl (lv_at hl 3 rfl) ?_
      refine lv_aload_n hx hb dL_law_555 rfl (lv_at hl 5 rfl) ?_
      refine lv_iload hx hb dL_law_556 (lv_at hl 1 rfl) ?_
      refine lv_iconst (v := 1) hx hb dL_law_558 (by decide) ?_
      refine lv_iadd hx hb dL_law_559 ?_
      refine W.eq (g2 := F0 m 560 ls [.int 4, .ref b, .ref m0]) (by rfl) ?_
      refine va_sld hx hb hX hbl hbA hS (show vp_in (4) 10 from vp_in_iff.mpr ⟨by decide, by decide⟩) dL_law_560 ?_
      refine W.eq (g2 := F0 m 561 ls [.int (xs 4), .ref m0]) (by rfl) ?_
      refine lv_aload_n hx hb dL_law_561 rfl (lv_at hl 5 rfl) ?_
      refine lv_iload hx hb dL_law_562 (lv_at hl 1 rfl) ?_
      refine lv_iconst (v := 2) hx hb dL_law_564 (by decide) ?_
      refine lv_iadd hx hb dL_law_565 ?_
      refine W.eq (g2 := F0 m 566 ls [.int 5, .ref b, .int (xs 4), .ref m0]) (by rfl) ?_
      refine va_sld hx hb hX hbl hbA hS (show vp_in (5) 10 from vp_in_iff.mpr ⟨by decide, by decide⟩) dL_law_566 ?_
      refine W.eq (g2 := F0 m 567 ls [.int (xs 5), .int (xs 4), .ref m0]) (by rfl) ?_
      refine lv_if_eq (tgt := 574) hx hb dL_law_567 (by decide) (fun c_12 => ?_) (fun c_12 => ?_)
      · simp only [lt_I, le_I, eq_I, i_0, i_1, i_2, i_3, i_4, i_5, i_6, i_7, i_8, i_10, i_12, i_16, i_20, i_23, i_24, i_31, i_32, i_63, i_64, i_m1] at c_12
        refine lv_iconst (v := 0) hx hb dL_law_574 (by decide) ?_
        refine lv_aload_n hx hb dL_law_575 rfl (lv_at hl 5 rfl) ?_
        refine lv_iload hx hb dL_law_576 (lv_at hl 1 rfl) ?_
        refine lv_iconst (v := 3) hx hb dL_law_578 (by decide) ?_
        refine lv_iadd hx hb dL_law_579 ?_
        refine W.eq (g2 := F0 m 580 ls [.int 6, .ref b, .int 0, .int (xs 4), .ref m0]) (by rfl) ?_
        refine va_sld hx hb hX hbl hbA hS (show vp_in (6) 10 from vp_in_iff.mpr ⟨by decide, by decide⟩) dL_law_580 ?_
        refine W.eq (g2 := F0 m 581 ls [.int (xs 6), .int 0, .int (xs 4), .ref m0]) (by rfl) ?_
        refine lv_aload_n hx hb dL_law_581 rfl (lv_at hl 5 rfl) ?_
        refine lv_iload hx hb dL_law_582 (lv_at hl 1 rfl) ?_
        refine lv_iconst (v := 4) hx hb dL_law_584 (by decide) ?_
        refine lv_iadd hx hb dL_law_585 ?_
        refine W.eq (g2 := F0 m 586 ls [.int 7, .ref b, .int (xs 6), .int 0, .int (xs 4), .ref m0]) (by rfl) ?_
        refine va_sld hx hb hX hbl hbA hS (show vp_in (7) 10 from vp_in_iff.mpr ⟨by decide, by decide⟩) dL_law_586 ?_
        refine W.eq (g2 := F0 m 587 ls [.int (xs 7), .int (xs 6), .int 0, .int (xs 4), .ref m0]) (by rfl) ?_
        refine lv_aload_n hx hb dL_law_587 rfl (lv_at hl 5 rfl) ?_
        refine lv_iload hx hb dL_law_588 (lv_at hl 1 rfl) ?_
        refine lv_iconst (v := 5) hx hb dL_law_590 (by decide) ?_
        refine lv_iadd hx hb dL_law_591 ?_
        refine W.eq (g2 := F0 m 592 ls [.int 8, .ref b, .int (xs 7), .int (xs 6), .int 0, .int (xs 4), .ref m0]) (by rfl) ?_
        refine va_sld hx hb hX hbl hbA hS (show vp_in (8) 10 from vp_in_iff.mpr ⟨by decide, by decide⟩) dL_law_592 ?_
        refine W.eq (g2 := F0 m 593 ls [.int (xs 8), .int (xs 7), .int (xs 6), .int 0, .int (xs 4), .ref m0]) (by rfl) ?_
        refine lv_aload_n hx hb dL_law_593 rfl (lv_at hl 5 rfl) ?_
        refine lv_iload hx hb dL_law_594 (lv_at hl 1 rfl) ?_
        refine lv_bipush (v := 6) hx hb dL_law_596 (by decide) ?_
        refine lv_iadd hx hb dL_law_598 ?_
        refine W.eq (g2 := F0 m 599 ls [.int 9, .ref b, .int (xs 8), .int (xs 7), .int (xs 6), .int 0, .int (xs 4), .ref m0]) (by rfl) ?_
        refine va_sld hx hb hX hbl hbA hS (show vp_in (9) 10 from vp_in_iff.mpr ⟨by decide, by decide⟩) dL_law_599 ?_
        refine W.eq (g2 := F0 m 600 ls [.int (xs 9), .int (xs 8), .int (xs 7), .int (xs 6), .int 0, .int (xs 4), .ref m0]) (by rfl) ?_
        obtain ⟨_, _, _, _, ha_13, _⟩ := tg_20 hTm hmm nx_0
        refine va_calli (rnV (fun H => TH E (T0 E) Gm [] H) (As := [.int (xs 4), .int 0, .int (xs 6), .int (xs 7), .int (xs 8), .int (xs 9)]) (rest := []) ⟨hx, hb, hml, hown, hts⟩ (c_X10_move l E s.heap.size Gm hGzm m0 (xs 4) 0 (xs 6) (xs 7) (xs 8) (xs 9) hmm) (cwV 6 hts (gdV ml_L_86 im_X10_move se_X10_X10_move in_X10 co_X10_move rfl) rfl rfl rfl (by decide +kernel) ⟨Nat.le_of_ble_eq_true rfl, Nat.le_of_ble_eq_true rfl⟩) hTm (fun U hU hW => hK.go hW hS hAz hU) (va_recv hK.1 (va_one ha_13) (ci := 10) (q0 := 0) rfl rfl) rfl rfl hl.1 rfl (lv_room (Nat.le_of_ble_eq_true rfl)) dL_law_600 ⟨Nat.le_of_ble_eq_true rfl, Nat.le_of_ble_eq_true rfl⟩) hS (fun q _ h => hGzm q h) (fun q h => hGzm q h) (fun r_13 _ t H locs ht hvm hw hB hz hk hS => ?_)
        have hro := hro.kept (hk _ hro.lt (fun h => h hGmo))
        obtain ⟨fsx, hatx, hfx⟩ := hB
        rw [ht] at hatx
        rw [if_pos hV] at hfx
        subst hw
        refine lv_istore (lv' := [(6, .int 0), (5, .int 2), (4, .int 3), (3, .ref o0), (2, .ref m0), (1, .ref x0), (0, .ref b)]) hx hb dL_law_603 hl (by decide) rfl (fun ls hl => ?_)
        refine lv_aload_n hx hb dL_law_605 rfl (lv_at hl 4 rfl) ?_
        refine va_calli (rnV (fun H => va_at (DG E) vwCl (m0, .inr (10, fsx)) H) (As := []) (rest := []) ⟨hx, hb, hml, hown, hts⟩ (c_X10_thrown l E s.heap.size m0 fsx 2 hfx) (cwV 0 hts (gdV ml_L_60 im_X10_thrown se_X10_X10_thrown in_X10 co_X10_thrown rfl) rfl rfl rfl (by decide +kernel) ⟨Nat.le_of_ble_eq_true rfl, Nat.le_of_ble_eq_true rfl⟩) hatx (fun U hU hW => hK.go hW hS hAz hU) (va_recv hK.1 (va_one hatx) (ci := 10) (q0 := 0) rfl rfl) rfl rfl hl.1 rfl (lv_room (Nat.le_of_ble_eq_true rfl)) dL_law_606 ⟨Nat.le_of_ble_eq_true rfl, Nat.le_of_ble_eq_true rfl⟩) hS (fun q _ h => h.elim) (fun q h => h.elim) (fun r_14 _ t H locs ht hvm hw hB hz hk hS => ?_)
        have hro := hro.kept (hk _ hro.lt (fun h => h))
        subst hw
        refine lv_iload hx hb dL_law_609 (lv_at hl 1 rfl) ?_
        refine lv_icmp_eq (tgt := 616) hx hb dL_law_611 (by decide) (fun c_15 => ?_) (fun c_15 => absurd c_15 (by decide))
        refine lv_iload hx hb dL_law_616 (lv_at hl 1 rfl) ?_
        refine lv_if_ne (tgt := 633) hx hb dL_law_618 (by decide) (fun c_16 => ?_) (fun c_16 => absurd c_16 (by decide))
        refine lv_goto (tgt := 1116) hx hb dL_law_633 (by decide) ?_
        exact law_tail C0 hS (Nat.le_of_ble_eq_true rfl) (Nat.le_of_ble_eq_true rfl) (lv_sub hl [2, 6] rfl)
      · simp only [lt_I, le_I, eq_I, i_0, i_1, i_2, i_3, i_4, i_5, i_6, i_7, i_8, i_10, i_12, i_16, i_20, i_23, i_24, i_31, i_32, i_63, i_64, i_m1] at c_12
        refine lv_iconst (v := 1) hx hb dL_law_570 (by decide) ?_
        refine lv_goto (tgt := 575) hx hb dL_law_571 (by decide) ?_
        refine lv_aload_n hx hb dL_law_575 rfl (lv_at hl 5 rfl) ?_
        refine lv_iload hx hb dL_law_576 (lv_at hl 1 rfl) ?_
        refine lv_iconst (v := 3) hx hb dL_law_578 (by decide) ?_
        refine lv_iadd hx hb dL_law_579 ?_
        refine W.eq (g2 := F0 m 580 ls [.int 6, .ref b, .int 1, .int (xs 4), .ref m0]) (by rfl) ?_
        refine va_sld hx hb hX hbl hbA hS (show vp_in (6) 10 from vp_in_iff.mpr ⟨by decide, by decide⟩) dL_law_580 ?_
        refine W.eq (g2 := F0 m 581 ls [.int (xs 6), .int 1, .int (xs 4), .ref m0]) (by rfl) ?_
        refine lv_aload_n hx hb dL_law_581 rfl (lv_at hl 5 rfl) ?_
        refine lv_iload hx hb dL_law_582 (lv_at hl 1 rfl) ?_
        refine lv_iconst (v := 4) hx hb dL_law_584 (by decide) ?_
        refine lv_iadd hx hb dL_law_585 ?_
        refine W.eq (g2 := F0 m 586 ls [.int 7, .ref b, .int (xs 6), .int 1, .int (xs 4), .ref m0]) (by rfl) ?_
        refine va_sld hx hb hX hbl hbA hS (show vp_in (7) 10 from vp_in_iff.mpr ⟨by decide, by decide⟩) dL_law_586 ?_
        refine W.eq (g2 := F0 m 587 ls [.int (xs 7), .int (xs 6), .int 1, .int (xs 4), .ref m0]) (by rfl) ?_
        refine lv_aload_n hx hb dL_law_587 rfl (lv_at hl 5 rfl) ?_
        refine lv_iload hx hb dL_law_588 (lv_at hl 1 rfl) ?_
        refine lv_iconst (v := 5) hx hb dL_law_590 (by decide) ?_
        refine lv_iadd hx hb dL_law_591 ?_
        refine W.eq (g2 := F0 m 592 ls [.int 8, .ref b, .int (xs 7), .int (xs 6), .int 1, .int (xs 4), .ref m0]) (by rfl) ?_
        refine va_sld hx hb hX hbl hbA hS (show vp_in (8) 10 from vp_in_iff.mpr ⟨by decide, by decide⟩) dL_law_592 ?_
        refine W.eq (g2 := F0 m 593 ls [.int (xs 8), .int (xs 7), .int (xs 6), .int 1, .int (xs 4), .ref m0]) (by rfl) ?_
        refine lv_aload_n hx hb dL_law_593 rfl (lv_at hl 5 rfl) ?_
        refine lv_iload hx hb dL_law_594 (lv_at hl 1 rfl) ?_
        refine lv_bipush (v := 6) hx hb dL_law_596 (by decide) ?_
        refine lv_iadd hx hb dL_law_598 ?_
        refine W.eq (g2 := F0 m 599 ls [.int 9, .ref b, .int (xs 8), .int (xs 7), .int (xs 6), .int 1, .int (xs 4), .ref m0]) (by rfl) ?_
        refine va_sld hx hb hX hbl hbA hS (show vp_in (9) 10 from vp_in_iff.mpr ⟨by decide, by decide⟩) dL_law_599 ?_
        refine W.eq (g2 := F0 m 600 ls [.int (xs 9), .int (xs 8), .int (xs 7), .int (xs 6), .int 1, .int (xs 4), .ref m0]) (by rfl) ?_
        obtain ⟨_, _, _, _, ha_17, _⟩ := tg_20 hTm hmm nx_0
        refine va_calli (rnV (fun H => TH E (T0 E) Gm [] H) (As := [.int (xs 4), .int 1, .int (xs 6), .int (xs 7), .int (xs 8), .int (xs 9)]) (rest := []) ⟨hx, hb, hml, hown, hts⟩ (c_X10_move l E s.heap.size Gm hGzm m0 (xs 4) 1 (xs 6) (xs 7) (xs 8) (xs 9) hmm) (cwV 6 hts (gdV ml_L_86 im_X10_move se_X10_X10_move in_X10 co_X10_move rfl) rfl rfl rfl (by decide +kernel) ⟨Nat.le_of_ble_eq_true rfl, Nat.le_of_ble_eq_true rfl⟩) hTm (fun U hU hW => hK.go hW hS hAz hU) (va_recv hK.1 (va_one ha_17) (ci := 10) (q0 := 0) rfl rfl) rfl rfl hl.1 rfl (lv_room (Nat.le_of_ble_eq_true rfl)) dL_law_600 ⟨Nat.le_of_ble_eq_true rfl, Nat.le_of_ble_eq_true rfl⟩) hS (fun q _ h => hGzm q h) (fun q h => hGzm q h) (fun r_17 _ t H locs ht hvm hw hB hz hk hS => ?_)
        have hro := hro.kept (hk _ hro.lt (fun h => h hGmo))
        obtain ⟨fsx, hatx, hfx⟩ := hB
        rw [ht] at hatx
        rw [if_pos hV] at hfx
        subst hw
        refine lv_istore (lv' := [(6, .int 0), (5, .int 2), (4, .int 3), (3, .ref o0), (2, .ref m0), (1, .ref x0), (0, .ref b)]) hx hb dL_law_603 hl (by decide) rfl (fun ls hl => ?_)
        refine lv_aload_n hx hb dL_law_605 rfl (lv_at hl 4 rfl) ?_
        refine va_calli (rnV (fun H => va_at (DG E) vwCl (m0, .inr (10, fsx)) H) (As := []) (rest := []) ⟨hx, hb, hml, hown, hts⟩ (c_X10_thrown l E s.heap.size m0 fsx 2 hfx) (cwV 0 hts (gdV ml_L_60 im_X10_thrown se_X10_X10_thrown in_X10 co_X10_thrown rfl) rfl rfl rfl (by decide +kernel) ⟨Nat.le_of_ble_eq_true rfl, Nat.le_of_ble_eq_true rfl⟩) hatx (fun U hU hW => hK.go hW hS hAz hU) (va_recv hK.1 (va_one hatx) (ci := 10) (q0 := 0) rfl rfl) rfl rfl hl.1 rfl (lv_room (Nat.le_of_ble_eq_true rfl)) dL_law_606 ⟨Nat.le_of_ble_eq_true rfl, Nat.le_of_ble_eq_true rfl⟩) hS (fun q _ h => h.elim) (fun q h => h.elim) (fun r_18 _ t H locs ht hvm hw hB hz hk hS => ?_)
        have hro := hro.kept (hk _ hro.lt (fun h => h))
        subst hw
        refine lv_iload hx hb dL_law_609 (lv_at hl 1 rfl) ?_
        refine lv_icmp_eq (tgt := 616) hx hb dL_law_611 (by decide) (fun c_19 => ?_) (fun c_19 => absurd c_19 (by decide))
        refine lv_iload hx hb dL_law_616 (lv_at hl 1 rfl) ?_
        refine lv_if_ne (tgt := 633) hx hb dL_law_618 (by decide) (fun c_20 => ?_) (fun c_20 => absurd c_20 (by decide))
        refine lv_goto (tgt := 1116) hx hb dL_law_633 (by decide) ?_
        exact law_tail C0 hS (Nat.le_of_ble_eq_true rfl) (Nat.le_of_ble_eq_true rfl) (lv_sub hl [2, 6] rfl)
  · simp only [lt_I, le_I, eq_I, i_0, i_1, i_2, i_3, i_4, i_5, i_6, i_7, i_8, i_10, i_12, i_16, i_20, i_23, i_24, i_31, i_32, i_63, i_64, i_m1] at c_1
    refine lv_iconst (v := 1) hx hb dL_law_518 (by decide) ?_
    refine lv_goto (tgt := 523) hx hb dL_law_519 (by decide) ?_
    refine lv_aload_n hx hb dL_law_523 rfl (lv_at hl 4 rfl) ?_
    refine lv_iload hx hb dL_law_524 (lv_at hl 0 rfl) ?_
    refine lv_iconst (v := 3) hx hb dL_law_526 (by decide) ?_
    refine lv_iadd hx hb dL_law_527 ?_
    refine W.eq (g2 := F0 m 528 ls [.int 6, .ref b, .int 1, .int (xs 4), .ref x0]) (by rfl) ?_
    refine va_sld hx hb hX hbl hbA hS (show vp_in (6) 10 from vp_in_iff.mpr ⟨by decide, by decide⟩) dL_law_528 ?_
    refine W.eq (g2 := F0 m 529 ls [.int (xs 6), .int 1, .int (xs 4), .ref x0]) (by rfl) ?_
    refine lv_aload_n hx hb dL_law_529 rfl (lv_at hl 4 rfl) ?_
    refine lv_iload hx hb dL_law_530 (lv_at hl 0 rfl) ?_
    refine lv_iconst (v := 4) hx hb dL_law_532 (by decide) ?_
    refine lv_iadd hx hb dL_law_533 ?_
    refine W.eq (g2 := F0 m 534 ls [.int 7, .ref b, .int (xs 6), .int 1, .int (xs 4), .ref x0]) (by rfl) ?_
    refine va_sld hx hb hX hbl hbA hS (show vp_in (7) 10 from vp_in_iff.mpr ⟨by decide, by decide⟩) dL_law_534 ?_
    refine W.eq (g2 := F0 m 535 ls [.int (xs 7), .int (xs 6), .int 1, .int (xs 4), .ref x0]) (by rfl) ?_
    refine lv_aload_n hx hb dL_law_535 rfl (lv_at hl 4 rfl) ?_
    refine lv_iload hx hb dL_law_536 (lv_at hl 0 rfl) ?_
    refine lv_iconst (v := 5) hx hb dL_law_538 (by decide) ?_
    refine lv_iadd hx hb dL_law_539 ?_
    refine W.eq (g2 := F0 m 540 ls [.int 8, .ref b, .int (xs 7), .int (xs 6), .int 1, .int (xs 4), .ref x0]) (by rfl) ?_
    refine va_sld hx hb hX hbl hbA hS (show vp_in (8) 10 from vp_in_iff.mpr ⟨by decide, by decide⟩) dL_law_540 ?_
    refine W.eq (g2 := F0 m 541 ls [.int (xs 8), .int (xs 7), .int (xs 6), .int 1, .int (xs 4), .ref x0]) (by rfl) ?_
    refine lv_aload_n hx hb dL_law_541 rfl (lv_at hl 4 rfl) ?_
    refine lv_iload hx hb dL_law_542 (lv_at hl 0 rfl) ?_
    refine lv_bipush (v := 6) hx hb dL_law_544 (by decide) ?_
    refine lv_iadd hx hb dL_law_546 ?_
    refine W.eq (g2 := F0 m 547 ls [.int 9, .ref b, .int (xs 8), .int (xs 7), .int (xs 6), .int 1, .int (xs 4), .ref x0]) (by rfl) ?_
    refine va_sld hx hb hX hbl hbA hS (show vp_in (9) 10 from vp_in_iff.mpr ⟨by decide, by decide⟩) dL_law_547 ?_
    refine W.eq (g2 := F0 m 548 ls [.int (xs 9), .int (xs 8), .int (xs 7), .int (xs 6), .int 1, .int (xs 4), .ref x0]) (by rfl) ?_
    refine lv_aload_n hx hb dL_law_548 rfl (lv_at hl 1 rfl) ?_
    refine va_calli (vx_runSW (hh := [(0, 18, 21, 13), (0, 18, 25, 22)]) (As := [.ref x0, .int (xs 4), .int 1, .int (xs 6), .int (xs 7), .int (xs 8), .int (xs 9), .ref o0]) (rest := []) ⟨hx, hb, hml, hown, hts⟩ (c_L_move l hst E s.heap.size Gc hGzc x0 (xs 4) 1 (xs 6) (xs 7) (xs 8) (xs 9) o0 hxc) (vx_cwSW 8 hts (gdW ml_L_83 st_L_move in_L co_L_move rfl) rfl rfl rfl (by decide +kernel) ⟨Nat.le_of_ble_eq_true rfl, Nat.le_of_ble_eq_true rfl⟩) ⟨fun a U g mk q => ⟨q.1, q.2.1, KS.calling q.2.2.1, NC.vm q.2.2.2 rfl⟩, fun U hU hW => ⟨rfl, by rw [hU]; exact hTc, hK.go hW hS hAz hU, hN.go hW⟩⟩ rfl rfl hl.1 rfl (lv_room (Nat.le_of_ble_eq_true rfl)) dL_law_549 ⟨Nat.le_of_ble_eq_true rfl, Nat.le_of_ble_eq_true rfl⟩) hS (fun q _ h => hGzc q h) (fun q h => hGzc q h) (fun r_21 _ t H locs ht hvm hw hB hz hk hS => ?_)
    have hTm := hTm.other hd hk
    have hro := hro.kept (hk _ hro.lt (fun h => h hGco))
    rcases hw with ⟨rfl, hV⟩ | ⟨rfl, hV⟩
    · refine lv_istore (lv' := [(5, .int 1), (4, .int 3), (3, .ref o0), (2, .ref m0), (1, .ref x0), (0, .ref b)]) hx hb dL_law_552 hl (by decide) rfl (fun ls hl => ?_)
      refine lv_aload_n hx hb dL_law_554 rfl (lv_at hl 3 rfl) ?_
      refine lv_aload_n hx hb dL_law_555 rfl (lv_at hl 5 rfl) ?_
      refine lv_iload hx hb dL_law_556 (lv_at hl 1 rfl) ?_
      refine lv_iconst (v := 1) hx hb dL_law_558 (by decide) ?_
      refine lv_iadd hx hb dL_law_559 ?_
      refine W.eq (g2 := F0 m 560 ls [.int 4, .ref b, .ref m0]) (by rfl) ?_
      refine va_sld hx hb hX hbl hbA hS (show vp_in (4) 10 from vp_in_iff.mpr ⟨by decide, by decide⟩) dL_law_560 ?_
      refine W.eq (g2 := F0 m 561 ls [.int (xs 4), .ref m0]) (by rfl) ?_
      refine lv_aload_n hx hb dL_law_561 rfl (lv_at hl 5 rfl) ?_
      refine lv_iload hx hb dL_law_562 (lv_at hl 1 rfl) ?_
      refine lv_iconst (v := 2) hx hb dL_law_564 (by decide) ?_
      refine lv_iadd hx hb dL_law_565 ?_
      refine W.eq (g2 := F0 m 566 ls [.int 5, .ref b, .int (xs 4), .ref m0]) (by rfl) ?_
      refine va_sld hx hb hX hbl hbA hS (show vp_in (5) 10 from vp_in_iff.mpr ⟨by decide, by decide⟩) dL_law_566 ?_
      refine W.eq (g2 := F0 m 567 ls [.int (xs 5), .int (xs 4), .ref m0]) (by rfl) ?_
      refine lv_if_eq (tgt := 574) hx hb dL_law_567 (by decide) (fun c_22 => ?_) (fun c_22 => ?_)
      · simp only [lt_I, le_I, eq_I, i_0, i_1, i_2, i_3, i_4, i_5, i_6, i_7, i_8, i_10, i_12, i_16, i_20, i_23, i_24, i_31, i_32, i_63, i_64, i_m1] at c_22
        refine lv_iconst (v := 0) hx hb dL_law_574 (by decide) ?_
        refine lv_aload_n hx hb dL_law_575 rfl (lv_at hl 5 rfl) ?_
        refine lv_iload hx hb dL_law_576 (lv_at hl 1 rfl) ?_
        refine lv_iconst (v := 3) hx hb dL_law_578 (by decide) ?_
        refine lv_iadd hx hb dL_law_579 ?_
        refine W.eq (g2 := F0 m 580 ls [.int 6, .ref b, .int 0, .int (xs 4), .ref m0]) (by rfl) ?_
        refine va_sld hx hb hX hbl hbA hS (show vp_in (6) 10 from vp_in_iff.mpr ⟨by decide, by decide⟩) dL_law_580 ?_
        refine W.eq (g2 := F0 m 581 ls [.int (xs 6), .int 0, .int (xs 4), .ref m0]) (by rfl) ?_
        refine lv_aload_n hx hb dL_law_581 rfl (lv_at hl 5 rfl) ?_
        refine lv_iload hx hb dL_law_582 (lv_at hl 1 rfl) ?_
        refine lv_iconst (v := 4) hx hb dL_law_584 (by decide) ?_
        refine lv_iadd hx hb dL_law_585 ?_
        refine W.eq (g2 := F0 m 586 ls [.int 7, .ref b, .int (xs 6), .int 0, .int (xs 4), .ref m0]) (by rfl) ?_
        refine va_sld hx hb hX hbl hbA hS (show vp_in (7) 10 from vp_in_iff.mpr ⟨by decide, by decide⟩) dL_law_586 ?_
        refine W.eq (g2 := F0 m 587 ls [.int (xs 7), .int (xs 6), .int 0, .int (xs 4), .ref m0]) (by rfl) ?_
        refine lv_aload_n hx hb dL_law_587 rfl (lv_at hl 5 rfl) ?_
        refine lv_iload hx hb dL_law_588 (lv_at hl 1 rfl) ?_
        refine lv_iconst (v := 5) hx hb dL_law_590 (by decide) ?_
        refine lv_iadd hx hb dL_law_591 ?_
        refine W.eq (g2 := F0 m 592 ls [.int 8, .ref b, .int (xs 7), .int (xs 6), .int 0, .int (xs 4), .ref m0]) (by rfl) ?_
        refine va_sld hx hb hX hbl hbA hS (show vp_in (8) 10 from vp_in_iff.mpr ⟨by decide, by decide⟩) dL_law_592 ?_
        refine W.eq (g2 := F0 m 593 ls [.int (xs 8), .int (xs 7), .int (xs 6), .int 0, .int (xs 4), .ref m0]) (by rfl) ?_
        refine lv_aload_n hx hb dL_law_593 rfl (lv_at hl 5 rfl) ?_
        refine lv_iload hx hb dL_law_594 (lv_at hl 1 rfl) ?_
        refine lv_bipush (v := 6) hx hb dL_law_596 (by decide) ?_
        refine lv_iadd hx hb dL_law_598 ?_
        refine W.eq (g2 := F0 m 599 ls [.int 9, .ref b, .int (xs 8), .int (xs 7), .int (xs 6), .int 0, .int (xs 4), .ref m0]) (by rfl) ?_
        refine va_sld hx hb hX hbl hbA hS (show vp_in (9) 10 from vp_in_iff.mpr ⟨by decide, by decide⟩) dL_law_599 ?_
        refine W.eq (g2 := F0 m 600 ls [.int (xs 9), .int (xs 8), .int (xs 7), .int (xs 6), .int 0, .int (xs 4), .ref m0]) (by rfl) ?_
        obtain ⟨_, _, _, _, ha_23, _⟩ := tg_20 hTm hmm nx_0
        refine va_calli (rnV (fun H => TH E (T0 E) Gm [] H) (As := [.int (xs 4), .int 0, .int (xs 6), .int (xs 7), .int (xs 8), .int (xs 9)]) (rest := []) ⟨hx, hb, hml, hown, hts⟩ (c_X10_move l E s.heap.size Gm hGzm m0 (xs 4) 0 (xs 6) (xs 7) (xs 8) (xs 9) hmm) (cwV 6 hts (gdV ml_L_86 im_X10_move se_X10_X10_move in_X10 co_X10_move rfl) rfl rfl rfl (by decide +kernel) ⟨Nat.le_of_ble_eq_true rfl, Nat.le_of_ble_eq_true rfl⟩) hTm (fun U hU hW => hK.go hW hS hAz hU) (va_recv hK.1 (va_one ha_23) (ci := 10) (q0 := 0) rfl rfl) rfl rfl hl.1 rfl (lv_room (Nat.le_of_ble_eq_true rfl)) dL_law_600 ⟨Nat.le_of_ble_eq_true rfl, Nat.le_of_ble_eq_true rfl⟩) hS (fun q _ h => hGzm q h) (fun q h => hGzm q h) (fun r_23 _ t H locs ht hvm hw hB hz hk hS => ?_)
        have hro := hro.kept (hk _ hro.lt (fun h => h hGmo))
        obtain ⟨fsx, hatx, hfx⟩ := hB
        rw [ht] at hatx
        rw [if_neg hV] at hfx
        subst hw
        refine lv_istore (lv' := [(6, .int 0), (5, .int 1), (4, .int 3), (3, .ref o0), (2, .ref m0), (1, .ref x0), (0, .ref b)]) hx hb dL_law_603 hl (by decide) rfl (fun ls hl => ?_)
        refine lv_aload_n hx hb dL_law_605 rfl (lv_at hl 4 rfl) ?_
        refine va_calli (rnV (fun H => va_at (DG E) vwCl (m0, .inr (10, fsx)) H) (As := []) (rest := []) ⟨hx, hb, hml, hown, hts⟩ (c_X10_thrown l E s.heap.size m0 fsx 1 hfx) (cwV 0 hts (gdV ml_L_60 im_X10_thrown se_X10_X10_thrown in_X10 co_X10_thrown rfl) rfl rfl rfl (by decide +kernel) ⟨Nat.le_of_ble_eq_true rfl, Nat.le_of_ble_eq_true rfl⟩) hatx (fun U hU hW => hK.go hW hS hAz hU) (va_recv hK.1 (va_one hatx) (ci := 10) (q0 := 0) rfl rfl) rfl rfl hl.1 rfl (lv_room (Nat.le_of_ble_eq_true rfl)) dL_law_606 ⟨Nat.le_of_ble_eq_true rfl, Nat.le_of_ble_eq_true rfl⟩) hS (fun q _ h => h.elim) (fun q h => h.elim) (fun r_24 _ t H locs ht hvm hw hB hz hk hS => ?_)
        have hro := hro.kept (hk _ hro.lt (fun h => h))
        subst hw
        refine lv_iload hx hb dL_law_609 (lv_at hl 1 rfl) ?_
        refine lv_icmp_eq (tgt := 616) hx hb dL_law_611 (by decide) (fun c_25 => ?_) (fun c_25 => absurd c_25 (by decide))
        refine lv_iload hx hb dL_law_616 (lv_at hl 1 rfl) ?_
        refine lv_if_ne (tgt := 633) hx hb dL_law_618 (by decide) (fun c_26 => ?_) (fun c_26 => absurd c_26 (by decide))
        refine lv_goto (tgt := 1116) hx hb dL_law_633 (by decide) ?_
        exact law_tail C0 hS (Nat.le_of_ble_eq_true rfl) (Nat.le_of_ble_eq_true rfl) (lv_sub hl [2, 6] rfl)
      · simp only [lt_I, le_I, eq_I, i_0, i_1, i_2, i_3, i_4, i_5, i_6, i_7, i_8, i_10, i_12, i_16, i_20, i_23, i_24, i_31, i_32, i_63, i_64, i_m1] at c_22
        refine lv_iconst (v := 1) hx hb dL_law_570 (by decide) ?_
        refine lv_goto (tgt := 575) hx hb dL_law_571 (by decide) ?_
        refine lv_aload_n hx hb dL_law_575 rfl (lv_at hl 5 rfl) ?_
        refine lv_iload hx hb dL_law_576 (lv_at hl 1 rfl) ?_
        refine lv_iconst (v := 3) hx hb dL_law_578 (by decide) ?_
        refine lv_iadd hx hb dL_law_579 ?_
        refine W.eq (g2 := F0 m 580 ls [.int 6, .ref b, .int 1, .int (xs 4), .ref m0]) (by rfl) ?_
        refine va_sld hx hb hX hbl hbA hS (show vp_in (6) 10 from vp_in_iff.mpr ⟨by decide, by decide⟩) dL_law_580 ?_
        refine W.eq (g2 := F0 m 581 ls [.int (xs 6), .int 1, .int (xs 4), .ref m0]) (by rfl) ?_
        refine lv_aload_n hx hb dL_law_581 rfl (lv_at hl 5 rfl) ?_
        refine lv_iload hx hb dL_law_582 (lv_at hl 1 rfl) ?_
        refine lv_iconst (v := 4) hx hb dL_law_584 (by decide) ?_
        refine lv_iadd hx hb dL_law_585 ?_
        refine W.eq (g2 := F0 m 586 ls [.int 7, .ref b, .int (xs 6), .int 1, .int (xs 4), .ref m0]) (by rfl) ?_
        refine va_sld hx hb hX hbl hbA hS (show vp_in (7) 10 from vp_in_iff.mpr ⟨by decide, by decide⟩) dL_law_586 ?_
        refine W.eq (g2 := F0 m 587 ls [.int (xs 7), .int (xs 6), .int 1, .int (xs 4), .ref m0]) (by rfl) ?_
        refine lv_aload_n hx hb dL_law_587 rfl (lv_at hl 5 rfl) ?_
        refine lv_iload hx hb dL_law_588 (lv_at hl 1 rfl) ?_
        refine lv_iconst (v := 5) hx hb dL_law_590 (by decide) ?_
        refine lv_iadd hx hb dL_law_591 ?_
        refine W.eq (g2 := F0 m 592 ls [.int 8, .ref b, .int (xs 7), .int (xs 6), .int 1, .int (xs 4), .ref m0]) (by rfl) ?_
        refine va_sld hx hb hX hbl hbA hS (show vp_in (8) 10 from vp_in_iff.mpr ⟨by decide, by decide⟩) dL_law_592 ?_
        refine W.eq (g2 := F0 m 593 ls [.int (xs 8), .int (xs 7), .int (xs 6), .int 1, .int (xs 4), .ref m0]) (by rfl) ?_
        refine lv_aload_n hx hb dL_law_593 rfl (lv_at hl 5 rfl) ?_
        refine lv_iload hx hb dL_law_594 (lv_at hl 1 rfl) ?_
        refine lv_bipush (v := 6) hx hb dL_law_596 (by decide) ?_
        refine lv_iadd hx hb dL_law_598 ?_
        refine W.eq (g2 := F0 m 599 ls [.int 9, .ref b, .int (xs 8), .int (xs 7), .int (xs 6), .int 1, .int (xs 4), .ref m0]) (by rfl) ?_
        refine va_sld hx hb hX hbl hbA hS (show vp_in (9) 10 from vp_in_iff.mpr ⟨by decide, by decide⟩) dL_law_599 ?_
        refine W.eq (g2 := F0 m 600 ls [.int (xs 9), .int (xs 8), .int (xs 7), .int (xs 6), .int 1, .int (xs 4), .ref m0]) (by rfl) ?_
        obtain ⟨_, _, _, _, ha_27, _⟩ := tg_20 hTm hmm nx_0
        refine va_calli (rnV (fun H => TH E (T0 E) Gm [] H) (As := [.int (xs 4), .int 1, .int (xs 6), .int (xs 7), .int (xs 8), .int (xs 9)]) (rest := []) ⟨hx, hb, hml, hown, hts⟩ (c_X10_move l E s.heap.size Gm hGzm m0 (xs 4) 1 (xs 6) (xs 7) (xs 8) (xs 9) hmm) (cwV 6 hts (gdV ml_L_86 im_X10_move se_X10_X10_move in_X10 co_X10_move rfl) rfl rfl rfl (by decide +kernel) ⟨Nat.le_of_ble_eq_true rfl, Nat.le_of_ble_eq_true rfl⟩) hTm (fun U hU hW => hK.go hW hS hAz hU) (va_recv hK.1 (va_one ha_27) (ci := 10) (q0 := 0) rfl rfl) rfl rfl hl.1 rfl (lv_room (Nat.le_of_ble_eq_true rfl)) dL_law_600 ⟨Nat.le_of_ble_eq_true rfl, Nat.le_of_ble_eq_true rfl⟩) hS (fun q _ h => hGzm q h) (fun q h => hGzm q h) (fun r_27 _ t H locs ht hvm hw hB hz hk hS => ?_)
        have hro := hro.kept (hk _ hro.lt (fun h => h hGmo))
        obtain ⟨fsx, hatx, hfx⟩ := hB
        rw [ht] at hatx
        rw [if_neg hV] at hfx
        subst hw
        refine lv_istore (lv' := [(6, .int 0), (5, .int 1), (4, .int 3), (3, .ref o0), (2, .ref m0), (1, .ref x0), (0, .ref b)]) hx hb dL_law_603 hl (by decide) rfl (fun ls hl => ?_)
        refine lv_aload_n hx hb dL_law_605 rfl (lv_at hl 4 rfl) ?_
        refine va_calli (rnV (fun H => va_at (DG E) vwCl (m0, .inr (10, fsx)) H) (As := []) (rest := []) ⟨hx, hb, hml, hown, hts⟩ (c_X10_thrown l E s.heap.size m0 fsx 1 hfx) (cwV 0 hts (gdV ml_L_60 im_X10_thrown se_X10_X10_thrown in_X10 co_X10_thrown rfl) rfl rfl rfl (by decide +kernel) ⟨Nat.le_of_ble_eq_true rfl, Nat.le_of_ble_eq_true rfl⟩) hatx (fun U hU hW => hK.go hW hS hAz hU) (va_recv hK.1 (va_one hatx) (ci := 10) (q0 := 0) rfl rfl) rfl rfl hl.1 rfl (lv_room (Nat.le_of_ble_eq_true rfl)) dL_law_606 ⟨Nat.le_of_ble_eq_true rfl, Nat.le_of_ble_eq_true rfl⟩) hS (fun q _ h => h.elim) (fun q h => h.elim) (fun r_28 _ t H locs ht hvm hw hB hz hk hS => ?_)
        have hro := hro.kept (hk _ hro.lt (fun h => h))
        subst hw
        refine lv_iload hx hb dL_law_609 (lv_at hl 1 rfl) ?_
        refine lv_icmp_eq (tgt := 616) hx hb dL_law_611 (by decide) (fun c_29 => ?_) (fun c_29 => absurd c_29 (by decide))
        refine lv_iload hx hb dL_law_616 (lv_at hl 1 rfl) ?_
        refine lv_if_ne (tgt := 633) hx hb dL_law_618 (by decide) (fun c_30 => ?_) (fun c_30 => absurd c_30 (by decide))
        refine lv_goto (tgt := 1116) hx hb dL_law_633 (by decide) ?_
        exact law_tail C0 hS (Nat.le_of_ble_eq_true rfl) (Nat.le_of_ble_eq_true rfl) (lv_sub hl [2, 6] rfl)
    · refine lv_istore (lv' := [(5, .int 2), (4, .int 3), (3, .ref o0), (2, .ref m0), (1, .ref x0), (0, .ref b)]) hx hb dL_law_552 hl (by decide) rfl (fun ls hl => ?_)
      refine lv_aload_n hx hb dL_law_554 rfl (lv_at hl 3 rfl) ?_
      refine lv_aload_n hx hb dL_law_555 rfl (lv_at hl 5 rfl) ?_
      refine lv_iload hx hb dL_law_556 (lv_at hl 1 rfl) ?_
      refine lv_iconst (v := 1) hx hb dL_law_558 (by decide) ?_
      refine lv_iadd hx hb dL_law_559 ?_
      refine W.eq (g2 := F0 m 560 ls [.int 4, .ref b, .ref m0]) (by rfl) ?_
      refine va_sld hx hb hX hbl hbA hS (show vp_in (4) 10 from vp_in_iff.mpr ⟨by decide, by decide⟩) dL_law_560 ?_
      refine W.eq (g2 := F0 m 561 ls [.int (xs 4), .ref m0]) (by rfl) ?_
      refine lv_aload_n hx hb dL_law_561 rfl (lv_at hl 5 rfl) ?_
      refine lv_iload hx hb dL_law_562 (lv_at hl 1 rfl) ?_
      refine lv_iconst (v := 2) hx hb dL_law_564 (by decide) ?_
      refine lv_iadd hx hb dL_law_565 ?_
      refine W.eq (g2 := F0 m 566 ls [.int 5, .ref b, .int (xs 4), .ref m0]) (by rfl) ?_
      refine va_sld hx hb hX hbl hbA hS (show vp_in (5) 10 from vp_in_iff.mpr ⟨by decide, by decide⟩) dL_law_566 ?_
      refine W.eq (g2 := F0 m 567 ls [.int (xs 5), .int (xs 4), .ref m0]) (by rfl) ?_
      refine lv_if_eq (tgt := 574) hx hb dL_law_567 (by decide) (fun c_31 => ?_) (fun c_31 => ?_)
      · simp only [lt_I, le_I, eq_I, i_0, i_1, i_2, i_3, i_4, i_5, i_6, i_7, i_8, i_10, i_12, i_16, i_20, i_23, i_24, i_31, i_32, i_63, i_64, i_m1] at c_31
        refine lv_iconst (v := 0) hx hb dL_law_574 (by decide) ?_
        refine lv_aload_n hx hb dL_law_575 rfl (lv_at hl 5 rfl) ?_
        refine lv_iload hx hb dL_law_576 (lv_at hl 1 rfl) ?_
        refine lv_iconst (v := 3) hx hb dL_law_578 (by decide) ?_
        refine lv_iadd hx hb dL_law_579 ?_
        refine W.eq (g2 := F0 m 580 ls [.int 6, .ref b, .int 0, .int (xs 4), .ref m0]) (by rfl) ?_
        refine va_sld hx hb hX hbl hbA hS (show vp_in (6) 10 from vp_in_iff.mpr ⟨by decide, by decide⟩) dL_law_580 ?_
        refine W.eq (g2 := F0 m 581 ls [.int (xs 6), .int 0, .int (xs 4), .ref m0]) (by rfl) ?_
        refine lv_aload_n hx hb dL_law_581 rfl (lv_at hl 5 rfl) ?_
        refine lv_iload hx hb dL_law_582 (lv_at hl 1 rfl) ?_
        refine lv_iconst (v := 4) hx hb dL_law_584 (by decide) ?_
        refine lv_iadd hx hb dL_law_585 ?_
        refine W.eq (g2 := F0 m 586 ls [.int 7, .ref b, .int (xs 6), .int 0, .int (xs 4), .ref m0]) (by rfl) ?_
        refine va_sld hx hb hX hbl hbA hS (show vp_in (7) 10 from vp_in_iff.mpr ⟨by decide, by decide⟩) dL_law_586 ?_
        refine W.eq (g2 := F0 m 587 ls [.int (xs 7), .int (xs 6), .int 0, .int (xs 4), .ref m0]) (by rfl) ?_
        refine lv_aload_n hx hb dL_law_587 rfl (lv_at hl 5 rfl) ?_
        refine lv_iload hx hb dL_law_588 (lv_at hl 1 rfl) ?_
        refine lv_iconst (v := 5) hx hb dL_law_590 (by decide) ?_
        refine lv_iadd hx hb dL_law_591 ?_
        refine W.eq (g2 := F0 m 592 ls [.int 8, .ref b, .int (xs 7), .int (xs 6), .int 0, .int (xs 4), .ref m0]) (by rfl) ?_
        refine va_sld hx hb hX hbl hbA hS (show vp_in (8) 10 from vp_in_iff.mpr ⟨by decide, by decide⟩) dL_law_592 ?_
        refine W.eq (g2 := F0 m 593 ls [.int (xs 8), .int (xs 7), .int (xs 6), .int 0, .int (xs 4), .ref m0]) (by rfl) ?_
        refine lv_aload_n hx hb dL_law_593 rfl (lv_at hl 5 rfl) ?_
        refine lv_iload hx hb dL_law_594 (lv_at hl 1 rfl) ?_
        refine lv_bipush (v := 6) hx hb dL_law_596 (by decide) ?_
        refine lv_iadd hx hb dL_law_598 ?_
        refine W.eq (g2 := F0 m 599 ls [.int 9, .ref b, .int (xs 8), .int (xs 7), .int (xs 6), .int 0, .int (xs 4), .ref m0]) (by rfl) ?_
        refine va_sld hx hb hX hbl hbA hS (show vp_in (9) 10 from vp_in_iff.mpr ⟨by decide, by decide⟩) dL_law_599 ?_
        refine W.eq (g2 := F0 m 600 ls [.int (xs 9), .int (xs 8), .int (xs 7), .int (xs 6), .int 0, .int (xs 4), .ref m0]) (by rfl) ?_
        obtain ⟨_, _, _, _, ha_32, _⟩ := tg_20 hTm hmm nx_0
        refine va_calli (rnV (fun H => TH E (T0 E) Gm [] H) (As := [.int (xs 4), .int 0, .int (xs 6), .int (xs 7), .int (xs 8), .int (xs 9)]) (rest := []) ⟨hx, hb, hml, hown, hts⟩ (c_X10_move l E s.heap.size Gm hGzm m0 (xs 4) 0 (xs 6) (xs 7) (xs 8) (xs 9) hmm) (cwV 6 hts (gdV ml_L_86 im_X10_move se_X10_X10_move in_X10 co_X10_move rfl) rfl rfl rfl (by decide +kernel) ⟨Nat.le_of_ble_eq_true rfl, Nat.le_of_ble_eq_true rfl⟩) hTm (fun U hU hW => hK.go hW hS hAz hU) (va_recv hK.1 (va_one ha_32) (ci := 10) (q0 := 0) rfl rfl) rfl rfl hl.1 rfl (lv_room (Nat.le_of_ble_eq_true rfl)) dL_law_600 ⟨Nat.le_of_ble_eq_true rfl, Nat.le_of_ble_eq_true rfl⟩) hS (fun q _ h => hGzm q h) (fun q h => hGzm q h) (fun r_32 _ t H locs ht hvm hw hB hz hk hS => ?_)
        have hro := hro.kept (hk _ hro.lt (fun h => h hGmo))
        obtain ⟨fsx, hatx, hfx⟩ := hB
        rw [ht] at hatx
        rw [if_pos hV] at hfx
        subst hw
        refine lv_istore (lv' := [(6, .int 0), (5, .int 2), (4, .int 3), (3, .ref o0), (2, .ref m0), (1, .ref x0), (0, .ref b)]) hx hb dL_law_603 hl (by decide) rfl (fun ls hl => ?_)
        refine lv_aload_n hx hb dL_law_605 rfl (lv_at hl 4 rfl) ?_
        refine va_calli (rnV (fun H => va_at (DG E) vwCl (m0, .inr (10, fsx)) H) (As := []) (rest := []) ⟨hx, hb, hml, hown, hts⟩ (c_X10_thrown l E s.heap.size m0 fsx 2 hfx) (cwV 0 hts (gdV ml_L_60 im_X10_thrown se_X10_X10_thrown in_X10 co_X10_thrown rfl) rfl rfl rfl (by decide +kernel) ⟨Nat.le_of_ble_eq_true rfl, Nat.le_of_ble_eq_true rfl⟩) hatx (fun U hU hW => hK.go hW hS hAz hU) (va_recv hK.1 (va_one hatx) (ci := 10) (q0 := 0) rfl rfl) rfl rfl hl.1 rfl (lv_room (Nat.le_of_ble_eq_true rfl)) dL_law_606 ⟨Nat.le_of_ble_eq_true rfl, Nat.le_of_ble_eq_true rfl⟩) hS (fun q _ h => h.elim) (fun q h => h.elim) (fun r_33 _ t H locs ht hvm hw hB hz hk hS => ?_)
        have hro := hro.kept (hk _ hro.lt (fun h => h))
        subst hw
        refine lv_iload hx hb dL_law_609 (lv_at hl 1 rfl) ?_
        refine lv_icmp_eq (tgt := 616) hx hb dL_law_611 (by decide) (fun c_34 => ?_) (fun c_34 => absurd c_34 (by decide))
        refine lv_iload hx hb dL_law_616 (lv_at hl 1 rfl) ?_
        refine lv_if_ne (tgt := 633) hx hb dL_law_618 (by decide) (fun c_35 => ?_) (fun c_35 => absurd c_35 (by decide))
        refine lv_goto (tgt := 1116) hx hb dL_law_633 (by decide) ?_
        exact law_tail C0 hS (Nat.le_of_ble_eq_true rfl) (Nat.le_of_ble_eq_true rfl) (lv_sub hl [2, 6] rfl)
      · simp only [lt_I, le_I, eq_I, i_0, i_1, i_2, i_3, i_4, i_5, i_6, i_7, i_8, i_10, i_12, i_16, i_20, i_23, i_24, i_31, i_32, i_63, i_64, i_m1] at c_31
        refine lv_iconst (v := 1) hx hb dL_law_570 (by decide) ?_
        refine lv_goto (tgt := 575) hx hb dL_law_571 (by decide) ?_
        refine lv_aload_n hx hb dL_law_575 rfl (lv_at hl 5 rfl) ?_
        refine lv_iload hx hb dL_law_576 (lv_at hl 1 rfl) ?_
        refine lv_iconst (v := 3) hx hb dL_law_578 (by decide) ?_
        refine lv_iadd hx hb dL_law_579 ?_
        refine W.eq (g2 := F0 m 580 ls [.int 6, .ref b, .int 1, .int (xs 4), .ref m0]) (by rfl) ?_
        refine va_sld hx hb hX hbl hbA hS (show vp_in (6) 10 from vp_in_iff.mpr ⟨by decide, by decide⟩) dL_law_580 ?_
        refine W.eq (g2 := F0 m 581 ls [.int (xs 6), .int 1, .int (xs 4), .ref m0]) (by rfl) ?_
        refine lv_aload_n hx hb dL_law_581 rfl (lv_at hl 5 rfl) ?_
        refine lv_iload hx hb dL_law_582 (lv_at hl 1 rfl) ?_
        refine lv_iconst (v := 4) hx hb dL_law_584 (by decide) ?_
        refine lv_iadd hx hb dL_law_585 ?_
        refine W.eq (g2 := F0 m 586 ls [.int 7, .ref b, .int (xs 6), .int 1, .int (xs 4), .ref m0]) (by rfl) ?_
        refine va_sld hx hb hX hbl hbA hS (show vp_in (7) 10 from vp_in_iff.mpr ⟨by decide, by decide⟩) dL_law_586 ?_
        refine W.eq (g2 := F0 m 587 ls [.int (xs 7), .int (xs 6), .int 1, .int (xs 4), .ref m0]) (by rfl) ?_
        refine lv_aload_n hx hb dL_law_587 rfl (lv_at hl 5 rfl) ?_
        refine lv_iload hx hb dL_law_588 (lv_at hl 1 rfl) ?_
        refine lv_iconst (v := 5) hx hb dL_law_590 (by decide) ?_
        refine lv_iadd hx hb dL_law_591 ?_
        refine W.eq (g2 := F0 m 592 ls [.int 8, .ref b, .int (xs 7), .int (xs 6), .int 1, .int (xs 4), .ref m0]) (by rfl) ?_
        refine va_sld hx hb hX hbl hbA hS (show vp_in (8) 10 from vp_in_iff.mpr ⟨by decide, by decide⟩) dL_law_592 ?_
        refine W.eq (g2 := F0 m 593 ls [.int (xs 8), .int (xs 7), .int (xs 6), .int 1, .int (xs 4), .ref m0]) (by rfl) ?_
        refine lv_aload_n hx hb dL_law_593 rfl (lv_at hl 5 rfl) ?_
        refine lv_iload hx hb dL_law_594 (lv_at hl 1 rfl) ?_
        refine lv_bipush (v := 6) hx hb dL_law_596 (by decide) ?_
        refine lv_iadd hx hb dL_law_598 ?_
        refine W.eq (g2 := F0 m 599 ls [.int 9, .ref b, .int (xs 8), .int (xs 7), .int (xs 6), .int 1, .int (xs 4), .ref m0]) (by rfl) ?_
        refine va_sld hx hb hX hbl hbA hS (show vp_in (9) 10 from vp_in_iff.mpr ⟨by decide, by decide⟩) dL_law_599 ?_
        refine W.eq (g2 := F0 m 600 ls [.int (xs 9), .int (xs 8), .int (xs 7), .int (xs 6), .int 1, .int (xs 4), .ref m0]) (by rfl) ?_
        obtain ⟨_, _, _, _, ha_36, _⟩ := tg_20 hTm hmm nx_0
        refine va_calli (rnV (fun H => TH E (T0 E) Gm [] H) (As := [.int (xs 4), .int 1, .int (xs 6), .int (xs 7), .int (xs 8), .int (xs 9)]) (rest := []) ⟨hx, hb, hml, hown, hts⟩ (c_X10_move l E s.heap.size Gm hGzm m0 (xs 4) 1 (xs 6) (xs 7) (xs 8) (xs 9) hmm) (cwV 6 hts (gdV ml_L_86 im_X10_move se_X10_X10_move in_X10 co_X10_move rfl) rfl rfl rfl (by decide +kernel) ⟨Nat.le_of_ble_eq_true rfl, Nat.le_of_ble_eq_true rfl⟩) hTm (fun U hU hW => hK.go hW hS hAz hU) (va_recv hK.1 (va_one ha_36) (ci := 10) (q0 := 0) rfl rfl) rfl rfl hl.1 rfl (lv_room (Nat.le_of_ble_eq_true rfl)) dL_law_600 ⟨Nat.le_of_ble_eq_true rfl, Nat.le_of_ble_eq_true rfl⟩) hS (fun q _ h => hGzm q h) (fun q h => hGzm q h) (fun r_36 _ t H locs ht hvm hw hB hz hk hS => ?_)
        have hro := hro.kept (hk _ hro.lt (fun h => h hGmo))
        obtain ⟨fsx, hatx, hfx⟩ := hB
        rw [ht] at hatx
        rw [if_pos hV] at hfx
        subst hw
        refine lv_istore (lv' := [(6, .int 0), (5, .int 2), (4, .int 3), (3, .ref o0), (2, .ref m0), (1, .ref x0), (0, .ref b)]) hx hb dL_law_603 hl (by decide) rfl (fun ls hl => ?_)
        refine lv_aload_n hx hb dL_law_605 rfl (lv_at hl 4 rfl) ?_
        refine va_calli (rnV (fun H => va_at (DG E) vwCl (m0, .inr (10, fsx)) H) (As := []) (rest := []) ⟨hx, hb, hml, hown, hts⟩ (c_X10_thrown l E s.heap.size m0 fsx 2 hfx) (cwV 0 hts (gdV ml_L_60 im_X10_thrown se_X10_X10_thrown in_X10 co_X10_thrown rfl) rfl rfl rfl (by decide +kernel) ⟨Nat.le_of_ble_eq_true rfl, Nat.le_of_ble_eq_true rfl⟩) hatx (fun U hU hW => hK.go hW hS hAz hU) (va_recv hK.1 (va_one hatx) (ci := 10) (q0 := 0) rfl rfl) rfl rfl hl.1 rfl (lv_room (Nat.le_of_ble_eq_true rfl)) dL_law_606 ⟨Nat.le_of_ble_eq_true rfl, Nat.le_of_ble_eq_true rfl⟩) hS (fun q _ h => h.elim) (fun q h => h.elim) (fun r_37 _ t H locs ht hvm hw hB hz hk hS => ?_)
        have hro := hro.kept (hk _ hro.lt (fun h => h))
        subst hw
        refine lv_iload hx hb dL_law_609 (lv_at hl 1 rfl) ?_
        refine lv_icmp_eq (tgt := 616) hx hb dL_law_611 (by decide) (fun c_38 => ?_) (fun c_38 => absurd c_38 (by decide))
        refine lv_iload hx hb dL_law_616 (lv_at hl 1 rfl) ?_
        refine lv_if_ne (tgt := 633) hx hb dL_law_618 (by decide) (fun c_39 => ?_) (fun c_39 => absurd c_39 (by decide))
        refine lv_goto (tgt := 1116) hx hb dL_law_633 (by decide) ?_
        exact law_tail C0 hS (Nat.le_of_ble_eq_true rfl) (Nat.le_of_ble_eq_true rfl) (lv_sub hl [2, 6] rfl)
set_option maxHeartbeats 8000000 in
set_option maxRecDepth 100000 in
theorem lk_7 {p : Program} {l : Launch} {e : Env} {s : State} {m : MethodId} {below : List Frame} {meth : Method} {c : Code} {b : Nat} {xs : Nat → Int32} {E : EE} {Gc Gm : Nat → Nat} {x0 m0 o0 : Nat} {H : Heap} {locs : List Loc} {ls : Array Slot} (hst : l.stackTraces = false) (C0 : lw_At p s m meth c b 10 xs) (hK : KS E s.heap.size s) (hN : NC s) (hTc : TH E (T0 E) Gc [] H) (hTm : TH E (T0 E) Gm [] H) (hxc : Gc x0 = 1) (hmm : Gm m0 = 20) (hGzc : ∀ q, Gc q ≠ 0 → s.heap.size ≤ q) (hGzm : ∀ q, Gm q ≠ 0 → s.heap.size ≤ q) (hd : ∀ a, Gm a ≠ 0 → Gc a = 0) (hro : va_at (DG E) vwCl (o0, .inl (E.2.2 2, 1, .inr (.inl (fun _ => 0)))) H) (hGco : Gc o0 = 0) (hGmo : Gm o0 = 0) (hoz : s.heap.size ≤ o0) (hS : va_S (fun q : Nat => s.heap.size ≤ q) s.heap H locs) (hl : lv_has ls 7 [(4, .int 3), (3, .ref o0), (2, .ref m0), (1, .ref x0), (0, .ref b)]) : W p l e room_1 s m #[Value.ref b] below meth c H locs 191 2010 (lw_Z below #[Value.ref b] s) (F0 m 636 ls []) := by
  obtain ⟨hx, hb, hr, hml, hown, hts0, hX, hbl, hlocks, hgv⟩ := id C0
  have hts : ∀ w ∈ TS, w.before #[Value.ref b] s = true := fun w hw => hts0 w (List.mem_filter.mp hw).1
  have hbA : ¬ (fun q : Nat => s.heap.size ≤ q) b := Nat.not_le.mpr hbl
  have hAz : ∀ q, (fun q : Nat => s.heap.size ≤ q) q → s.heap.size ≤ q := fun q h => h
  refine lv_aload_n hx hb dL_law_636 rfl (lv_at hl 3 rfl) ?_
  refine lv_aload_n hx hb dL_law_637 rfl (lv_at hl 4 rfl) ?_
  refine lv_iload hx hb dL_law_638 (lv_at hl 0 rfl) ?_
  refine lv_iconst (v := 1) hx hb dL_law_640 (by decide) ?_
  refine lv_iadd hx hb dL_law_641 ?_
  refine W.eq (g2 := F0 m 642 ls [.int 4, .ref b, .ref x0]) (by rfl) ?_
  refine va_sld hx hb hX hbl hbA hS (show vp_in (4) 10 from vp_in_iff.mpr ⟨by decide, by decide⟩) dL_law_642 ?_
  refine W.eq (g2 := F0 m 643 ls [.int (xs 4), .ref x0]) (by rfl) ?_
  refine lv_aload_n hx hb dL_law_643 rfl (lv_at hl 4 rfl) ?_
  refine lv_iload hx hb dL_law_644 (lv_at hl 0 rfl) ?_
  refine lv_iconst (v := 2) hx hb dL_law_646 (by decide) ?_
  refine lv_iadd hx hb dL_law_647 ?_
  refine W.eq (g2 := F0 m 648 ls [.int 5, .ref b, .int (xs 4), .ref x0]) (by rfl) ?_
  refine va_sld hx hb hX hbl hbA hS (show vp_in (5) 10 from vp_in_iff.mpr ⟨by decide, by decide⟩) dL_law_648 ?_
  refine W.eq (g2 := F0 m 649 ls [.int (xs 5), .int (xs 4), .ref x0]) (by rfl) ?_
  refine lv_aload_n hx hb dL_law_649 rfl (lv_at hl 4 rfl) ?_
  refine lv_iload hx hb dL_law_650 (lv_at hl 0 rfl) ?_
  refine lv_iconst (v := 3) hx hb dL_law_652 (by decide) ?_
  refine lv_iadd hx hb dL_law_653 ?_
  refine W.eq (g2 := F0 m 654 ls [.int 6, .ref b, .int (xs 5), .int (xs 4), .ref x0]) (by rfl) ?_
  refine va_sld hx hb hX hbl hbA hS (show vp_in (6) 10 from vp_in_iff.mpr ⟨by decide, by decide⟩) dL_law_654 ?_
  refine W.eq (g2 := F0 m 655 ls [.int (xs 6), .int (xs 5), .int (xs 4), .ref x0]) (by rfl) ?_
  refine lv_aload_n hx hb dL_law_655 rfl (lv_at hl 4 rfl) ?_
  refine lv_iload hx hb dL_law_656 (lv_at hl 0 rfl) ?_
  refine lv_iconst (v := 4) hx hb dL_law_658 (by decide) ?_
  refine lv_iadd hx hb dL_law_659 ?_
  refine W.eq (g2 := F0 m 660 ls [.int 7, .ref b, .int (xs 6), .int (xs 5), .int (xs 4), .ref x0]) (by rfl) ?_
  refine va_sld hx hb hX hbl hbA hS (show vp_in (7) 10 from vp_in_iff.mpr ⟨by decide, by decide⟩) dL_law_660 ?_
  refine W.eq (g2 := F0 m 661 ls [.int (xs 7), .int (xs 6), .int (xs 5), .int (xs 4), .ref x0]) (by rfl) ?_
  refine lv_aload_n hx hb dL_law_661 rfl (lv_at hl 4 rfl) ?_
  refine lv_iload hx hb dL_law_662 (lv_at hl 0 rfl) ?_
  refine lv_iconst (v := 5) hx hb dL_law_664 (by decide) ?_
  refine lv_iadd hx hb dL_law_665 ?_
  refine W.eq (g2 := F0 m 666 ls [.int 8, .ref b, .int (xs 7), .int (xs 6), .int (xs 5), .int (xs 4), .ref x0]) (by rfl) ?_
  refine va_sld hx hb hX hbl hbA hS (show vp_in (8) 10 from vp_in_iff.mpr ⟨by decide, by decide⟩) dL_law_666 ?_
  refine W.eq (g2 := F0 m 667 ls [.int (xs 8), .int (xs 7), .int (xs 6), .int (xs 5), .int (xs 4), .ref x0]) (by rfl) ?_
  refine lv_aload_n hx hb dL_law_667 rfl (lv_at hl 1 rfl) ?_
  refine va_calli (vx_runSW (hh := [(0, 16, 19, 13), (0, 16, 23, 22)]) (As := [.ref x0, .int (xs 4), .int (xs 5), .int (xs 6), .int (xs 7), .int (xs 8), .ref o0]) (rest := []) ⟨hx, hb, hml, hown, hts⟩ (c_L_add l hst E s.heap.size Gc hGzc x0 (xs 4) (xs 5) (xs 6) (xs 7) (xs 8) o0 hxc) (vx_cwSW 7 hts (gdW ml_L_87 st_L_add in_L co_L_add rfl) rfl rfl rfl (by decide +kernel) ⟨Nat.le_of_ble_eq_true rfl, Nat.le_of_ble_eq_true rfl⟩) ⟨fun a U g mk q => ⟨q.1, q.2.1, KS.calling q.2.2.1, NC.vm q.2.2.2 rfl⟩, fun U hU hW => ⟨rfl, by rw [hU]; exact hTc, hK.go hW hS hAz hU, hN.go hW⟩⟩ rfl rfl hl.1 rfl (lv_room (Nat.le_of_ble_eq_true rfl)) dL_law_668 ⟨Nat.le_of_ble_eq_true rfl, Nat.le_of_ble_eq_true rfl⟩) hS (fun q _ h => hGzc q h) (fun q h => hGzc q h) (fun r_1 _ t H locs ht hvm hw hB hz hk hS => ?_)
  have hTm := hTm.other hd hk
  have hro := hro.kept (hk _ hro.lt (fun h => h hGco))
  rcases hw with ⟨rfl, hV⟩ | ⟨rfl, hV⟩
  · refine lv_istore (lv' := [(5, .int 1), (4, .int 3), (3, .ref o0), (2, .ref m0), (1, .ref x0), (0, .ref b)]) hx hb dL_law_671 hl (by decide) rfl (fun ls hl => ?_)
    refine lv_aload_n hx hb dL_law_673 rfl (lv_at hl 3 rfl) ?_
    refine lv_aload_n hx hb dL_law_674 rfl (lv_at hl 5 rfl) ?_
    refine lv_iload hx hb dL_law_675 (lv_at hl 1 rfl) ?_
    refine lv_iconst (v := 1) hx hb dL_law_677 (by decide) ?_
    refine lv_iadd hx hb dL_law_678 ?_
    refine W.eq (g2 := F0 m 679 ls [.int 4, .ref b, .ref m0]) (by rfl) ?_
    refine va_sld hx hb hX hbl hbA hS (show vp_in (4) 10 from vp_in_iff.mpr ⟨by decide, by decide⟩) dL_law_679 ?_
    refine W.eq (g2 := F0 m 680 ls [.int (xs 4), .ref m0]) (by rfl) ?_
    refine lv_aload_n hx hb dL_law_680 rfl (lv_at hl 5 rfl) ?_
    refine lv_iload hx hb dL_law_681 (lv_at hl 1 rfl) ?_
    refine lv_iconst (v := 2) hx hb dL_law_683 (by decide) ?_
    refine lv_iadd hx hb dL_law_684 ?_
    refine W.eq (g2 := F0 m 685 ls [.int 5, .ref b, .int (xs 4), .ref m0]) (by rfl) ?_
    refine va_sld hx hb hX hbl hbA hS (show vp_in (5) 10 from vp_in_iff.mpr ⟨by decide, by decide⟩) dL_law_685 ?_
    refine W.eq (g2 := F0 m 686 ls [.int (xs 5), .int (xs 4), .ref m0]) (by rfl) ?_
    refine lv_aload_n hx hb dL_law_686 rfl (lv_at hl 5 rfl) ?_
    refine lv_iload hx hb dL_law_687 (lv_at hl 1 rfl) ?_
    refine lv_iconst (v := 3) hx hb dL_law_689 (by decide) ?_
    refine lv_iadd hx hb dL_law_690 ?_
    refine W.eq (g2 := F0 m 691 ls [.int 6, .ref b, .int (xs 5), .int (xs 4), .ref m0]) (by rfl) ?_
    refine va_sld hx hb hX hbl hbA hS (show vp_in (6) 10 from vp_in_iff.mpr ⟨by decide, by decide⟩) dL_law_691 ?_
    refine W.eq (g2 := F0 m 692 ls [.int (xs 6), .int (xs 5), .int (xs 4), .ref m0]) (by rfl) ?_
    refine lv_aload_n hx hb dL_law_692 rfl (lv_at hl 5 rfl) ?_
    refine lv_iload hx hb dL_law_693 (lv_at hl 1 rfl) ?_
    refine lv_iconst (v := 4) hx hb dL_law_695 (by decide) ?_
    refine lv_iadd hx hb dL_law_696 ?_
    refine W.eq (g2 := F0 m 697 ls [.int 7, .ref b, .int (xs 6), .int (xs 5), .int (xs 4), .ref m0]) (by rfl) ?_
    refine va_sld hx hb hX hbl hbA hS (show vp_in (7) 10 from vp_in_iff.mpr ⟨by decide, by decide⟩) dL_law_697 ?_
    refine W.eq (g2 := F0 m 698 ls [.int (xs 7), .int (xs 6), .int (xs 5), .int (xs 4), .ref m0]) (by rfl) ?_
    refine lv_aload_n hx hb dL_law_698 rfl (lv_at hl 5 rfl) ?_
    refine lv_iload hx hb dL_law_699 (lv_at hl 1 rfl) ?_
    refine lv_iconst (v := 5) hx hb dL_law_701 (by decide) ?_
    refine lv_iadd hx hb dL_law_702 ?_
    refine W.eq (g2 := F0 m 703 ls [.int 8, .ref b, .int (xs 7), .int (xs 6), .int (xs 5), .int (xs 4), .ref m0]) (by rfl) ?_
    refine va_sld hx hb hX hbl hbA hS (show vp_in (8) 10 from vp_in_iff.mpr ⟨by decide, by decide⟩) dL_law_703 ?_
    refine W.eq (g2 := F0 m 704 ls [.int (xs 8), .int (xs 7), .int (xs 6), .int (xs 5), .int (xs 4), .ref m0]) (by rfl) ?_
    obtain ⟨_, _, _, _, ha_2, _⟩ := tg_20 hTm hmm nx_0
    refine va_calli (rnV (fun H => TH E (T0 E) Gm [] H) (As := [.int (xs 4), .int (xs 5), .int (xs 6), .int (xs 7), .int (xs 8)]) (rest := []) ⟨hx, hb, hml, hown, hts⟩ (c_X10_add l E s.heap.size Gm hGzm m0 (xs 4) (xs 5) (xs 6) (xs 7) (xs 8) hmm) (cwV 5 hts (gdV ml_L_90 im_X10_add se_X10_X10_add in_X10 co_X10_add rfl) rfl rfl rfl (by decide +kernel) ⟨Nat.le_of_ble_eq_true rfl, Nat.le_of_ble_eq_true rfl⟩) hTm (fun U hU hW => hK.go hW hS hAz hU) (va_recv hK.1 (va_one ha_2) (ci := 10) (q0 := 0) rfl rfl) rfl rfl hl.1 rfl (lv_room (Nat.le_of_ble_eq_true rfl)) dL_law_704 ⟨Nat.le_of_ble_eq_true rfl, Nat.le_of_ble_eq_true rfl⟩) hS (fun q _ h => hGzm q h) (fun q h => hGzm q h) (fun r_2 _ t H locs ht hvm hw hB hz hk hS => ?_)
    have hro := hro.kept (hk _ hro.lt (fun h => h hGmo))
    obtain ⟨fsx, hatx, hfx⟩ := hB
    rw [ht] at hatx
    rw [if_neg hV] at hfx
    subst hw
    refine lv_istore (lv' := [(6, .int 0), (5, .int 1), (4, .int 3), (3, .ref o0), (2, .ref m0), (1, .ref x0), (0, .ref b)]) hx hb dL_law_707 hl (by decide) rfl (fun ls hl => ?_)
    refine lv_aload_n hx hb dL_law_709 rfl (lv_at hl 4 rfl) ?_
    refine va_calli (rnV (fun H => va_at (DG E) vwCl (m0, .inr (10, fsx)) H) (As := []) (rest := []) ⟨hx, hb, hml, hown, hts⟩ (c_X10_thrown l E s.heap.size m0 fsx 1 hfx) (cwV 0 hts (gdV ml_L_60 im_X10_thrown se_X10_X10_thrown in_X10 co_X10_thrown rfl) rfl rfl rfl (by decide +kernel) ⟨Nat.le_of_ble_eq_true rfl, Nat.le_of_ble_eq_true rfl⟩) hatx (fun U hU hW => hK.go hW hS hAz hU) (va_recv hK.1 (va_one hatx) (ci := 10) (q0 := 0) rfl rfl) rfl rfl hl.1 rfl (lv_room (Nat.le_of_ble_eq_true rfl)) dL_law_710 ⟨Nat.le_of_ble_eq_true rfl, Nat.le_of_ble_eq_true rfl⟩) hS (fun q _ h => h.elim) (fun q h => h.elim) (fun r_3 _ t H locs ht hvm hw hB hz hk hS => ?_)
    have hro := hro.kept (hk _ hro.lt (fun h => h))
    subst hw
    refine lv_iload hx hb dL_law_713 (lv_at hl 1 rfl) ?_
    refine lv_icmp_eq (tgt := 720) hx hb dL_law_715 (by decide) (fun c_4 => ?_) (fun c_4 => absurd c_4 (by decide))
    refine lv_iload hx hb dL_law_720 (lv_at hl 1 rfl) ?_
    refine lv_if_ne (tgt := 737) hx hb dL_law_722 (by decide) (fun c_5 => ?_) (fun c_5 => absurd c_5 (by decide))
    refine lv_goto (tgt := 1116) hx hb dL_law_737 (by decide) ?_
    exact law_tail C0 hS (Nat.le_of_ble_eq_true rfl) (Nat.le_of_ble_eq_true rfl) (lv_sub hl [2, 6] rfl)
  · refine lv_istore (lv' := [(5, .int 2), (4, .int 3), (3, .ref o0), (2, .ref m0), (1, .ref x0), (0, .ref b)]) hx hb dL_law_671 hl (by decide) rfl (fun ls hl => ?_)
    refine lv_aload_n hx hb dL_law_673 rfl (lv_at hl 3 rfl) ?_
    refine lv_aload_n hx hb dL_law_674 rfl (lv_at hl 5 rfl) ?_
    refine lv_iload hx hb dL_law_675 (lv_at hl 1 rfl) ?_
    refine lv_iconst (v := 1) hx hb dL_law_677 (by decide) ?_
    refine lv_iadd hx hb dL_law_678 ?_
    refine W.eq (g2 := F0 m 679 ls [.int 4, .ref b, .ref m0]) (by rfl) ?_
    refine va_sld hx hb hX hbl hbA hS (show vp_in (4) 10 from vp_in_iff.mpr ⟨by decide, by decide⟩) dL_law_679 ?_
    refine W.eq (g2 := F0 m 680 ls [.int (xs 4), .ref m0]) (by rfl) ?_
    refine lv_aload_n hx hb dL_law_680 rfl (lv_at hl 5 rfl) ?_
    refine lv_iload hx hb dL_law_681 (lv_at hl 1 rfl) ?_
    refine lv_iconst (v := 2) hx hb dL_law_683 (by decide) ?_
    refine lv_iadd hx hb dL_law_684 ?_
    refine W.eq (g2 := F0 m 685 ls [.int 5, .ref b, .int (xs 4), .ref m0]) (by rfl) ?_
    refine va_sld hx hb hX hbl hbA hS (show vp_in (5) 10 from vp_in_iff.mpr ⟨by decide, by decide⟩) dL_law_685 ?_
    refine W.eq (g2 := F0 m 686 ls [.int (xs 5), .int (xs 4), .ref m0]) (by rfl) ?_
    refine lv_aload_n hx hb dL_law_686 rfl (lv_at hl 5 rfl) ?_
    refine lv_iload hx hb dL_law_687 (lv_at hl 1 rfl) ?_
    refine lv_iconst (v := 3) hx hb dL_law_689 (by decide) ?_
    refine lv_iadd hx hb dL_law_690 ?_
    refine W.eq (g2 := F0 m 691 ls [.int 6, .ref b, .int (xs 5), .int (xs 4), .ref m0]) (by rfl) ?_
    refine va_sld hx hb hX hbl hbA hS (show vp_in (6) 10 from vp_in_iff.mpr ⟨by decide, by decide⟩) dL_law_691 ?_
    refine W.eq (g2 := F0 m 692 ls [.int (xs 6), .int (xs 5), .int (xs 4), .ref m0]) (by rfl) ?_
    refine lv_aload_n hx hb dL_law_692 rfl (lv_at hl 5 rfl) ?_
    refine lv_iload hx hb dL_law_693 (lv_at hl 1 rfl) ?_
    refine lv_iconst (v := 4) hx hb dL_law_695 (by decide) ?_
    refine lv_iadd hx hb dL_law_696 ?_
    refine W.eq (g2 := F0 m 697 ls [.int 7, .ref b, .int (xs 6), .int (xs 5), .int (xs 4), .ref m0]) (by rfl) ?_
    refine va_sld hx hb hX hbl hbA hS (show vp_in (7) 10 from vp_in_iff.mpr ⟨by decide, by decide⟩) dL_law_697 ?_
    refine W.eq (g2 := F0 m 698 ls [.int (xs 7), .int (xs 6), .int (xs 5), .int (xs 4), .ref m0]) (by rfl) ?_
    refine lv_aload_n hx hb dL_law_698 rfl (lv_at hl 5 rfl) ?_
    refine lv_iload hx hb dL_law_699 (lv_at hl 1 rfl) ?_
    refine lv_iconst (v := 5) hx hb dL_law_701 (by decide) ?_
    refine lv_iadd hx hb dL_law_702 ?_
    refine W.eq (g2 := F0 m 703 ls [.int 8, .ref b, .int (xs 7), .int (xs 6), .int (xs 5), .int (xs 4), .ref m0]) (by rfl) ?_
    refine va_sld hx hb hX hbl hbA hS (show vp_in (8) 10 from vp_in_iff.mpr ⟨by decide, by decide⟩) dL_law_703 ?_
    refine W.eq (g2 := F0 m 704 ls [.int (xs 8), .int (xs 7), .int (xs 6), .int (xs 5), .int (xs 4), .ref m0]) (by rfl) ?_
    obtain ⟨_, _, _, _, ha_6, _⟩ := tg_20 hTm hmm nx_0
    refine va_calli (rnV (fun H => TH E (T0 E) Gm [] H) (As := [.int (xs 4), .int (xs 5), .int (xs 6), .int (xs 7), .int (xs 8)]) (rest := []) ⟨hx, hb, hml, hown, hts⟩ (c_X10_add l E s.heap.size Gm hGzm m0 (xs 4) (xs 5) (xs 6) (xs 7) (xs 8) hmm) (cwV 5 hts (gdV ml_L_90 im_X10_add se_X10_X10_add in_X10 co_X10_add rfl) rfl rfl rfl (by decide +kernel) ⟨Nat.le_of_ble_eq_true rfl, Nat.le_of_ble_eq_true rfl⟩) hTm (fun U hU hW => hK.go hW hS hAz hU) (va_recv hK.1 (va_one ha_6) (ci := 10) (q0 := 0) rfl rfl) rfl rfl hl.1 rfl (lv_room (Nat.le_of_ble_eq_true rfl)) dL_law_704 ⟨Nat.le_of_ble_eq_true rfl, Nat.le_of_ble_eq_true rfl⟩) hS (fun q _ h => hGzm q h) (fun q h => hGzm q h) (fun r_6 _ t H locs ht hvm hw hB hz hk hS => ?_)
    have hro := hro.kept (hk _ hro.lt (fun h => h hGmo))
    obtain ⟨fsx, hatx, hfx⟩ := hB
    rw [ht] at hatx
    rw [if_pos hV] at hfx
    subst hw
    refine lv_istore (lv' := [(6, .int 0), (5, .int 2), (4, .int 3), (3, .ref o0), (2, .ref m0), (1, .ref x0), (0, .ref b)]) hx hb dL_law_707 hl (by decide) rfl (fun ls hl => ?_)
    refine lv_aload_n hx hb dL_law_709 rfl (lv_at hl 4 rfl) ?_
    refine va_calli (rnV (fun H => va_at (DG E) vwCl (m0, .inr (10, fsx)) H) (As := []) (rest := []) ⟨hx, hb, hml, hown, hts⟩ (c_X10_thrown l E s.heap.size m0 fsx 2 hfx) (cwV 0 hts (gdV ml_L_60 im_X10_thrown se_X10_X10_thrown in_X10 co_X10_thrown rfl) rfl rfl rfl (by decide +kernel) ⟨Nat.le_of_ble_eq_true rfl, Nat.le_of_ble_eq_true rfl⟩) hatx (fun U hU hW => hK.go hW hS hAz hU) (va_recv hK.1 (va_one hatx) (ci := 10) (q0 := 0) rfl rfl) rfl rfl hl.1 rfl (lv_room (Nat.le_of_ble_eq_true rfl)) dL_law_710 ⟨Nat.le_of_ble_eq_true rfl, Nat.le_of_ble_eq_true rfl⟩) hS (fun q _ h => h.elim) (fun q h => h.elim) (fun r_7 _ t H locs ht hvm hw hB hz hk hS => ?_)
    have hro := hro.kept (hk _ hro.lt (fun h => h))
    subst hw
    refine lv_iload hx hb dL_law_713 (lv_at hl 1 rfl) ?_
    refine lv_icmp_eq (tgt := 720) hx hb dL_law_715 (by decide) (fun c_8 => ?_) (fun c_8 => absurd c_8 (by decide))
    refine lv_iload hx hb dL_law_720 (lv_at hl 1 rfl) ?_
    refine lv_if_ne (tgt := 737) hx hb dL_law_722 (by decide) (fun c_9 => ?_) (fun c_9 => absurd c_9 (by decide))
    refine lv_goto (tgt := 1116) hx hb dL_law_737 (by decide) ?_
    exact law_tail C0 hS (Nat.le_of_ble_eq_true rfl) (Nat.le_of_ble_eq_true rfl) (lv_sub hl [2, 6] rfl)
set_option maxHeartbeats 8000000 in
set_option maxRecDepth 100000 in
theorem lk_8 {p : Program} {l : Launch} {e : Env} {s : State} {m : MethodId} {below : List Frame} {meth : Method} {c : Code} {b : Nat} {xs : Nat → Int32} {E : EE} {Gc Gm : Nat → Nat} {x0 m0 o0 : Nat} {H : Heap} {locs : List Loc} {ls : Array Slot} (hst : l.stackTraces = false) (C0 : lw_At p s m meth c b 10 xs) (hK : KS E s.heap.size s) (hN : NC s) (hTc : TH E (T0 E) Gc [] H) (hTm : TH E (T0 E) Gm [] H) (hxc : Gc x0 = 1) (hmm : Gm m0 = 20) (hGzc : ∀ q, Gc q ≠ 0 → s.heap.size ≤ q) (hGzm : ∀ q, Gm q ≠ 0 → s.heap.size ≤ q) (hd : ∀ a, Gm a ≠ 0 → Gc a = 0) (hro : va_at (DG E) vwCl (o0, .inl (E.2.2 2, 1, .inr (.inl (fun _ => 0)))) H) (hGco : Gc o0 = 0) (hGmo : Gm o0 = 0) (hoz : s.heap.size ≤ o0) (hS : va_S (fun q : Nat => s.heap.size ≤ q) s.heap H locs) (hl : lv_has ls 7 [(4, .int 3), (3, .ref o0), (2, .ref m0), (1, .ref x0), (0, .ref b)]) : W p l e room_1 s m #[Value.ref b] below meth c H locs 191 2010 (lw_Z below #[Value.ref b] s) (F0 m 740 ls []) := by
  obtain ⟨hx, hb, hr, hml, hown, hts0, hX, hbl, hlocks, hgv⟩ := id C0
  have hts : ∀ w ∈ TS, w.before #[Value.ref b] s = true := fun w hw => hts0 w (List.mem_filter.mp hw).1
  have hbA : ¬ (fun q : Nat => s.heap.size ≤ q) b := Nat.not_le.mpr hbl
  have hAz : ∀ q, (fun q : Nat => s.heap.size ≤ q) q → s.heap.size ≤ q := fun q h => h
  refine lv_aload_n hx hb dL_law_740 rfl (lv_at hl 3 rfl) ?_
  refine lv_aload_n hx hb dL_law_741 rfl (lv_at hl 4 rfl) ?_
  refine lv_iload hx hb dL_law_742 (lv_at hl 0 rfl) ?_
  refine lv_iconst (v := 1) hx hb dL_law_744 (by decide) ?_
  refine lv_iadd hx hb dL_law_745 ?_
  refine W.eq (g2 := F0 m 746 ls [.int 4, .ref b, .ref x0]) (by rfl) ?_
  refine va_sld hx hb hX hbl hbA hS (show vp_in (4) 10 from vp_in_iff.mpr ⟨by decide, by decide⟩) dL_law_746 ?_
  refine W.eq (g2 := F0 m 747 ls [.int (xs 4), .ref x0]) (by rfl) ?_
  refine lv_aload_n hx hb dL_law_747 rfl (lv_at hl 4 rfl) ?_
  refine lv_iload hx hb dL_law_748 (lv_at hl 0 rfl) ?_
  refine lv_iconst (v := 2) hx hb dL_law_750 (by decide) ?_
  refine lv_iadd hx hb dL_law_751 ?_
  refine W.eq (g2 := F0 m 752 ls [.int 5, .ref b, .int (xs 4), .ref x0]) (by rfl) ?_
  refine va_sld hx hb hX hbl hbA hS (show vp_in (5) 10 from vp_in_iff.mpr ⟨by decide, by decide⟩) dL_law_752 ?_
  refine W.eq (g2 := F0 m 753 ls [.int (xs 5), .int (xs 4), .ref x0]) (by rfl) ?_
  refine lv_aload_n hx hb dL_law_753 rfl (lv_at hl 4 rfl) ?_
  refine lv_iload hx hb dL_law_754 (lv_at hl 0 rfl) ?_
  refine lv_iconst (v := 3) hx hb dL_law_756 (by decide) ?_
  refine lv_iadd hx hb dL_law_757 ?_
  refine W.eq (g2 := F0 m 758 ls [.int 6, .ref b, .int (xs 5), .int (xs 4), .ref x0]) (by rfl) ?_
  refine va_sld hx hb hX hbl hbA hS (show vp_in (6) 10 from vp_in_iff.mpr ⟨by decide, by decide⟩) dL_law_758 ?_
  refine W.eq (g2 := F0 m 759 ls [.int (xs 6), .int (xs 5), .int (xs 4), .ref x0]) (by rfl) ?_
  refine lv_aload_n hx hb dL_law_759 rfl (lv_at hl 1 rfl) ?_
  refine va_calli (vx_runSW (hh := [(0, 12, 15, 13), (0, 12, 19, 22)]) (As := [.ref x0, .int (xs 4), .int (xs 5), .int (xs 6), .ref o0]) (rest := []) ⟨hx, hb, hml, hown, hts⟩ (c_L_receive l hst E s.heap.size Gc hGzc x0 (xs 4) (xs 5) (xs 6) o0 hxc hGco hoz) (vx_cwSW 5 hts (gdW ml_L_91 st_L_receive in_L co_L_receive rfl) rfl rfl rfl (by decide +kernel) ⟨Nat.le_of_ble_eq_true rfl, Nat.le_of_ble_eq_true rfl⟩) ⟨fun a U g mk q => ⟨q.1, q.2.1, KS.calling q.2.2.1, NC.vm q.2.2.2 rfl⟩, fun U hU hW => ⟨rfl, by rw [hU]; exact ⟨hTc, hro⟩, hK.go hW hS hAz hU, hN.go hW⟩⟩ rfl rfl hl.1 rfl (lv_room (Nat.le_of_ble_eq_true rfl)) dL_law_760 ⟨Nat.le_of_ble_eq_true rfl, Nat.le_of_ble_eq_true rfl⟩) hS (fun q _ h => h.elim (hGzc q) (fun e => by rw [e]; exact hoz)) (fun q h => h.elim (hGzc q) (fun e => by rw [e]; exact hoz)) (fun r_1 _ t H locs ht hvm hw hB hz hk hS => ?_)
  have hTm := hTm.other (Gc := fun a => if a = o0 then 1 else Gc a) (fun a ha => by show (if a = o0 then 1 else Gc a) = 0; rw [if_neg (fun e => ha (by rw [e]; exact hGmo))]; exact hd a ha) (fun q hq hn => hk q hq (fun h => h.elim (fun h => hn (by show (if q = o0 then 1 else Gc q) ≠ 0; split <;> first | decide | exact h)) (fun h => hn (by show (if q = o0 then 1 else Gc q) ≠ 0; rw [if_pos h]; decide))))
  obtain ⟨fo, hro, hfo⟩ := hB
  rw [ht] at hro
  rcases hw with ⟨rfl, hV⟩ | ⟨rfl, hV⟩
  · refine lv_istore (lv' := [(5, .int 0), (4, .int 3), (3, .ref o0), (2, .ref m0), (1, .ref x0), (0, .ref b)]) hx hb dL_law_763 hl (by decide) rfl (fun ls hl => ?_)
    refine lv_aload_n hx hb dL_law_765 rfl (lv_at hl 3 rfl) ?_
    refine lv_aload_n hx hb dL_law_766 rfl (lv_at hl 5 rfl) ?_
    refine lv_iload hx hb dL_law_767 (lv_at hl 1 rfl) ?_
    refine lv_iconst (v := 1) hx hb dL_law_769 (by decide) ?_
    refine lv_iadd hx hb dL_law_770 ?_
    refine W.eq (g2 := F0 m 771 ls [.int 4, .ref b, .ref m0]) (by rfl) ?_
    refine va_sld hx hb hX hbl hbA hS (show vp_in (4) 10 from vp_in_iff.mpr ⟨by decide, by decide⟩) dL_law_771 ?_
    refine W.eq (g2 := F0 m 772 ls [.int (xs 4), .ref m0]) (by rfl) ?_
    refine lv_aload_n hx hb dL_law_772 rfl (lv_at hl 5 rfl) ?_
    refine lv_iload hx hb dL_law_773 (lv_at hl 1 rfl) ?_
    refine lv_iconst (v := 2) hx hb dL_law_775 (by decide) ?_
    refine lv_iadd hx hb dL_law_776 ?_
    refine W.eq (g2 := F0 m 777 ls [.int 5, .ref b, .int (xs 4), .ref m0]) (by rfl) ?_
    refine va_sld hx hb hX hbl hbA hS (show vp_in (5) 10 from vp_in_iff.mpr ⟨by decide, by decide⟩) dL_law_777 ?_
    refine W.eq (g2 := F0 m 778 ls [.int (xs 5), .int (xs 4), .ref m0]) (by rfl) ?_
    refine lv_aload_n hx hb dL_law_778 rfl (lv_at hl 5 rfl) ?_
    refine lv_iload hx hb dL_law_779 (lv_at hl 1 rfl) ?_
    refine lv_iconst (v := 3) hx hb dL_law_781 (by decide) ?_
    refine lv_iadd hx hb dL_law_782 ?_
    refine W.eq (g2 := F0 m 783 ls [.int 6, .ref b, .int (xs 5), .int (xs 4), .ref m0]) (by rfl) ?_
    refine va_sld hx hb hX hbl hbA hS (show vp_in (6) 10 from vp_in_iff.mpr ⟨by decide, by decide⟩) dL_law_783 ?_
    refine W.eq (g2 := F0 m 784 ls [.int (xs 6), .int (xs 5), .int (xs 4), .ref m0]) (by rfl) ?_
    obtain ⟨_, _, _, _, ha_2, _⟩ := tg_20 hTm hmm nx_0
    refine va_calli (rnV (fun H => TH E (T0 E) Gm [] H) (As := [.int (xs 4), .int (xs 5), .int (xs 6)]) (rest := []) ⟨hx, hb, hml, hown, hts⟩ (c_X10_receive l E s.heap.size Gm hGzm m0 (xs 4) (xs 5) (xs 6) hmm) (cwV 3 hts (gdV ml_L_93 im_X10_receive se_X10_X10_receive in_X10 co_X10_receive rfl) rfl rfl rfl (by decide +kernel) ⟨Nat.le_of_ble_eq_true rfl, Nat.le_of_ble_eq_true rfl⟩) hTm (fun U hU hW => hK.go hW hS hAz hU) (va_recv hK.1 (va_one ha_2) (ci := 10) (q0 := 0) rfl rfl) rfl rfl hl.1 rfl (lv_room (Nat.le_of_ble_eq_true rfl)) dL_law_784 ⟨Nat.le_of_ble_eq_true rfl, Nat.le_of_ble_eq_true rfl⟩) hS (fun q _ h => hGzm q h) (fun q h => hGzm q h) (fun r_2 _ t H locs ht hvm hw hB hz hk hS => ?_)
    have hro := hro.kept (hk _ hro.lt (fun h => h hGmo))
    obtain ⟨fsx, hatx, hfx⟩ := hB
    rw [ht] at hatx
    rw [if_pos hV] at hfx
    subst hw
    refine lv_istore (lv' := [(6, .int 0), (5, .int 0), (4, .int 3), (3, .ref o0), (2, .ref m0), (1, .ref x0), (0, .ref b)]) hx hb dL_law_787 hl (by decide) rfl (fun ls hl => ?_)
    refine lv_aload_n hx hb dL_law_789 rfl (lv_at hl 4 rfl) ?_
    refine va_calli (rnV (fun H => va_at (DG E) vwCl (m0, .inr (10, fsx)) H) (As := []) (rest := []) ⟨hx, hb, hml, hown, hts⟩ (c_X10_thrown l E s.heap.size m0 fsx 0 hfx) (cwV 0 hts (gdV ml_L_60 im_X10_thrown se_X10_X10_thrown in_X10 co_X10_thrown rfl) rfl rfl rfl (by decide +kernel) ⟨Nat.le_of_ble_eq_true rfl, Nat.le_of_ble_eq_true rfl⟩) hatx (fun U hU hW => hK.go hW hS hAz hU) (va_recv hK.1 (va_one hatx) (ci := 10) (q0 := 0) rfl rfl) rfl rfl hl.1 rfl (lv_room (Nat.le_of_ble_eq_true rfl)) dL_law_790 ⟨Nat.le_of_ble_eq_true rfl, Nat.le_of_ble_eq_true rfl⟩) hS (fun q _ h => h.elim) (fun q h => h.elim) (fun r_3 _ t H locs ht hvm hw hB hz hk hS => ?_)
    have hro := hro.kept (hk _ hro.lt (fun h => h))
    subst hw
    refine lv_iload hx hb dL_law_793 (lv_at hl 1 rfl) ?_
    refine lv_icmp_eq (tgt := 800) hx hb dL_law_795 (by decide) (fun c_4 => ?_) (fun c_4 => absurd c_4 (by decide))
    refine lv_iload hx hb dL_law_800 (lv_at hl 1 rfl) ?_
    refine lv_if_ne (tgt := 817) hx hb dL_law_802 (by decide) (fun c_5 => absurd c_5 (by decide)) (fun c_5 => ?_)
    refine lv_aload_n hx hb dL_law_805 rfl (lv_at hl 3 rfl) ?_
    refine lv_iconst (v := 0) hx hb dL_law_806 (by decide) ?_
    refine va_lald (D := DG E) hx hb hK.1 (va_one hro) 0 2 rfl rfl (show vp_in (0) 1 from vp_in_iff.mpr ⟨by decide, by decide⟩) dL_law_807 ?_
    rw [show fo (0 : Int32).toNatClampNeg = 0 from hfo]
    refine W.eq (g2 := F0 m 808 ls [.long 0]) (by rfl) ?_
    refine lv_iload hx hb dL_law_808 (lv_at hl 0 rfl) ?_
    refine lv_i2l (v := 0) hx hb dL_law_810 (by decide) ?_
    refine W.lcmp hx hb dL_law_811 ?_
    refine W.eq (g2 := F0 m 812 ls [.int 0]) (by rfl) ?_
    refine lv_if_eq (tgt := 817) hx hb dL_law_812 (by decide) (fun c_6 => ?_) (fun c_6 => absurd c_6 (by decide))
    refine lv_goto (tgt := 1116) hx hb dL_law_817 (by decide) ?_
    exact law_tail C0 hS (Nat.le_of_ble_eq_true rfl) (Nat.le_of_ble_eq_true rfl) (lv_sub hl [2, 6] rfl)
  · refine lv_istore (lv' := [(5, .int 1), (4, .int 3), (3, .ref o0), (2, .ref m0), (1, .ref x0), (0, .ref b)]) hx hb dL_law_763 hl (by decide) rfl (fun ls hl => ?_)
    refine lv_aload_n hx hb dL_law_765 rfl (lv_at hl 3 rfl) ?_
    refine lv_aload_n hx hb dL_law_766 rfl (lv_at hl 5 rfl) ?_
    refine lv_iload hx hb dL_law_767 (lv_at hl 1 rfl) ?_
    refine lv_iconst (v := 1) hx hb dL_law_769 (by decide) ?_
    refine lv_iadd hx hb dL_law_770 ?_
    refine W.eq (g2 := F0 m 771 ls [.int 4, .ref b, .ref m0]) (by rfl) ?_
    refine va_sld hx hb hX hbl hbA hS (show vp_in (4) 10 from vp_in_iff.mpr ⟨by decide, by decide⟩) dL_law_771 ?_
    refine W.eq (g2 := F0 m 772 ls [.int (xs 4), .ref m0]) (by rfl) ?_
    refine lv_aload_n hx hb dL_law_772 rfl (lv_at hl 5 rfl) ?_
    refine lv_iload hx hb dL_law_773 (lv_at hl 1 rfl) ?_
    refine lv_iconst (v := 2) hx hb dL_law_775 (by decide) ?_
    refine lv_iadd hx hb dL_law_776 ?_
    refine W.eq (g2 := F0 m 777 ls [.int 5, .ref b, .int (xs 4), .ref m0]) (by rfl) ?_
    refine va_sld hx hb hX hbl hbA hS (show vp_in (5) 10 from vp_in_iff.mpr ⟨by decide, by decide⟩) dL_law_777 ?_
    refine W.eq (g2 := F0 m 778 ls [.int (xs 5), .int (xs 4), .ref m0]) (by rfl) ?_
    refine lv_aload_n hx hb dL_law_778 rfl (lv_at hl 5 rfl) ?_
    refine lv_iload hx hb dL_law_779 (lv_at hl 1 rfl) ?_
    refine lv_iconst (v := 3) hx hb dL_law_781 (by decide) ?_
    refine lv_iadd hx hb dL_law_782 ?_
    refine W.eq (g2 := F0 m 783 ls [.int 6, .ref b, .int (xs 5), .int (xs 4), .ref m0]) (by rfl) ?_
    refine va_sld hx hb hX hbl hbA hS (show vp_in (6) 10 from vp_in_iff.mpr ⟨by decide, by decide⟩) dL_law_783 ?_
    refine W.eq (g2 := F0 m 784 ls [.int (xs 6), .int (xs 5), .int (xs 4), .ref m0]) (by rfl) ?_
    obtain ⟨_, _, _, _, ha_7, _⟩ := tg_20 hTm hmm nx_0
    refine va_calli (rnV (fun H => TH E (T0 E) Gm [] H) (As := [.int (xs 4), .int (xs 5), .int (xs 6)]) (rest := []) ⟨hx, hb, hml, hown, hts⟩ (c_X10_receive l E s.heap.size Gm hGzm m0 (xs 4) (xs 5) (xs 6) hmm) (cwV 3 hts (gdV ml_L_93 im_X10_receive se_X10_X10_receive in_X10 co_X10_receive rfl) rfl rfl rfl (by decide +kernel) ⟨Nat.le_of_ble_eq_true rfl, Nat.le_of_ble_eq_true rfl⟩) hTm (fun U hU hW => hK.go hW hS hAz hU) (va_recv hK.1 (va_one ha_7) (ci := 10) (q0 := 0) rfl rfl) rfl rfl hl.1 rfl (lv_room (Nat.le_of_ble_eq_true rfl)) dL_law_784 ⟨Nat.le_of_ble_eq_true rfl, Nat.le_of_ble_eq_true rfl⟩) hS (fun q _ h => hGzm q h) (fun q h => hGzm q h) (fun r_7 _ t H locs ht hvm hw hB hz hk hS => ?_)
    have hro := hro.kept (hk _ hro.lt (fun h => h hGmo))
    obtain ⟨fsx, hatx, hfx⟩ := hB
    rw [ht] at hatx
    rw [if_neg hV] at hfx
    subst hw
    refine lv_istore (lv' := [(6, .int 0), (5, .int 1), (4, .int 3), (3, .ref o0), (2, .ref m0), (1, .ref x0), (0, .ref b)]) hx hb dL_law_787 hl (by decide) rfl (fun ls hl => ?_)
    refine lv_aload_n hx hb dL_law_789 rfl (lv_at hl 4 rfl) ?_
    refine va_calli (rnV (fun H => va_at (DG E) vwCl (m0, .inr (10, fsx)) H) (As := []) (rest := []) ⟨hx, hb, hml, hown, hts⟩ (c_X10_thrown l E s.heap.size m0 fsx 1 hfx) (cwV 0 hts (gdV ml_L_60 im_X10_thrown se_X10_X10_thrown in_X10 co_X10_thrown rfl) rfl rfl rfl (by decide +kernel) ⟨Nat.le_of_ble_eq_true rfl, Nat.le_of_ble_eq_true rfl⟩) hatx (fun U hU hW => hK.go hW hS hAz hU) (va_recv hK.1 (va_one hatx) (ci := 10) (q0 := 0) rfl rfl) rfl rfl hl.1 rfl (lv_room (Nat.le_of_ble_eq_true rfl)) dL_law_790 ⟨Nat.le_of_ble_eq_true rfl, Nat.le_of_ble_eq_true rfl⟩) hS (fun q _ h => h.elim) (fun q h => h.elim) (fun r_8 _ t H locs ht hvm hw hB hz hk hS => ?_)
    have hro := hro.kept (hk _ hro.lt (fun h => h))
    subst hw
    refine lv_iload hx hb dL_law_793 (lv_at hl 1 rfl) ?_
    refine lv_icmp_eq (tgt := 800) hx hb dL_law_795 (by decide) (fun c_9 => ?_) (fun c_9 => absurd c_9 (by decide))
    refine lv_iload hx hb dL_law_800 (lv_at hl 1 rfl) ?_
    refine lv_if_ne (tgt := 817) hx hb dL_law_802 (by decide) (fun c_10 => ?_) (fun c_10 => absurd c_10 (by decide))
    refine lv_goto (tgt := 1116) hx hb dL_law_817 (by decide) ?_
    exact law_tail C0 hS (Nat.le_of_ble_eq_true rfl) (Nat.le_of_ble_eq_true rfl) (lv_sub hl [2, 6] rfl)
