set_option maxHeartbeats 8000000 in
set_option maxRecDepth 100000 in
theorem lk_9 {p : Program} {l : Launch} {e : Env} {s : State} {m : MethodId} {below : List Frame} {meth : Method} {c : Code} {b : Nat} {xs : Nat → Int32} {E : EE} {Gc Gm : Nat → Nat} {x0 m0 o0 : Nat} {H : Heap} {locs : List Loc} {ls : Array Slot} (hst : l.stackTraces = false) (C0 : lw_At p s m meth c b 10 xs) (hK : KS E s.heap.size s) (hN : NC s) (hTc : TH E (T0 E) Gc [] H) (hTm : TH E (T0 E) Gm [] H) (hxc : Gc x0 = 1) (hmm : Gm m0 = 20) (hGzc : ∀ q, Gc q ≠ 0 → s.heap.size ≤ q) (hGzm : ∀ q, Gm q ≠ 0 → s.heap.size ≤ q) (hd : ∀ a, Gm a ≠ 0 → Gc a = 0) (hro : va_at (DG E) vwCl (o0, .inl (E.2.2 2, 1, .inr (.inl (fun _ => 0)))) H) (hGco : Gc o0 = 0) (hGmo : Gm o0 = 0) (hoz : s.heap.size ≤ o0) (hS : va_S (fun q : Nat => s.heap.size ≤ q) s.heap H locs) (hl : lv_has ls 7 [(4, .int 3), (3, .ref o0), (2, .ref m0), (1, .ref x0), (0, .ref b)]) : W p l e room_1 s m #[Value.ref b] below meth c H locs 191 2010 (lw_Z below #[Value.ref b] s) (F0 m 820 ls []) := by
  obtain ⟨hx, hb, hr, hml, hown, hts0, hX, hbl, hlocks, hgv⟩ := id C0
  have hts : ∀ w ∈ TS, w.before #[Value.ref b] s = true := fun w hw => hts0 w (List.mem_filter.mp hw).1
  have hbA : ¬ (fun q : Nat => s.heap.size ≤ q) b := Nat.not_le.mpr hbl
  have hAz : ∀ q, (fun q : Nat => s.heap.size ≤ q) q → s.heap.size ≤ q := fun q h => h
  refine lv_aload_n hx hb dL_law_820 rfl (lv_at hl 3 rfl) ?_
  refine lv_aload_n hx hb dL_law_821 rfl (lv_at hl 4 rfl) ?_
  refine lv_iload hx hb dL_law_822 (lv_at hl 0 rfl) ?_
  refine lv_iconst (v := 1) hx hb dL_law_824 (by decide) ?_
  refine lv_iadd hx hb dL_law_825 ?_
  refine W.eq (g2 := F0 m 826 ls [.int 4, .ref b, .ref x0]) (by rfl) ?_
  refine va_sld hx hb hX hbl hbA hS (show vp_in (4) 10 from vp_in_iff.mpr ⟨by decide, by decide⟩) dL_law_826 ?_
  refine W.eq (g2 := F0 m 827 ls [.int (xs 4), .ref x0]) (by rfl) ?_
  obtain ⟨n_1, p_1, f_1, ha_1, _, _, _⟩ := tg_1 hTc hxc nx_0
  refine va_calli (rnV (fun H => TH E (T0 E) Gc [] H) (As := [.int (xs 4)]) (rest := []) ⟨hx, hb, hml, hown, hts⟩ (c_X9_push l E s.heap.size Gc hGzc x0 (xs 4) hxc) (cwV 1 hts (gdV ml_L_94 im_X9_push se_X9_X9_push in_X9 co_X9_push rfl) rfl rfl rfl (by decide +kernel) ⟨Nat.le_of_ble_eq_true rfl, Nat.le_of_ble_eq_true rfl⟩) hTc (fun U hU hW => hK.go hW hS hAz hU) (va_recv hK.1 (va_one ha_1) (ci := 9) (q0 := 0) rfl rfl) rfl rfl hl.1 rfl (lv_room (Nat.le_of_ble_eq_true rfl)) dL_law_827 ⟨Nat.le_of_ble_eq_true rfl, Nat.le_of_ble_eq_true rfl⟩) hS (fun q _ h => h.elim) (fun q h => h.elim) (fun r_1 _ t H locs ht hvm hw hB hz hk hS => ?_)
  have hTm := hTm.kept (fun q hq => hk q hq (fun h => h))
  have hro := hro.kept (hk _ hro.lt (fun h => h))
  subst hw
  refine lv_aload_n hx hb dL_law_830 rfl (lv_at hl 2 rfl) ?_
  refine lv_aload_n hx hb dL_law_831 rfl (lv_at hl 4 rfl) ?_
  refine lv_iload hx hb dL_law_832 (lv_at hl 0 rfl) ?_
  refine lv_iconst (v := 1) hx hb dL_law_834 (by decide) ?_
  refine lv_iadd hx hb dL_law_835 ?_
  refine W.eq (g2 := F0 m 836 ls [.int 4, .ref b, .ref m0, .int (-1)]) (by rfl) ?_
  refine va_sld hx hb hX hbl hbA hS (show vp_in (4) 10 from vp_in_iff.mpr ⟨by decide, by decide⟩) dL_law_836 ?_
  refine W.eq (g2 := F0 m 837 ls [.int (xs 4), .ref m0, .int (-1)]) (by rfl) ?_
  obtain ⟨_, _, _, _, ha_2, _⟩ := tg_20 hTm hmm nx_0
  refine va_calli (rnV (fun H => TH E (T0 E) Gm [] H) (As := [.int (xs 4)]) (rest := [.int (-1)]) ⟨hx, hb, hml, hown, hts⟩ (c_X10_push l E s.heap.size Gm hGzm m0 (xs 4) hmm) (cwV 1 hts (gdV ml_L_98 im_X10_push se_X10_X10_push in_X10 co_X10_push rfl) rfl rfl rfl (by decide +kernel) ⟨Nat.le_of_ble_eq_true rfl, Nat.le_of_ble_eq_true rfl⟩) hTm (fun U hU hW => hK.go hW hS hAz hU) (va_recv hK.1 (va_one ha_2) (ci := 10) (q0 := 0) rfl rfl) rfl rfl hl.1 rfl (lv_room (Nat.le_of_ble_eq_true rfl)) dL_law_837 ⟨Nat.le_of_ble_eq_true rfl, Nat.le_of_ble_eq_true rfl⟩) hS (fun q _ h => hGzm q h) (fun q h => hGzm q h) (fun r_2 _ t H locs ht hvm hw hB hz hk hS => ?_)
  have hro := hro.kept (hk _ hro.lt (fun h => h hGmo))
  subst hw
  refine lv_icmp_eq (tgt := 1116) hx hb dL_law_840 (by decide) (fun c_3 => ?_) (fun c_3 => absurd c_3 (by decide))
  exact law_tail C0 hS (Nat.le_of_ble_eq_true rfl) (Nat.le_of_ble_eq_true rfl) (lv_sub hl [0, 4] rfl)
set_option maxHeartbeats 8000000 in
set_option maxRecDepth 100000 in
theorem lk_10 {p : Program} {l : Launch} {e : Env} {s : State} {m : MethodId} {below : List Frame} {meth : Method} {c : Code} {b : Nat} {xs : Nat → Int32} {E : EE} {Gc Gm : Nat → Nat} {x0 m0 o0 : Nat} {H : Heap} {locs : List Loc} {ls : Array Slot} (hst : l.stackTraces = false) (C0 : lw_At p s m meth c b 10 xs) (hK : KS E s.heap.size s) (hN : NC s) (hTc : TH E (T0 E) Gc [] H) (hTm : TH E (T0 E) Gm [] H) (hxc : Gc x0 = 1) (hmm : Gm m0 = 20) (hGzc : ∀ q, Gc q ≠ 0 → s.heap.size ≤ q) (hGzm : ∀ q, Gm q ≠ 0 → s.heap.size ≤ q) (hd : ∀ a, Gm a ≠ 0 → Gc a = 0) (hro : va_at (DG E) vwCl (o0, .inl (E.2.2 2, 1, .inr (.inl (fun _ => 0)))) H) (hGco : Gc o0 = 0) (hGmo : Gm o0 = 0) (hoz : s.heap.size ≤ o0) (hS : va_S (fun q : Nat => s.heap.size ≤ q) s.heap H locs) (hl : lv_has ls 7 [(4, .int 3), (3, .ref o0), (2, .ref m0), (1, .ref x0), (0, .ref b)]) : W p l e room_1 s m #[Value.ref b] below meth c H locs 191 2010 (lw_Z below #[Value.ref b] s) (F0 m 845 ls []) := by
  obtain ⟨hx, hb, hr, hml, hown, hts0, hX, hbl, hlocks, hgv⟩ := id C0
  have hts : ∀ w ∈ TS, w.before #[Value.ref b] s = true := fun w hw => hts0 w (List.mem_filter.mp hw).1
  have hbA : ¬ (fun q : Nat => s.heap.size ≤ q) b := Nat.not_le.mpr hbl
  have hAz : ∀ q, (fun q : Nat => s.heap.size ≤ q) q → s.heap.size ≤ q := fun q h => h
  refine lv_aload_n hx hb dL_law_845 rfl (lv_at hl 3 rfl) ?_
  refine lv_aload_n hx hb dL_law_846 rfl (lv_at hl 4 rfl) ?_
  refine lv_iload hx hb dL_law_847 (lv_at hl 0 rfl) ?_
  refine lv_iconst (v := 1) hx hb dL_law_849 (by decide) ?_
  refine lv_iadd hx hb dL_law_850 ?_
  refine W.eq (g2 := F0 m 851 ls [.int 4, .ref b, .ref x0]) (by rfl) ?_
  refine va_sld hx hb hX hbl hbA hS (show vp_in (4) 10 from vp_in_iff.mpr ⟨by decide, by decide⟩) dL_law_851 ?_
  refine W.eq (g2 := F0 m 852 ls [.int (xs 4), .ref x0]) (by rfl) ?_
  obtain ⟨n_1, p_1, f_1, ha_1, _, _, _⟩ := tg_1 hTc hxc nx_0
  refine va_calli (rnV (fun H => TH E (T0 E) Gc [] H) (As := [.int (xs 4)]) (rest := []) ⟨hx, hb, hml, hown, hts⟩ (c_X9_deliver l E s.heap.size Gc hGzc x0 (xs 4) hxc) (cwV 1 hts (gdV ml_L_99 im_X9_deliver se_X9_X9_deliver in_X9 co_X9_deliver rfl) rfl rfl rfl (by decide +kernel) ⟨Nat.le_of_ble_eq_true rfl, Nat.le_of_ble_eq_true rfl⟩) hTc (fun U hU hW => hK.go hW hS hAz hU) (va_recv hK.1 (va_one ha_1) (ci := 9) (q0 := 0) rfl rfl) rfl rfl hl.1 rfl (lv_room (Nat.le_of_ble_eq_true rfl)) dL_law_852 ⟨Nat.le_of_ble_eq_true rfl, Nat.le_of_ble_eq_true rfl⟩) hS (fun q _ h => h.elim) (fun q h => h.elim) (fun r_1 _ t H locs ht hvm hw hB hz hk hS => ?_)
  have hTm := hTm.kept (fun q hq => hk q hq (fun h => h))
  have hro := hro.kept (hk _ hro.lt (fun h => h))
  subst hw
  refine lv_aload_n hx hb dL_law_855 rfl (lv_at hl 2 rfl) ?_
  refine lv_aload_n hx hb dL_law_856 rfl (lv_at hl 4 rfl) ?_
  refine lv_iload hx hb dL_law_857 (lv_at hl 0 rfl) ?_
  refine lv_iconst (v := 1) hx hb dL_law_859 (by decide) ?_
  refine lv_iadd hx hb dL_law_860 ?_
  refine W.eq (g2 := F0 m 861 ls [.int 4, .ref b, .ref m0, .int 0]) (by rfl) ?_
  refine va_sld hx hb hX hbl hbA hS (show vp_in (4) 10 from vp_in_iff.mpr ⟨by decide, by decide⟩) dL_law_861 ?_
  refine W.eq (g2 := F0 m 862 ls [.int (xs 4), .ref m0, .int 0]) (by rfl) ?_
  obtain ⟨_, _, _, _, ha_2, _⟩ := tg_20 hTm hmm nx_0
  refine va_calli (rnV (fun H => TH E (T0 E) Gm [] H) (As := [.int (xs 4)]) (rest := [.int 0]) ⟨hx, hb, hml, hown, hts⟩ (c_X10_deliver l E s.heap.size Gm hGzm m0 (xs 4) hmm) (cwV 1 hts (gdV ml_L_102 im_X10_deliver se_X10_X10_deliver in_X10 co_X10_deliver rfl) rfl rfl rfl (by decide +kernel) ⟨Nat.le_of_ble_eq_true rfl, Nat.le_of_ble_eq_true rfl⟩) hTm (fun U hU hW => hK.go hW hS hAz hU) (va_recv hK.1 (va_one ha_2) (ci := 10) (q0 := 0) rfl rfl) rfl rfl hl.1 rfl (lv_room (Nat.le_of_ble_eq_true rfl)) dL_law_862 ⟨Nat.le_of_ble_eq_true rfl, Nat.le_of_ble_eq_true rfl⟩) hS (fun q _ h => hGzm q h) (fun q h => hGzm q h) (fun r_2 _ t H locs ht hvm hw hB hz hk hS => ?_)
  have hro := hro.kept (hk _ hro.lt (fun h => h hGmo))
  subst hw
  refine lv_icmp_eq (tgt := 1116) hx hb dL_law_865 (by decide) (fun c_3 => ?_) (fun c_3 => absurd c_3 (by decide))
  exact law_tail C0 hS (Nat.le_of_ble_eq_true rfl) (Nat.le_of_ble_eq_true rfl) (lv_sub hl [0, 4] rfl)
set_option maxHeartbeats 8000000 in
set_option maxRecDepth 100000 in
theorem lk_11 {p : Program} {l : Launch} {e : Env} {s : State} {m : MethodId} {below : List Frame} {meth : Method} {c : Code} {b : Nat} {xs : Nat → Int32} {E : EE} {Gc Gm : Nat → Nat} {x0 m0 o0 : Nat} {H : Heap} {locs : List Loc} {ls : Array Slot} (hst : l.stackTraces = false) (C0 : lw_At p s m meth c b 10 xs) (hK : KS E s.heap.size s) (hN : NC s) (hTc : TH E (T0 E) Gc [] H) (hTm : TH E (T0 E) Gm [] H) (hxc : Gc x0 = 1) (hmm : Gm m0 = 20) (hGzc : ∀ q, Gc q ≠ 0 → s.heap.size ≤ q) (hGzm : ∀ q, Gm q ≠ 0 → s.heap.size ≤ q) (hd : ∀ a, Gm a ≠ 0 → Gc a = 0) (hro : va_at (DG E) vwCl (o0, .inl (E.2.2 2, 1, .inr (.inl (fun _ => 0)))) H) (hGco : Gc o0 = 0) (hGmo : Gm o0 = 0) (hoz : s.heap.size ≤ o0) (hS : va_S (fun q : Nat => s.heap.size ≤ q) s.heap H locs) (hl : lv_has ls 7 [(4, .int 3), (3, .ref o0), (2, .ref m0), (1, .ref x0), (0, .ref b)]) : W p l e room_1 s m #[Value.ref b] below meth c H locs 191 2010 (lw_Z below #[Value.ref b] s) (F0 m 870 ls []) := by
  obtain ⟨hx, hb, hr, hml, hown, hts0, hX, hbl, hlocks, hgv⟩ := id C0
  have hts : ∀ w ∈ TS, w.before #[Value.ref b] s = true := fun w hw => hts0 w (List.mem_filter.mp hw).1
  have hbA : ¬ (fun q : Nat => s.heap.size ≤ q) b := Nat.not_le.mpr hbl
  have hAz : ∀ q, (fun q : Nat => s.heap.size ≤ q) q → s.heap.size ≤ q := fun q h => h
  refine lv_aload_n hx hb dL_law_870 rfl (lv_at hl 3 rfl) ?_
  refine lv_aload_n hx hb dL_law_871 rfl (lv_at hl 4 rfl) ?_
  refine lv_iload hx hb dL_law_872 (lv_at hl 0 rfl) ?_
  refine lv_iconst (v := 1) hx hb dL_law_874 (by decide) ?_
  refine lv_iadd hx hb dL_law_875 ?_
  refine W.eq (g2 := F0 m 876 ls [.int 4, .ref b, .ref x0]) (by rfl) ?_
  refine va_sld hx hb hX hbl hbA hS (show vp_in (4) 10 from vp_in_iff.mpr ⟨by decide, by decide⟩) dL_law_876 ?_
  refine W.eq (g2 := F0 m 877 ls [.int (xs 4), .ref x0]) (by rfl) ?_
  refine lv_aload_n hx hb dL_law_877 rfl (lv_at hl 4 rfl) ?_
  refine lv_iload hx hb dL_law_878 (lv_at hl 0 rfl) ?_
  refine lv_iconst (v := 2) hx hb dL_law_880 (by decide) ?_
  refine lv_iadd hx hb dL_law_881 ?_
  refine W.eq (g2 := F0 m 882 ls [.int 5, .ref b, .int (xs 4), .ref x0]) (by rfl) ?_
  refine va_sld hx hb hX hbl hbA hS (show vp_in (5) 10 from vp_in_iff.mpr ⟨by decide, by decide⟩) dL_law_882 ?_
  refine W.eq (g2 := F0 m 883 ls [.int (xs 5), .int (xs 4), .ref x0]) (by rfl) ?_
  refine lv_if_eq (tgt := 890) hx hb dL_law_883 (by decide) (fun c_1 => ?_) (fun c_1 => ?_)
  · simp only [lt_I, le_I, eq_I, i_0, i_1, i_2, i_3, i_4, i_5, i_6, i_7, i_8, i_10, i_12, i_16, i_20, i_23, i_24, i_31, i_32, i_63, i_64, i_m1] at c_1
    refine lv_iconst (v := 0) hx hb dL_law_890 (by decide) ?_
    obtain ⟨n_2, p_2, f_2, ha_2, _, _, _⟩ := tg_1 hTc hxc nx_0
    refine va_calli (rnV (fun H => TH E (T0 E) Gc [] H) (As := [.int (xs 4), .int 0]) (rest := []) ⟨hx, hb, hml, hown, hts⟩ (c_X9_spoil l E s.heap.size Gc hGzc x0 (xs 4) 0 hxc) (cwV 2 hts (gdV ml_L_103 im_X9_spoil se_X9_X9_spoil in_X9 co_X9_spoil rfl) rfl rfl rfl (by decide +kernel) ⟨Nat.le_of_ble_eq_true rfl, Nat.le_of_ble_eq_true rfl⟩) hTc (fun U hU hW => hK.go hW hS hAz hU) (va_recv hK.1 (va_one ha_2) (ci := 9) (q0 := 0) rfl rfl) rfl rfl hl.1 rfl (lv_room (Nat.le_of_ble_eq_true rfl)) dL_law_891 ⟨Nat.le_of_ble_eq_true rfl, Nat.le_of_ble_eq_true rfl⟩) hS (fun q _ h => h.elim) (fun q h => h.elim) (fun r_2 _ t H locs ht hvm hw hB hz hk hS => ?_)
    have hTm := hTm.kept (fun q hq => hk q hq (fun h => h))
    have hro := hro.kept (hk _ hro.lt (fun h => h))
    subst hw
    refine lv_aload_n hx hb dL_law_894 rfl (lv_at hl 2 rfl) ?_
    refine lv_aload_n hx hb dL_law_895 rfl (lv_at hl 4 rfl) ?_
    refine lv_iload hx hb dL_law_896 (lv_at hl 0 rfl) ?_
    refine lv_iconst (v := 1) hx hb dL_law_898 (by decide) ?_
    refine lv_iadd hx hb dL_law_899 ?_
    refine W.eq (g2 := F0 m 900 ls [.int 4, .ref b, .ref m0, .int 0]) (by rfl) ?_
    refine va_sld hx hb hX hbl hbA hS (show vp_in (4) 10 from vp_in_iff.mpr ⟨by decide, by decide⟩) dL_law_900 ?_
    refine W.eq (g2 := F0 m 901 ls [.int (xs 4), .ref m0, .int 0]) (by rfl) ?_
    refine lv_aload_n hx hb dL_law_901 rfl (lv_at hl 4 rfl) ?_
    refine lv_iload hx hb dL_law_902 (lv_at hl 0 rfl) ?_
    refine lv_iconst (v := 2) hx hb dL_law_904 (by decide) ?_
    refine lv_iadd hx hb dL_law_905 ?_
    refine W.eq (g2 := F0 m 906 ls [.int 5, .ref b, .int (xs 4), .ref m0, .int 0]) (by rfl) ?_
    refine va_sld hx hb hX hbl hbA hS (show vp_in (5) 10 from vp_in_iff.mpr ⟨by decide, by decide⟩) dL_law_906 ?_
    refine W.eq (g2 := F0 m 907 ls [.int (xs 5), .int (xs 4), .ref m0, .int 0]) (by rfl) ?_
    refine lv_if_eq (tgt := 914) hx hb dL_law_907 (by decide) (fun c_3 => ?_) (fun c_3 => ?_)
    · simp only [lt_I, le_I, eq_I, i_0, i_1, i_2, i_3, i_4, i_5, i_6, i_7, i_8, i_10, i_12, i_16, i_20, i_23, i_24, i_31, i_32, i_63, i_64, i_m1] at c_3
      refine lv_iconst (v := 0) hx hb dL_law_914 (by decide) ?_
      obtain ⟨_, _, _, _, ha_4, _⟩ := tg_20 hTm hmm nx_0
      refine va_calli (rnV (fun H => TH E (T0 E) Gm [] H) (As := [.int (xs 4), .int 0]) (rest := [.int 0]) ⟨hx, hb, hml, hown, hts⟩ (c_X10_spoil l E s.heap.size Gm hGzm m0 (xs 4) 0 hmm) (cwV 2 hts (gdV ml_L_107 im_X10_spoil se_X10_X10_spoil in_X10 co_X10_spoil rfl) rfl rfl rfl (by decide +kernel) ⟨Nat.le_of_ble_eq_true rfl, Nat.le_of_ble_eq_true rfl⟩) hTm (fun U hU hW => hK.go hW hS hAz hU) (va_recv hK.1 (va_one ha_4) (ci := 10) (q0 := 0) rfl rfl) rfl rfl hl.1 rfl (lv_room (Nat.le_of_ble_eq_true rfl)) dL_law_915 ⟨Nat.le_of_ble_eq_true rfl, Nat.le_of_ble_eq_true rfl⟩) hS (fun q _ h => hGzm q h) (fun q h => hGzm q h) (fun r_4 _ t H locs ht hvm hw hB hz hk hS => ?_)
      have hro := hro.kept (hk _ hro.lt (fun h => h hGmo))
      subst hw
      refine lv_icmp_eq (tgt := 1116) hx hb dL_law_918 (by decide) (fun c_5 => ?_) (fun c_5 => absurd c_5 (by decide))
      exact law_tail C0 hS (Nat.le_of_ble_eq_true rfl) (Nat.le_of_ble_eq_true rfl) (lv_sub hl [0, 4] rfl)
    · simp only [lt_I, le_I, eq_I, i_0, i_1, i_2, i_3, i_4, i_5, i_6, i_7, i_8, i_10, i_12, i_16, i_20, i_23, i_24, i_31, i_32, i_63, i_64, i_m1] at c_3
      refine lv_iconst (v := 1) hx hb dL_law_910 (by decide) ?_
      refine lv_goto (tgt := 915) hx hb dL_law_911 (by decide) ?_
      obtain ⟨_, _, _, _, ha_6, _⟩ := tg_20 hTm hmm nx_0
      refine va_calli (rnV (fun H => TH E (T0 E) Gm [] H) (As := [.int (xs 4), .int 1]) (rest := [.int 0]) ⟨hx, hb, hml, hown, hts⟩ (c_X10_spoil l E s.heap.size Gm hGzm m0 (xs 4) 1 hmm) (cwV 2 hts (gdV ml_L_107 im_X10_spoil se_X10_X10_spoil in_X10 co_X10_spoil rfl) rfl rfl rfl (by decide +kernel) ⟨Nat.le_of_ble_eq_true rfl, Nat.le_of_ble_eq_true rfl⟩) hTm (fun U hU hW => hK.go hW hS hAz hU) (va_recv hK.1 (va_one ha_6) (ci := 10) (q0 := 0) rfl rfl) rfl rfl hl.1 rfl (lv_room (Nat.le_of_ble_eq_true rfl)) dL_law_915 ⟨Nat.le_of_ble_eq_true rfl, Nat.le_of_ble_eq_true rfl⟩) hS (fun q _ h => hGzm q h) (fun q h => hGzm q h) (fun r_6 _ t H locs ht hvm hw hB hz hk hS => ?_)
      have hro := hro.kept (hk _ hro.lt (fun h => h hGmo))
      subst hw
      refine lv_icmp_eq (tgt := 1116) hx hb dL_law_918 (by decide) (fun c_7 => ?_) (fun c_7 => absurd c_7 (by decide))
      exact law_tail C0 hS (Nat.le_of_ble_eq_true rfl) (Nat.le_of_ble_eq_true rfl) (lv_sub hl [0, 4] rfl)
  · simp only [lt_I, le_I, eq_I, i_0, i_1, i_2, i_3, i_4, i_5, i_6, i_7, i_8, i_10, i_12, i_16, i_20, i_23, i_24, i_31, i_32, i_63, i_64, i_m1] at c_1
    refine lv_iconst (v := 1) hx hb dL_law_886 (by decide) ?_
    refine lv_goto (tgt := 891) hx hb dL_law_887 (by decide) ?_
    obtain ⟨n_8, p_8, f_8, ha_8, _, _, _⟩ := tg_1 hTc hxc nx_0
    refine va_calli (rnV (fun H => TH E (T0 E) Gc [] H) (As := [.int (xs 4), .int 1]) (rest := []) ⟨hx, hb, hml, hown, hts⟩ (c_X9_spoil l E s.heap.size Gc hGzc x0 (xs 4) 1 hxc) (cwV 2 hts (gdV ml_L_103 im_X9_spoil se_X9_X9_spoil in_X9 co_X9_spoil rfl) rfl rfl rfl (by decide +kernel) ⟨Nat.le_of_ble_eq_true rfl, Nat.le_of_ble_eq_true rfl⟩) hTc (fun U hU hW => hK.go hW hS hAz hU) (va_recv hK.1 (va_one ha_8) (ci := 9) (q0 := 0) rfl rfl) rfl rfl hl.1 rfl (lv_room (Nat.le_of_ble_eq_true rfl)) dL_law_891 ⟨Nat.le_of_ble_eq_true rfl, Nat.le_of_ble_eq_true rfl⟩) hS (fun q _ h => h.elim) (fun q h => h.elim) (fun r_8 _ t H locs ht hvm hw hB hz hk hS => ?_)
    have hTm := hTm.kept (fun q hq => hk q hq (fun h => h))
    have hro := hro.kept (hk _ hro.lt (fun h => h))
    subst hw
    refine lv_aload_n hx hb dL_law_894 rfl (lv_at hl 2 rfl) ?_
    refine lv_aload_n hx hb dL_law_895 rfl (lv_at hl 4 rfl) ?_
    refine lv_iload hx hb dL_law_896 (lv_at hl 0 rfl) ?_
    refine lv_iconst (v := 1) hx hb dL_law_898 (by decide) ?_
    refine lv_iadd hx hb dL_law_899 ?_
    refine W.eq (g2 := F0 m 900 ls [.int 4, .ref b, .ref m0, .int 0]) (by rfl) ?_
    refine va_sld hx hb hX hbl hbA hS (show vp_in (4) 10 from vp_in_iff.mpr ⟨by decide, by decide⟩) dL_law_900 ?_
    refine W.eq (g2 := F0 m 901 ls [.int (xs 4), .ref m0, .int 0]) (by rfl) ?_
    refine lv_aload_n hx hb dL_law_901 rfl (lv_at hl 4 rfl) ?_
    refine lv_iload hx hb dL_law_902 (lv_at hl 0 rfl) ?_
    refine lv_iconst (v := 2) hx hb dL_law_904 (by decide) ?_
    refine lv_iadd hx hb dL_law_905 ?_
    refine W.eq (g2 := F0 m 906 ls [.int 5, .ref b, .int (xs 4), .ref m0, .int 0]) (by rfl) ?_
    refine va_sld hx hb hX hbl hbA hS (show vp_in (5) 10 from vp_in_iff.mpr ⟨by decide, by decide⟩) dL_law_906 ?_
    refine W.eq (g2 := F0 m 907 ls [.int (xs 5), .int (xs 4), .ref m0, .int 0]) (by rfl) ?_
    refine lv_if_eq (tgt := 914) hx hb dL_law_907 (by decide) (fun c_9 => ?_) (fun c_9 => ?_)
    · simp only [lt_I, le_I, eq_I, i_0, i_1, i_2, i_3, i_4, i_5, i_6, i_7, i_8, i_10, i_12, i_16, i_20, i_23, i_24, i_31, i_32, i_63, i_64, i_m1] at c_9
      refine lv_iconst (v := 0) hx hb dL_law_914 (by decide) ?_
      obtain ⟨_, _, _, _, ha_10, _⟩ := tg_20 hTm hmm nx_0
      refine va_calli (rnV (fun H => TH E (T0 E) Gm [] H) (As := [.int (xs 4), .int 0]) (rest := [.int 0]) ⟨hx, hb, hml, hown, hts⟩ (c_X10_spoil l E s.heap.size Gm hGzm m0 (xs 4) 0 hmm) (cwV 2 hts (gdV ml_L_107 im_X10_spoil se_X10_X10_spoil in_X10 co_X10_spoil rfl) rfl rfl rfl (by decide +kernel) ⟨Nat.le_of_ble_eq_true rfl, Nat.le_of_ble_eq_true rfl⟩) hTm (fun U hU hW => hK.go hW hS hAz hU) (va_recv hK.1 (va_one ha_10) (ci := 10) (q0 := 0) rfl rfl) rfl rfl hl.1 rfl (lv_room (Nat.le_of_ble_eq_true rfl)) dL_law_915 ⟨Nat.le_of_ble_eq_true rfl, Nat.le_of_ble_eq_true rfl⟩) hS (fun q _ h => hGzm q h) (fun q h => hGzm q h) (fun r_10 _ t H locs ht hvm hw hB hz hk hS => ?_)
      have hro := hro.kept (hk _ hro.lt (fun h => h hGmo))
      subst hw
      refine lv_icmp_eq (tgt := 1116) hx hb dL_law_918 (by decide) (fun c_11 => ?_) (fun c_11 => absurd c_11 (by decide))
      exact law_tail C0 hS (Nat.le_of_ble_eq_true rfl) (Nat.le_of_ble_eq_true rfl) (lv_sub hl [0, 4] rfl)
    · simp only [lt_I, le_I, eq_I, i_0, i_1, i_2, i_3, i_4, i_5, i_6, i_7, i_8, i_10, i_12, i_16, i_20, i_23, i_24, i_31, i_32, i_63, i_64, i_m1] at c_9
      refine lv_iconst (v := 1) hx hb dL_law_910 (by decide) ?_
      refine lv_goto (tgt := 915) hx hb dL_law_911 (by decide) ?_
      obtain ⟨_, _, _, _, ha_12, _⟩ := tg_20 hTm hmm nx_0
      refine va_calli (rnV (fun H => TH E (T0 E) Gm [] H) (As := [.int (xs 4), .int 1]) (rest := [.int 0]) ⟨hx, hb, hml, hown, hts⟩ (c_X10_spoil l E s.heap.size Gm hGzm m0 (xs 4) 1 hmm) (cwV 2 hts (gdV ml_L_107 im_X10_spoil se_X10_X10_spoil in_X10 co_X10_spoil rfl) rfl rfl rfl (by decide +kernel) ⟨Nat.le_of_ble_eq_true rfl, Nat.le_of_ble_eq_true rfl⟩) hTm (fun U hU hW => hK.go hW hS hAz hU) (va_recv hK.1 (va_one ha_12) (ci := 10) (q0 := 0) rfl rfl) rfl rfl hl.1 rfl (lv_room (Nat.le_of_ble_eq_true rfl)) dL_law_915 ⟨Nat.le_of_ble_eq_true rfl, Nat.le_of_ble_eq_true rfl⟩) hS (fun q _ h => hGzm q h) (fun q h => hGzm q h) (fun r_12 _ t H locs ht hvm hw hB hz hk hS => ?_)
      have hro := hro.kept (hk _ hro.lt (fun h => h hGmo))
      subst hw
      refine lv_icmp_eq (tgt := 1116) hx hb dL_law_918 (by decide) (fun c_13 => ?_) (fun c_13 => absurd c_13 (by decide))
      exact law_tail C0 hS (Nat.le_of_ble_eq_true rfl) (Nat.le_of_ble_eq_true rfl) (lv_sub hl [0, 4] rfl)
set_option maxHeartbeats 8000000 in
set_option maxRecDepth 100000 in
theorem lk_12 {p : Program} {l : Launch} {e : Env} {s : State} {m : MethodId} {below : List Frame} {meth : Method} {c : Code} {b : Nat} {xs : Nat → Int32} {E : EE} {Gc Gm : Nat → Nat} {x0 m0 o0 : Nat} {H : Heap} {locs : List Loc} {ls : Array Slot} (hst : l.stackTraces = false) (C0 : lw_At p s m meth c b 10 xs) (hK : KS E s.heap.size s) (hN : NC s) (hTc : TH E (T0 E) Gc [] H) (hTm : TH E (T0 E) Gm [] H) (hxc : Gc x0 = 1) (hmm : Gm m0 = 20) (hGzc : ∀ q, Gc q ≠ 0 → s.heap.size ≤ q) (hGzm : ∀ q, Gm q ≠ 0 → s.heap.size ≤ q) (hd : ∀ a, Gm a ≠ 0 → Gc a = 0) (hro : va_at (DG E) vwCl (o0, .inl (E.2.2 2, 1, .inr (.inl (fun _ => 0)))) H) (hGco : Gc o0 = 0) (hGmo : Gm o0 = 0) (hoz : s.heap.size ≤ o0) (hS : va_S (fun q : Nat => s.heap.size ≤ q) s.heap H locs) (hl : lv_has ls 7 [(4, .int 3), (3, .ref o0), (2, .ref m0), (1, .ref x0), (0, .ref b)]) : W p l e room_1 s m #[Value.ref b] below meth c H locs 191 2010 (lw_Z below #[Value.ref b] s) (F0 m 923 ls []) := by
  obtain ⟨hx, hb, hr, hml, hown, hts0, hX, hbl, hlocks, hgv⟩ := id C0
  have hts : ∀ w ∈ TS, w.before #[Value.ref b] s = true := fun w hw => hts0 w (List.mem_filter.mp hw).1
  have hbA : ¬ (fun q : Nat => s.heap.size ≤ q) b := Nat.not_le.mpr hbl
  have hAz : ∀ q, (fun q : Nat => s.heap.size ≤ q) q → s.heap.size ≤ q := fun q h => h
  refine lv_aload_n hx hb dL_law_923 rfl (lv_at hl 3 rfl) ?_
  obtain ⟨n_1, p_1, f_1, ha_1, _, _, _⟩ := tg_1 hTc hxc nx_0
  refine va_calli (rnV (fun H => TH E (T0 E) Gc [] H) (As := []) (rest := []) ⟨hx, hb, hml, hown, hts⟩ (c_X9_tick l E s.heap.size Gc hGzc x0  hxc) (cwV 0 hts (gdV ml_L_108 im_X9_tick se_X9_X9_tick in_X9 co_X9_tick rfl) rfl rfl rfl (by decide +kernel) ⟨Nat.le_of_ble_eq_true rfl, Nat.le_of_ble_eq_true rfl⟩) hTc (fun U hU hW => hK.go hW hS hAz hU) (va_recv hK.1 (va_one ha_1) (ci := 9) (q0 := 0) rfl rfl) rfl rfl hl.1 rfl (lv_room (Nat.le_of_ble_eq_true rfl)) dL_law_924 ⟨Nat.le_of_ble_eq_true rfl, Nat.le_of_ble_eq_true rfl⟩) hS (fun q _ h => h.elim) (fun q h => h.elim) (fun r_1 _ t H locs ht hvm hw hB hz hk hS => ?_)
  have hTm := hTm.kept (fun q hq => hk q hq (fun h => h))
  have hro := hro.kept (hk _ hro.lt (fun h => h))
  subst hw
  refine lv_aload_n hx hb dL_law_927 rfl (lv_at hl 2 rfl) ?_
  obtain ⟨_, _, _, _, ha_2, _⟩ := tg_20 hTm hmm nx_0
  refine va_calli (rnV (fun H => TH E (T0 E) Gm [] H) (As := []) (rest := [.int 0]) ⟨hx, hb, hml, hown, hts⟩ (c_X10_tick l E s.heap.size Gm hGzm m0  hmm) (cwV 0 hts (gdV ml_L_111 im_X10_tick se_X10_X10_tick in_X10 co_X10_tick rfl) rfl rfl rfl (by decide +kernel) ⟨Nat.le_of_ble_eq_true rfl, Nat.le_of_ble_eq_true rfl⟩) hTm (fun U hU hW => hK.go hW hS hAz hU) (va_recv hK.1 (va_one ha_2) (ci := 10) (q0 := 0) rfl rfl) rfl rfl hl.1 rfl (lv_room (Nat.le_of_ble_eq_true rfl)) dL_law_928 ⟨Nat.le_of_ble_eq_true rfl, Nat.le_of_ble_eq_true rfl⟩) hS (fun q _ h => hGzm q h) (fun q h => hGzm q h) (fun r_2 _ t H locs ht hvm hw hB hz hk hS => ?_)
  have hro := hro.kept (hk _ hro.lt (fun h => h hGmo))
  subst hw
  refine lv_icmp_eq (tgt := 1116) hx hb dL_law_931 (by decide) (fun c_3 => ?_) (fun c_3 => absurd c_3 (by decide))
  exact law_tail C0 hS (Nat.le_of_ble_eq_true rfl) (Nat.le_of_ble_eq_true rfl) (lv_sub hl [0, 4] rfl)
set_option maxHeartbeats 8000000 in
set_option maxRecDepth 100000 in
theorem lk_13 {p : Program} {l : Launch} {e : Env} {s : State} {m : MethodId} {below : List Frame} {meth : Method} {c : Code} {b : Nat} {xs : Nat → Int32} {E : EE} {Gc Gm : Nat → Nat} {x0 m0 o0 : Nat} {H : Heap} {locs : List Loc} {ls : Array Slot} (hst : l.stackTraces = false) (C0 : lw_At p s m meth c b 10 xs) (hK : KS E s.heap.size s) (hN : NC s) (hTc : TH E (T0 E) Gc [] H) (hTm : TH E (T0 E) Gm [] H) (hxc : Gc x0 = 1) (hmm : Gm m0 = 20) (hGzc : ∀ q, Gc q ≠ 0 → s.heap.size ≤ q) (hGzm : ∀ q, Gm q ≠ 0 → s.heap.size ≤ q) (hd : ∀ a, Gm a ≠ 0 → Gc a = 0) (hro : va_at (DG E) vwCl (o0, .inl (E.2.2 2, 1, .inr (.inl (fun _ => 0)))) H) (hGco : Gc o0 = 0) (hGmo : Gm o0 = 0) (hoz : s.heap.size ≤ o0) (hS : va_S (fun q : Nat => s.heap.size ≤ q) s.heap H locs) (hl : lv_has ls 7 [(4, .int 3), (3, .ref o0), (2, .ref m0), (1, .ref x0), (0, .ref b)]) : W p l e room_1 s m #[Value.ref b] below meth c H locs 191 2010 (lw_Z below #[Value.ref b] s) (F0 m 936 ls []) := by
  obtain ⟨hx, hb, hr, hml, hown, hts0, hX, hbl, hlocks, hgv⟩ := id C0
  have hts : ∀ w ∈ TS, w.before #[Value.ref b] s = true := fun w hw => hts0 w (List.mem_filter.mp hw).1
  have hbA : ¬ (fun q : Nat => s.heap.size ≤ q) b := Nat.not_le.mpr hbl
  have hAz : ∀ q, (fun q : Nat => s.heap.size ≤ q) q → s.heap.size ≤ q := fun q h => h
  refine lv_aload_n hx hb dL_law_936 rfl (lv_at hl 3 rfl) ?_
  obtain ⟨n_1, p_1, f_1, ha_1, _, _, _⟩ := tg_1 hTc hxc nx_0
  refine va_calli (rnV (fun H => TH E (T0 E) Gc [] H) (As := []) (rest := []) ⟨hx, hb, hml, hown, hts⟩ (c_X9_packets l E s.heap.size Gc hGzc x0  hxc) (cwV 0 hts (gdV ml_L_112 im_X9_packets se_X9_X9_packets in_X9 co_X9_packets rfl) rfl rfl rfl (by decide +kernel) ⟨Nat.le_of_ble_eq_true rfl, Nat.le_of_ble_eq_true rfl⟩) hTc (fun U hU hW => hK.go hW hS hAz hU) (va_recv hK.1 (va_one ha_1) (ci := 9) (q0 := 0) rfl rfl) rfl rfl hl.1 rfl (lv_room (Nat.le_of_ble_eq_true rfl)) dL_law_937 ⟨Nat.le_of_ble_eq_true rfl, Nat.le_of_ble_eq_true rfl⟩) hS (fun q _ h => h.elim) (fun q h => h.elim) (fun r_1 _ t H locs ht hvm hw hB hz hk hS => ?_)
  have hTm := hTm.kept (fun q hq => hk q hq (fun h => h))
  have hro := hro.kept (hk _ hro.lt (fun h => h))
  subst hw
  refine lv_aload_n hx hb dL_law_940 rfl (lv_at hl 2 rfl) ?_
  obtain ⟨_, _, _, _, ha_2, _⟩ := tg_20 hTm hmm nx_0
  refine va_calli (rnV (fun H => TH E (T0 E) Gm [] H) (As := []) (rest := [.int 0]) ⟨hx, hb, hml, hown, hts⟩ (c_X10_packets l E s.heap.size Gm hGzm m0  hmm) (cwV 0 hts (gdV ml_L_115 im_X10_packets se_X10_X10_packets in_X10 co_X10_packets rfl) rfl rfl rfl (by decide +kernel) ⟨Nat.le_of_ble_eq_true rfl, Nat.le_of_ble_eq_true rfl⟩) hTm (fun U hU hW => hK.go hW hS hAz hU) (va_recv hK.1 (va_one ha_2) (ci := 10) (q0 := 0) rfl rfl) rfl rfl hl.1 rfl (lv_room (Nat.le_of_ble_eq_true rfl)) dL_law_941 ⟨Nat.le_of_ble_eq_true rfl, Nat.le_of_ble_eq_true rfl⟩) hS (fun q _ h => hGzm q h) (fun q h => hGzm q h) (fun r_2 _ t H locs ht hvm hw hB hz hk hS => ?_)
  have hro := hro.kept (hk _ hro.lt (fun h => h hGmo))
  subst hw
  refine lv_icmp_eq (tgt := 1116) hx hb dL_law_944 (by decide) (fun c_3 => ?_) (fun c_3 => absurd c_3 (by decide))
  exact law_tail C0 hS (Nat.le_of_ble_eq_true rfl) (Nat.le_of_ble_eq_true rfl) (lv_sub hl [0, 4] rfl)
set_option maxHeartbeats 8000000 in
set_option maxRecDepth 100000 in
theorem lk_14 {p : Program} {l : Launch} {e : Env} {s : State} {m : MethodId} {below : List Frame} {meth : Method} {c : Code} {b : Nat} {xs : Nat → Int32} {E : EE} {Gc Gm : Nat → Nat} {x0 m0 o0 : Nat} {H : Heap} {locs : List Loc} {ls : Array Slot} (hst : l.stackTraces = false) (C0 : lw_At p s m meth c b 10 xs) (hK : KS E s.heap.size s) (hN : NC s) (hTc : TH E (T0 E) Gc [] H) (hTm : TH E (T0 E) Gm [] H) (hxc : Gc x0 = 1) (hmm : Gm m0 = 20) (hGzc : ∀ q, Gc q ≠ 0 → s.heap.size ≤ q) (hGzm : ∀ q, Gm q ≠ 0 → s.heap.size ≤ q) (hd : ∀ a, Gm a ≠ 0 → Gc a = 0) (hro : va_at (DG E) vwCl (o0, .inl (E.2.2 2, 1, .inr (.inl (fun _ => 0)))) H) (hGco : Gc o0 = 0) (hGmo : Gm o0 = 0) (hoz : s.heap.size ≤ o0) (hS : va_S (fun q : Nat => s.heap.size ≤ q) s.heap H locs) (hl : lv_has ls 7 [(4, .int 3), (3, .ref o0), (2, .ref m0), (1, .ref x0), (0, .ref b)]) : W p l e room_1 s m #[Value.ref b] below meth c H locs 191 2010 (lw_Z below #[Value.ref b] s) (F0 m 949 ls []) := by
  obtain ⟨hx, hb, hr, hml, hown, hts0, hX, hbl, hlocks, hgv⟩ := id C0
  have hts : ∀ w ∈ TS, w.before #[Value.ref b] s = true := fun w hw => hts0 w (List.mem_filter.mp hw).1
  have hbA : ¬ (fun q : Nat => s.heap.size ≤ q) b := Nat.not_le.mpr hbl
  have hAz : ∀ q, (fun q : Nat => s.heap.size ≤ q) q → s.heap.size ≤ q := fun q h => h
  refine lv_aload_n hx hb dL_law_949 rfl (lv_at hl 3 rfl) ?_
  refine lv_aload_n hx hb dL_law_950 rfl (lv_at hl 4 rfl) ?_
  refine lv_iload hx hb dL_law_951 (lv_at hl 0 rfl) ?_
  refine lv_iconst (v := 1) hx hb dL_law_953 (by decide) ?_
  refine lv_iadd hx hb dL_law_954 ?_
  refine W.eq (g2 := F0 m 955 ls [.int 4, .ref b, .ref x0]) (by rfl) ?_
  refine va_sld hx hb hX hbl hbA hS (show vp_in (4) 10 from vp_in_iff.mpr ⟨by decide, by decide⟩) dL_law_955 ?_
  refine W.eq (g2 := F0 m 956 ls [.int (xs 4), .ref x0]) (by rfl) ?_
  refine lv_aload_n hx hb dL_law_956 rfl (lv_at hl 4 rfl) ?_
  refine lv_iload hx hb dL_law_957 (lv_at hl 0 rfl) ?_
  refine lv_iconst (v := 2) hx hb dL_law_959 (by decide) ?_
  refine lv_iadd hx hb dL_law_960 ?_
  refine W.eq (g2 := F0 m 961 ls [.int 5, .ref b, .int (xs 4), .ref x0]) (by rfl) ?_
  refine va_sld hx hb hX hbl hbA hS (show vp_in (5) 10 from vp_in_iff.mpr ⟨by decide, by decide⟩) dL_law_961 ?_
  refine W.eq (g2 := F0 m 962 ls [.int (xs 5), .int (xs 4), .ref x0]) (by rfl) ?_
  obtain ⟨n_1, p_1, f_1, ha_1, _, _, _⟩ := tg_1 hTc hxc nx_0
  refine va_calli (rnV (fun H => TH E (T0 E) Gc [] H) (As := [.int (xs 4), .int (xs 5)]) (rest := []) ⟨hx, hb, hml, hown, hts⟩ (c_X9_packet l E s.heap.size Gc hGzc x0 (xs 4) (xs 5) hxc) (cwV 2 hts (gdV ml_L_116 im_X9_packet se_X9_X9_packet in_X9 co_X9_packet rfl) rfl rfl rfl (by decide +kernel) ⟨Nat.le_of_ble_eq_true rfl, Nat.le_of_ble_eq_true rfl⟩) hTc (fun U hU hW => hK.go hW hS hAz hU) (va_recv hK.1 (va_one ha_1) (ci := 9) (q0 := 0) rfl rfl) rfl rfl hl.1 rfl (lv_room (Nat.le_of_ble_eq_true rfl)) dL_law_962 ⟨Nat.le_of_ble_eq_true rfl, Nat.le_of_ble_eq_true rfl⟩) hS (fun q _ h => h.elim) (fun q h => h.elim) (fun r_1 _ t H locs ht hvm hw hB hz hk hS => ?_)
  have hTm := hTm.kept (fun q hq => hk q hq (fun h => h))
  have hro := hro.kept (hk _ hro.lt (fun h => h))
  subst hw
  refine lv_aload_n hx hb dL_law_965 rfl (lv_at hl 2 rfl) ?_
  refine lv_aload_n hx hb dL_law_966 rfl (lv_at hl 4 rfl) ?_
  refine lv_iload hx hb dL_law_967 (lv_at hl 0 rfl) ?_
  refine lv_iconst (v := 1) hx hb dL_law_969 (by decide) ?_
  refine lv_iadd hx hb dL_law_970 ?_
  refine W.eq (g2 := F0 m 971 ls [.int 4, .ref b, .ref m0, .int (-1)]) (by rfl) ?_
  refine va_sld hx hb hX hbl hbA hS (show vp_in (4) 10 from vp_in_iff.mpr ⟨by decide, by decide⟩) dL_law_971 ?_
  refine W.eq (g2 := F0 m 972 ls [.int (xs 4), .ref m0, .int (-1)]) (by rfl) ?_
  refine lv_aload_n hx hb dL_law_972 rfl (lv_at hl 4 rfl) ?_
  refine lv_iload hx hb dL_law_973 (lv_at hl 0 rfl) ?_
  refine lv_iconst (v := 2) hx hb dL_law_975 (by decide) ?_
  refine lv_iadd hx hb dL_law_976 ?_
  refine W.eq (g2 := F0 m 977 ls [.int 5, .ref b, .int (xs 4), .ref m0, .int (-1)]) (by rfl) ?_
  refine va_sld hx hb hX hbl hbA hS (show vp_in (5) 10 from vp_in_iff.mpr ⟨by decide, by decide⟩) dL_law_977 ?_
  refine W.eq (g2 := F0 m 978 ls [.int (xs 5), .int (xs 4), .ref m0, .int (-1)]) (by rfl) ?_
  obtain ⟨_, _, _, _, ha_2, _⟩ := tg_20 hTm hmm nx_0
  refine va_calli (rnV (fun H => TH E (T0 E) Gm [] H) (As := [.int (xs 4), .int (xs 5)]) (rest := [.int (-1)]) ⟨hx, hb, hml, hown, hts⟩ (c_X10_packet l E s.heap.size Gm hGzm m0 (xs 4) (xs 5) hmm) (cwV 2 hts (gdV ml_L_119 im_X10_packet se_X10_X10_packet in_X10 co_X10_packet rfl) rfl rfl rfl (by decide +kernel) ⟨Nat.le_of_ble_eq_true rfl, Nat.le_of_ble_eq_true rfl⟩) hTm (fun U hU hW => hK.go hW hS hAz hU) (va_recv hK.1 (va_one ha_2) (ci := 10) (q0 := 0) rfl rfl) rfl rfl hl.1 rfl (lv_room (Nat.le_of_ble_eq_true rfl)) dL_law_978 ⟨Nat.le_of_ble_eq_true rfl, Nat.le_of_ble_eq_true rfl⟩) hS (fun q _ h => hGzm q h) (fun q h => hGzm q h) (fun r_2 _ t H locs ht hvm hw hB hz hk hS => ?_)
  have hro := hro.kept (hk _ hro.lt (fun h => h hGmo))
  subst hw
  refine lv_icmp_eq (tgt := 1116) hx hb dL_law_981 (by decide) (fun c_3 => ?_) (fun c_3 => absurd c_3 (by decide))
  exact law_tail C0 hS (Nat.le_of_ble_eq_true rfl) (Nat.le_of_ble_eq_true rfl) (lv_sub hl [0, 4] rfl)
set_option maxHeartbeats 8000000 in
set_option maxRecDepth 100000 in
theorem lk_15 {p : Program} {l : Launch} {e : Env} {s : State} {m : MethodId} {below : List Frame} {meth : Method} {c : Code} {b : Nat} {xs : Nat → Int32} {E : EE} {Gc Gm : Nat → Nat} {x0 m0 o0 : Nat} {H : Heap} {locs : List Loc} {ls : Array Slot} (hst : l.stackTraces = false) (C0 : lw_At p s m meth c b 10 xs) (hK : KS E s.heap.size s) (hN : NC s) (hTc : TH E (T0 E) Gc [] H) (hTm : TH E (T0 E) Gm [] H) (hxc : Gc x0 = 1) (hmm : Gm m0 = 20) (hGzc : ∀ q, Gc q ≠ 0 → s.heap.size ≤ q) (hGzm : ∀ q, Gm q ≠ 0 → s.heap.size ≤ q) (hd : ∀ a, Gm a ≠ 0 → Gc a = 0) (hro : va_at (DG E) vwCl (o0, .inl (E.2.2 2, 1, .inr (.inl (fun _ => 0)))) H) (hGco : Gc o0 = 0) (hGmo : Gm o0 = 0) (hoz : s.heap.size ≤ o0) (hS : va_S (fun q : Nat => s.heap.size ≤ q) s.heap H locs) (hl : lv_has ls 7 [(4, .int 3), (3, .ref o0), (2, .ref m0), (1, .ref x0), (0, .ref b)]) : W p l e room_1 s m #[Value.ref b] below meth c H locs 191 2010 (lw_Z below #[Value.ref b] s) (F0 m 986 ls []) := by
  obtain ⟨hx, hb, hr, hml, hown, hts0, hX, hbl, hlocks, hgv⟩ := id C0
  have hts : ∀ w ∈ TS, w.before #[Value.ref b] s = true := fun w hw => hts0 w (List.mem_filter.mp hw).1
  have hbA : ¬ (fun q : Nat => s.heap.size ≤ q) b := Nat.not_le.mpr hbl
  have hAz : ∀ q, (fun q : Nat => s.heap.size ≤ q) q → s.heap.size ≤ q := fun q h => h
  refine lv_aload_n hx hb dL_law_986 rfl (lv_at hl 3 rfl) ?_
  refine lv_aload_n hx hb dL_law_987 rfl (lv_at hl 4 rfl) ?_
  refine lv_iload hx hb dL_law_988 (lv_at hl 0 rfl) ?_
  refine lv_iconst (v := 1) hx hb dL_law_990 (by decide) ?_
  refine lv_iadd hx hb dL_law_991 ?_
  refine W.eq (g2 := F0 m 992 ls [.int 4, .ref b, .ref x0]) (by rfl) ?_
  refine va_sld hx hb hX hbl hbA hS (show vp_in (4) 10 from vp_in_iff.mpr ⟨by decide, by decide⟩) dL_law_992 ?_
  refine W.eq (g2 := F0 m 993 ls [.int (xs 4), .ref x0]) (by rfl) ?_
  refine lv_aload_n hx hb dL_law_993 rfl (lv_at hl 4 rfl) ?_
  refine lv_iload hx hb dL_law_994 (lv_at hl 0 rfl) ?_
  refine lv_iconst (v := 2) hx hb dL_law_996 (by decide) ?_
  refine lv_iadd hx hb dL_law_997 ?_
  refine W.eq (g2 := F0 m 998 ls [.int 5, .ref b, .int (xs 4), .ref x0]) (by rfl) ?_
  refine va_sld hx hb hX hbl hbA hS (show vp_in (5) 10 from vp_in_iff.mpr ⟨by decide, by decide⟩) dL_law_998 ?_
  refine W.eq (g2 := F0 m 999 ls [.int (xs 5), .int (xs 4), .ref x0]) (by rfl) ?_
  obtain ⟨n_1, p_1, f_1, ha_1, _, _, _⟩ := tg_1 hTc hxc nx_0
  refine va_calli (rnV (fun H => TH E (T0 E) Gc [] H) (As := [.int (xs 4), .int (xs 5)]) (rest := []) ⟨hx, hb, hml, hown, hts⟩ (c_X9_pair l E s.heap.size Gc hGzc x0 (xs 4) (xs 5) hxc) (cwV 2 hts (gdV ml_L_120 im_X9_pair se_X9_X9_pair in_X9 co_X9_pair rfl) rfl rfl rfl (by decide +kernel) ⟨Nat.le_of_ble_eq_true rfl, Nat.le_of_ble_eq_true rfl⟩) hTc (fun U hU hW => hK.go hW hS hAz hU) (va_recv hK.1 (va_one ha_1) (ci := 9) (q0 := 0) rfl rfl) rfl rfl hl.1 rfl (lv_room (Nat.le_of_ble_eq_true rfl)) dL_law_999 ⟨Nat.le_of_ble_eq_true rfl, Nat.le_of_ble_eq_true rfl⟩) hS (fun q _ h => h.elim) (fun q h => h.elim) (fun r_1 _ t H locs ht hvm hw hB hz hk hS => ?_)
  have hTm := hTm.kept (fun q hq => hk q hq (fun h => h))
  have hro := hro.kept (hk _ hro.lt (fun h => h))
  subst hw
  refine lv_aload_n hx hb dL_law_1002 rfl (lv_at hl 2 rfl) ?_
  refine lv_aload_n hx hb dL_law_1003 rfl (lv_at hl 4 rfl) ?_
  refine lv_iload hx hb dL_law_1004 (lv_at hl 0 rfl) ?_
  refine lv_iconst (v := 1) hx hb dL_law_1006 (by decide) ?_
  refine lv_iadd hx hb dL_law_1007 ?_
  refine W.eq (g2 := F0 m 1008 ls [.int 4, .ref b, .ref m0, .int (if (0 ≤ (xs 4).toInt ∧ (xs 4).toInt < 4) ∧ ((xs 5).toInt = 0 ∨ (5 ≤ (xs 5).toInt ∧ (xs 5).toInt ≤ 7)) then 0 else -1)]) (by rfl) ?_
  refine va_sld hx hb hX hbl hbA hS (show vp_in (4) 10 from vp_in_iff.mpr ⟨by decide, by decide⟩) dL_law_1008 ?_
  refine W.eq (g2 := F0 m 1009 ls [.int (xs 4), .ref m0, .int (if (0 ≤ (xs 4).toInt ∧ (xs 4).toInt < 4) ∧ ((xs 5).toInt = 0 ∨ (5 ≤ (xs 5).toInt ∧ (xs 5).toInt ≤ 7)) then 0 else -1)]) (by rfl) ?_
  refine lv_aload_n hx hb dL_law_1009 rfl (lv_at hl 4 rfl) ?_
  refine lv_iload hx hb dL_law_1010 (lv_at hl 0 rfl) ?_
  refine lv_iconst (v := 2) hx hb dL_law_1012 (by decide) ?_
  refine lv_iadd hx hb dL_law_1013 ?_
  refine W.eq (g2 := F0 m 1014 ls [.int 5, .ref b, .int (xs 4), .ref m0, .int (if (0 ≤ (xs 4).toInt ∧ (xs 4).toInt < 4) ∧ ((xs 5).toInt = 0 ∨ (5 ≤ (xs 5).toInt ∧ (xs 5).toInt ≤ 7)) then 0 else -1)]) (by rfl) ?_
  refine va_sld hx hb hX hbl hbA hS (show vp_in (5) 10 from vp_in_iff.mpr ⟨by decide, by decide⟩) dL_law_1014 ?_
  refine W.eq (g2 := F0 m 1015 ls [.int (xs 5), .int (xs 4), .ref m0, .int (if (0 ≤ (xs 4).toInt ∧ (xs 4).toInt < 4) ∧ ((xs 5).toInt = 0 ∨ (5 ≤ (xs 5).toInt ∧ (xs 5).toInt ≤ 7)) then 0 else -1)]) (by rfl) ?_
  obtain ⟨_, _, _, _, ha_2, _⟩ := tg_20 hTm hmm nx_0
  refine va_calli (rnV (fun H => TH E (T0 E) Gm [] H) (As := [.int (xs 4), .int (xs 5)]) (rest := [.int (if (0 ≤ (xs 4).toInt ∧ (xs 4).toInt < 4) ∧ ((xs 5).toInt = 0 ∨ (5 ≤ (xs 5).toInt ∧ (xs 5).toInt ≤ 7)) then 0 else -1)]) ⟨hx, hb, hml, hown, hts⟩ (c_X10_pair l E s.heap.size Gm hGzm m0 (xs 4) (xs 5) hmm) (cwV 2 hts (gdV ml_L_123 im_X10_pair se_X10_X10_pair in_X10 co_X10_pair rfl) rfl rfl rfl (by decide +kernel) ⟨Nat.le_of_ble_eq_true rfl, Nat.le_of_ble_eq_true rfl⟩) hTm (fun U hU hW => hK.go hW hS hAz hU) (va_recv hK.1 (va_one ha_2) (ci := 10) (q0 := 0) rfl rfl) rfl rfl hl.1 rfl (lv_room (Nat.le_of_ble_eq_true rfl)) dL_law_1015 ⟨Nat.le_of_ble_eq_true rfl, Nat.le_of_ble_eq_true rfl⟩) hS (fun q _ h => hGzm q h) (fun q h => hGzm q h) (fun r_2 _ t H locs ht hvm hw hB hz hk hS => ?_)
  have hro := hro.kept (hk _ hro.lt (fun h => h hGmo))
  subst hw
  refine lv_icmp_eq (tgt := 1116) hx hb dL_law_1018 (by decide) (fun c_3 => ?_) (fun c_3 => absurd rfl c_3)
  exact law_tail C0 hS (Nat.le_of_ble_eq_true rfl) (Nat.le_of_ble_eq_true rfl) (lv_sub hl [0, 4] rfl)
set_option maxHeartbeats 8000000 in
set_option maxRecDepth 100000 in
theorem lk_16 {p : Program} {l : Launch} {e : Env} {s : State} {m : MethodId} {below : List Frame} {meth : Method} {c : Code} {b : Nat} {xs : Nat → Int32} {E : EE} {Gc Gm : Nat → Nat} {x0 m0 o0 : Nat} {H : Heap} {locs : List Loc} {ls : Array Slot} (hst : l.stackTraces = false) (C0 : lw_At p s m meth c b 10 xs) (hK : KS E s.heap.size s) (hN : NC s) (hTc : TH E (T0 E) Gc [] H) (hTm : TH E (T0 E) Gm [] H) (hxc : Gc x0 = 1) (hmm : Gm m0 = 20) (hGzc : ∀ q, Gc q ≠ 0 → s.heap.size ≤ q) (hGzm : ∀ q, Gm q ≠ 0 → s.heap.size ≤ q) (hd : ∀ a, Gm a ≠ 0 → Gc a = 0) (hro : va_at (DG E) vwCl (o0, .inl (E.2.2 2, 1, .inr (.inl (fun _ => 0)))) H) (hGco : Gc o0 = 0) (hGmo : Gm o0 = 0) (hoz : s.heap.size ≤ o0) (hS : va_S (fun q : Nat => s.heap.size ≤ q) s.heap H locs) (hl : lv_has ls 7 [(4, .int 3), (3, .ref o0), (2, .ref m0), (1, .ref x0), (0, .ref b)]) : W p l e room_1 s m #[Value.ref b] below meth c H locs 191 2010 (lw_Z below #[Value.ref b] s) (F0 m 1023 ls []) := by
  obtain ⟨hx, hb, hr, hml, hown, hts0, hX, hbl, hlocks, hgv⟩ := id C0
  have hts : ∀ w ∈ TS, w.before #[Value.ref b] s = true := fun w hw => hts0 w (List.mem_filter.mp hw).1
  have hbA : ¬ (fun q : Nat => s.heap.size ≤ q) b := Nat.not_le.mpr hbl
  have hAz : ∀ q, (fun q : Nat => s.heap.size ≤ q) q → s.heap.size ≤ q := fun q h => h
  refine lv_aload_n hx hb dL_law_1023 rfl (lv_at hl 3 rfl) ?_
  refine lv_aload_n hx hb dL_law_1024 rfl (lv_at hl 4 rfl) ?_
  refine lv_iload hx hb dL_law_1025 (lv_at hl 0 rfl) ?_
  refine lv_iconst (v := 1) hx hb dL_law_1027 (by decide) ?_
  refine lv_iadd hx hb dL_law_1028 ?_
  refine W.eq (g2 := F0 m 1029 ls [.int 4, .ref b, .ref x0]) (by rfl) ?_
  refine va_sld hx hb hX hbl hbA hS (show vp_in (4) 10 from vp_in_iff.mpr ⟨by decide, by decide⟩) dL_law_1029 ?_
  refine W.eq (g2 := F0 m 1030 ls [.int (xs 4), .ref x0]) (by rfl) ?_
  obtain ⟨n_1, p_1, f_1, ha_1, _, _, _⟩ := tg_1 hTc hxc nx_0
  refine va_calli (rnV (fun H => TH E (T0 E) Gc [] H) (As := [.int (xs 4)]) (rest := []) ⟨hx, hb, hml, hown, hts⟩ (c_X9_completions l E s.heap.size Gc hGzc x0 (xs 4) hxc) (cwV 1 hts (gdV ml_L_124 im_X9_completions se_X9_X9_completions in_X9 co_X9_completions rfl) rfl rfl rfl (by decide +kernel) ⟨Nat.le_of_ble_eq_true rfl, Nat.le_of_ble_eq_true rfl⟩) hTc (fun U hU hW => hK.go hW hS hAz hU) (va_recv hK.1 (va_one ha_1) (ci := 9) (q0 := 0) rfl rfl) rfl rfl hl.1 rfl (lv_room (Nat.le_of_ble_eq_true rfl)) dL_law_1030 ⟨Nat.le_of_ble_eq_true rfl, Nat.le_of_ble_eq_true rfl⟩) hS (fun q _ h => h.elim) (fun q h => h.elim) (fun r_1 _ t H locs ht hvm hw hB hz hk hS => ?_)
  have hTm := hTm.kept (fun q hq => hk q hq (fun h => h))
  have hro := hro.kept (hk _ hro.lt (fun h => h))
  subst hw
  refine lv_aload_n hx hb dL_law_1033 rfl (lv_at hl 2 rfl) ?_
  refine lv_aload_n hx hb dL_law_1034 rfl (lv_at hl 4 rfl) ?_
  refine lv_iload hx hb dL_law_1035 (lv_at hl 0 rfl) ?_
  refine lv_iconst (v := 1) hx hb dL_law_1037 (by decide) ?_
  refine lv_iadd hx hb dL_law_1038 ?_
  refine W.eq (g2 := F0 m 1039 ls [.int 4, .ref b, .ref m0, .int (if 0 ≤ (xs 4).toInt ∧ (xs 4).toInt < 2 then 0 else -1)]) (by rfl) ?_
  refine va_sld hx hb hX hbl hbA hS (show vp_in (4) 10 from vp_in_iff.mpr ⟨by decide, by decide⟩) dL_law_1039 ?_
  refine W.eq (g2 := F0 m 1040 ls [.int (xs 4), .ref m0, .int (if 0 ≤ (xs 4).toInt ∧ (xs 4).toInt < 2 then 0 else -1)]) (by rfl) ?_
  obtain ⟨_, _, _, _, ha_2, _⟩ := tg_20 hTm hmm nx_0
  refine va_calli (rnV (fun H => TH E (T0 E) Gm [] H) (As := [.int (xs 4)]) (rest := [.int (if 0 ≤ (xs 4).toInt ∧ (xs 4).toInt < 2 then 0 else -1)]) ⟨hx, hb, hml, hown, hts⟩ (c_X10_completions l E s.heap.size Gm hGzm m0 (xs 4) hmm) (cwV 1 hts (gdV ml_L_127 im_X10_completions se_X10_X10_completions in_X10 co_X10_completions rfl) rfl rfl rfl (by decide +kernel) ⟨Nat.le_of_ble_eq_true rfl, Nat.le_of_ble_eq_true rfl⟩) hTm (fun U hU hW => hK.go hW hS hAz hU) (va_recv hK.1 (va_one ha_2) (ci := 10) (q0 := 0) rfl rfl) rfl rfl hl.1 rfl (lv_room (Nat.le_of_ble_eq_true rfl)) dL_law_1040 ⟨Nat.le_of_ble_eq_true rfl, Nat.le_of_ble_eq_true rfl⟩) hS (fun q _ h => hGzm q h) (fun q h => hGzm q h) (fun r_2 _ t H locs ht hvm hw hB hz hk hS => ?_)
  have hro := hro.kept (hk _ hro.lt (fun h => h hGmo))
  subst hw
  refine lv_icmp_eq (tgt := 1116) hx hb dL_law_1043 (by decide) (fun c_3 => ?_) (fun c_3 => absurd rfl c_3)
  exact law_tail C0 hS (Nat.le_of_ble_eq_true rfl) (Nat.le_of_ble_eq_true rfl) (lv_sub hl [0, 4] rfl)
set_option maxHeartbeats 8000000 in
set_option maxRecDepth 100000 in
theorem lk_17 {p : Program} {l : Launch} {e : Env} {s : State} {m : MethodId} {below : List Frame} {meth : Method} {c : Code} {b : Nat} {xs : Nat → Int32} {E : EE} {Gc Gm : Nat → Nat} {x0 m0 o0 : Nat} {H : Heap} {locs : List Loc} {ls : Array Slot} (hst : l.stackTraces = false) (C0 : lw_At p s m meth c b 10 xs) (hK : KS E s.heap.size s) (hN : NC s) (hTc : TH E (T0 E) Gc [] H) (hTm : TH E (T0 E) Gm [] H) (hxc : Gc x0 = 1) (hmm : Gm m0 = 20) (hGzc : ∀ q, Gc q ≠ 0 → s.heap.size ≤ q) (hGzm : ∀ q, Gm q ≠ 0 → s.heap.size ≤ q) (hd : ∀ a, Gm a ≠ 0 → Gc a = 0) (hro : va_at (DG E) vwCl (o0, .inl (E.2.2 2, 1, .inr (.inl (fun _ => 0)))) H) (hGco : Gc o0 = 0) (hGmo : Gm o0 = 0) (hoz : s.heap.size ≤ o0) (hS : va_S (fun q : Nat => s.heap.size ≤ q) s.heap H locs) (hl : lv_has ls 7 [(4, .int 3), (3, .ref o0), (2, .ref m0), (1, .ref x0), (0, .ref b)]) : W p l e room_1 s m #[Value.ref b] below meth c H locs 191 2010 (lw_Z below #[Value.ref b] s) (F0 m 1048 ls []) := by
  obtain ⟨hx, hb, hr, hml, hown, hts0, hX, hbl, hlocks, hgv⟩ := id C0
  have hts : ∀ w ∈ TS, w.before #[Value.ref b] s = true := fun w hw => hts0 w (List.mem_filter.mp hw).1
  have hbA : ¬ (fun q : Nat => s.heap.size ≤ q) b := Nat.not_le.mpr hbl
  have hAz : ∀ q, (fun q : Nat => s.heap.size ≤ q) q → s.heap.size ≤ q := fun q h => h
  refine lv_aload_n hx hb dL_law_1048 rfl (lv_at hl 3 rfl) ?_
  refine lv_aload_n hx hb dL_law_1049 rfl (lv_at hl 4 rfl) ?_
  refine lv_iload hx hb dL_law_1050 (lv_at hl 0 rfl) ?_
  refine lv_iconst (v := 1) hx hb dL_law_1052 (by decide) ?_
  refine lv_iadd hx hb dL_law_1053 ?_
  refine W.eq (g2 := F0 m 1054 ls [.int 4, .ref b, .ref x0]) (by rfl) ?_
  refine va_sld hx hb hX hbl hbA hS (show vp_in (4) 10 from vp_in_iff.mpr ⟨by decide, by decide⟩) dL_law_1054 ?_
  refine W.eq (g2 := F0 m 1055 ls [.int (xs 4), .ref x0]) (by rfl) ?_
  refine lv_aload_n hx hb dL_law_1055 rfl (lv_at hl 4 rfl) ?_
  refine lv_iload hx hb dL_law_1056 (lv_at hl 0 rfl) ?_
  refine lv_iconst (v := 2) hx hb dL_law_1058 (by decide) ?_
  refine lv_iadd hx hb dL_law_1059 ?_
  refine W.eq (g2 := F0 m 1060 ls [.int 5, .ref b, .int (xs 4), .ref x0]) (by rfl) ?_
  refine va_sld hx hb hX hbl hbA hS (show vp_in (5) 10 from vp_in_iff.mpr ⟨by decide, by decide⟩) dL_law_1060 ?_
  refine W.eq (g2 := F0 m 1061 ls [.int (xs 5), .int (xs 4), .ref x0]) (by rfl) ?_
  refine lv_aload_n hx hb dL_law_1061 rfl (lv_at hl 1 rfl) ?_
  refine va_calli (vx_runSW (hh := [(0, 10, 13, 13), (0, 10, 17, 43)]) (As := [.ref x0, .int (xs 4), .int (xs 5), .ref o0]) (rest := []) ⟨hx, hb, hml, hown, hts⟩ (c_L_poll l hst E s.heap.size Gc hGzc x0 (xs 4) (xs 5) o0 hxc) (vx_cwSW 4 hts (gdW ml_L_128 st_L_poll in_L co_L_poll rfl) rfl rfl rfl (by decide +kernel) ⟨Nat.le_of_ble_eq_true rfl, Nat.le_of_ble_eq_true rfl⟩) ⟨fun a U g mk q => ⟨q.1, q.2.1, KS.calling q.2.2.1, NC.vm q.2.2.2 rfl⟩, fun U hU hW => ⟨rfl, by rw [hU]; exact hTc, hK.go hW hS hAz hU, hN.go hW⟩⟩ rfl rfl hl.1 rfl (lv_room (Nat.le_of_ble_eq_true rfl)) dL_law_1062 ⟨Nat.le_of_ble_eq_true rfl, Nat.le_of_ble_eq_true rfl⟩) hS (fun q _ h => hGzc q h) (fun q h => hGzc q h) (fun r_1 _ t H locs ht hvm hw hB hz hk hS => ?_)
  have hTm := hTm.other hd hk
  have hro := hro.kept (hk _ hro.lt (fun h => h hGco))
  rcases hw with ⟨rfl, hV⟩ | ⟨rfl, hV⟩
  · refine lv_istore (lv' := [(5, .int 1), (4, .int 3), (3, .ref o0), (2, .ref m0), (1, .ref x0), (0, .ref b)]) hx hb dL_law_1065 hl (by decide) rfl (fun ls hl => ?_)
    refine lv_aload_n hx hb dL_law_1067 rfl (lv_at hl 3 rfl) ?_
    refine lv_aload_n hx hb dL_law_1068 rfl (lv_at hl 5 rfl) ?_
    refine lv_iload hx hb dL_law_1069 (lv_at hl 1 rfl) ?_
    refine lv_iconst (v := 1) hx hb dL_law_1071 (by decide) ?_
    refine lv_iadd hx hb dL_law_1072 ?_
    refine W.eq (g2 := F0 m 1073 ls [.int 4, .ref b, .ref m0]) (by rfl) ?_
    refine va_sld hx hb hX hbl hbA hS (show vp_in (4) 10 from vp_in_iff.mpr ⟨by decide, by decide⟩) dL_law_1073 ?_
    refine W.eq (g2 := F0 m 1074 ls [.int (xs 4), .ref m0]) (by rfl) ?_
    refine lv_aload_n hx hb dL_law_1074 rfl (lv_at hl 5 rfl) ?_
    refine lv_iload hx hb dL_law_1075 (lv_at hl 1 rfl) ?_
    refine lv_iconst (v := 2) hx hb dL_law_1077 (by decide) ?_
    refine lv_iadd hx hb dL_law_1078 ?_
    refine W.eq (g2 := F0 m 1079 ls [.int 5, .ref b, .int (xs 4), .ref m0]) (by rfl) ?_
    refine va_sld hx hb hX hbl hbA hS (show vp_in (5) 10 from vp_in_iff.mpr ⟨by decide, by decide⟩) dL_law_1079 ?_
    refine W.eq (g2 := F0 m 1080 ls [.int (xs 5), .int (xs 4), .ref m0]) (by rfl) ?_
    obtain ⟨_, _, _, _, ha_2, _⟩ := tg_20 hTm hmm nx_0
    refine va_calli (rnV (fun H => TH E (T0 E) Gm [] H) (As := [.int (xs 4), .int (xs 5)]) (rest := []) ⟨hx, hb, hml, hown, hts⟩ (c_X10_poll l E s.heap.size Gm hGzm m0 (xs 4) (xs 5) hmm) (cwV 2 hts (gdV ml_L_131 im_X10_poll se_X10_X10_poll in_X10 co_X10_poll rfl) rfl rfl rfl (by decide +kernel) ⟨Nat.le_of_ble_eq_true rfl, Nat.le_of_ble_eq_true rfl⟩) hTm (fun U hU hW => hK.go hW hS hAz hU) (va_recv hK.1 (va_one ha_2) (ci := 10) (q0 := 0) rfl rfl) rfl rfl hl.1 rfl (lv_room (Nat.le_of_ble_eq_true rfl)) dL_law_1080 ⟨Nat.le_of_ble_eq_true rfl, Nat.le_of_ble_eq_true rfl⟩) hS (fun q _ h => hGzm q h) (fun q h => hGzm q h) (fun r_2 _ t H locs ht hvm hw hB hz hk hS => ?_)
    have hro := hro.kept (hk _ hro.lt (fun h => h hGmo))
    obtain ⟨fsx, hatx, hfx⟩ := hB
    rw [ht] at hatx
    rw [if_neg hV] at hfx
    subst hw
    refine lv_istore (lv' := [(6, .int 0), (5, .int 1), (4, .int 3), (3, .ref o0), (2, .ref m0), (1, .ref x0), (0, .ref b)]) hx hb dL_law_1083 hl (by decide) rfl (fun ls hl => ?_)
    refine lv_aload_n hx hb dL_law_1085 rfl (lv_at hl 4 rfl) ?_
    refine va_calli (rnV (fun H => va_at (DG E) vwCl (m0, .inr (10, fsx)) H) (As := []) (rest := []) ⟨hx, hb, hml, hown, hts⟩ (c_X10_thrown l E s.heap.size m0 fsx 1 hfx) (cwV 0 hts (gdV ml_L_60 im_X10_thrown se_X10_X10_thrown in_X10 co_X10_thrown rfl) rfl rfl rfl (by decide +kernel) ⟨Nat.le_of_ble_eq_true rfl, Nat.le_of_ble_eq_true rfl⟩) hatx (fun U hU hW => hK.go hW hS hAz hU) (va_recv hK.1 (va_one hatx) (ci := 10) (q0 := 0) rfl rfl) rfl rfl hl.1 rfl (lv_room (Nat.le_of_ble_eq_true rfl)) dL_law_1086 ⟨Nat.le_of_ble_eq_true rfl, Nat.le_of_ble_eq_true rfl⟩) hS (fun q _ h => h.elim) (fun q h => h.elim) (fun r_3 _ t H locs ht hvm hw hB hz hk hS => ?_)
    have hro := hro.kept (hk _ hro.lt (fun h => h))
    subst hw
    refine lv_iload hx hb dL_law_1089 (lv_at hl 1 rfl) ?_
    refine lv_icmp_eq (tgt := 1096) hx hb dL_law_1091 (by decide) (fun c_4 => ?_) (fun c_4 => absurd c_4 (by decide))
    refine lv_iload hx hb dL_law_1096 (lv_at hl 1 rfl) ?_
    refine lv_if_ne (tgt := 1113) hx hb dL_law_1098 (by decide) (fun c_5 => ?_) (fun c_5 => absurd c_5 (by decide))
    refine lv_goto (tgt := 1116) hx hb dL_law_1113 (by decide) ?_
    exact law_tail C0 hS (Nat.le_of_ble_eq_true rfl) (Nat.le_of_ble_eq_true rfl) (lv_sub hl [2, 6] rfl)
  · refine lv_istore (lv' := [(5, .int 2), (4, .int 3), (3, .ref o0), (2, .ref m0), (1, .ref x0), (0, .ref b)]) hx hb dL_law_1065 hl (by decide) rfl (fun ls hl => ?_)
    refine lv_aload_n hx hb dL_law_1067 rfl (lv_at hl 3 rfl) ?_
    refine lv_aload_n hx hb dL_law_1068 rfl (lv_at hl 5 rfl) ?_
    refine lv_iload hx hb dL_law_1069 (lv_at hl 1 rfl) ?_
    refine lv_iconst (v := 1) hx hb dL_law_1071 (by decide) ?_
    refine lv_iadd hx hb dL_law_1072 ?_
    refine W.eq (g2 := F0 m 1073 ls [.int 4, .ref b, .ref m0]) (by rfl) ?_
    refine va_sld hx hb hX hbl hbA hS (show vp_in (4) 10 from vp_in_iff.mpr ⟨by decide, by decide⟩) dL_law_1073 ?_
    refine W.eq (g2 := F0 m 1074 ls [.int (xs 4), .ref m0]) (by rfl) ?_
    refine lv_aload_n hx hb dL_law_1074 rfl (lv_at hl 5 rfl) ?_
    refine lv_iload hx hb dL_law_1075 (lv_at hl 1 rfl) ?_
    refine lv_iconst (v := 2) hx hb dL_law_1077 (by decide) ?_
    refine lv_iadd hx hb dL_law_1078 ?_
    refine W.eq (g2 := F0 m 1079 ls [.int 5, .ref b, .int (xs 4), .ref m0]) (by rfl) ?_
    refine va_sld hx hb hX hbl hbA hS (show vp_in (5) 10 from vp_in_iff.mpr ⟨by decide, by decide⟩) dL_law_1079 ?_
    refine W.eq (g2 := F0 m 1080 ls [.int (xs 5), .int (xs 4), .ref m0]) (by rfl) ?_
    obtain ⟨_, _, _, _, ha_6, _⟩ := tg_20 hTm hmm nx_0
    refine va_calli (rnV (fun H => TH E (T0 E) Gm [] H) (As := [.int (xs 4), .int (xs 5)]) (rest := []) ⟨hx, hb, hml, hown, hts⟩ (c_X10_poll l E s.heap.size Gm hGzm m0 (xs 4) (xs 5) hmm) (cwV 2 hts (gdV ml_L_131 im_X10_poll se_X10_X10_poll in_X10 co_X10_poll rfl) rfl rfl rfl (by decide +kernel) ⟨Nat.le_of_ble_eq_true rfl, Nat.le_of_ble_eq_true rfl⟩) hTm (fun U hU hW => hK.go hW hS hAz hU) (va_recv hK.1 (va_one ha_6) (ci := 10) (q0 := 0) rfl rfl) rfl rfl hl.1 rfl (lv_room (Nat.le_of_ble_eq_true rfl)) dL_law_1080 ⟨Nat.le_of_ble_eq_true rfl, Nat.le_of_ble_eq_true rfl⟩) hS (fun q _ h => hGzm q h) (fun q h => hGzm q h) (fun r_6 _ t H locs ht hvm hw hB hz hk hS => ?_)
    have hro := hro.kept (hk _ hro.lt (fun h => h hGmo))
    obtain ⟨fsx, hatx, hfx⟩ := hB
    rw [ht] at hatx
    rw [if_pos hV] at hfx
    subst hw
    refine lv_istore (lv' := [(6, .int 0), (5, .int 2), (4, .int 3), (3, .ref o0), (2, .ref m0), (1, .ref x0), (0, .ref b)]) hx hb dL_law_1083 hl (by decide) rfl (fun ls hl => ?_)
    refine lv_aload_n hx hb dL_law_1085 rfl (lv_at hl 4 rfl) ?_
    refine va_calli (rnV (fun H => va_at (DG E) vwCl (m0, .inr (10, fsx)) H) (As := []) (rest := []) ⟨hx, hb, hml, hown, hts⟩ (c_X10_thrown l E s.heap.size m0 fsx 2 hfx) (cwV 0 hts (gdV ml_L_60 im_X10_thrown se_X10_X10_thrown in_X10 co_X10_thrown rfl) rfl rfl rfl (by decide +kernel) ⟨Nat.le_of_ble_eq_true rfl, Nat.le_of_ble_eq_true rfl⟩) hatx (fun U hU hW => hK.go hW hS hAz hU) (va_recv hK.1 (va_one hatx) (ci := 10) (q0 := 0) rfl rfl) rfl rfl hl.1 rfl (lv_room (Nat.le_of_ble_eq_true rfl)) dL_law_1086 ⟨Nat.le_of_ble_eq_true rfl, Nat.le_of_ble_eq_true rfl⟩) hS (fun q _ h => h.elim) (fun q h => h.elim) (fun r_7 _ t H locs ht hvm hw hB hz hk hS => ?_)
    have hro := hro.kept (hk _ hro.lt (fun h => h))
    subst hw
    refine lv_iload hx hb dL_law_1089 (lv_at hl 1 rfl) ?_
    refine lv_icmp_eq (tgt := 1096) hx hb dL_law_1091 (by decide) (fun c_8 => ?_) (fun c_8 => absurd c_8 (by decide))
    refine lv_iload hx hb dL_law_1096 (lv_at hl 1 rfl) ?_
    refine lv_if_ne (tgt := 1113) hx hb dL_law_1098 (by decide) (fun c_9 => ?_) (fun c_9 => absurd c_9 (by decide))
    refine lv_goto (tgt := 1116) hx hb dL_law_1113 (by decide) ?_
    exact law_tail C0 hS (Nat.le_of_ble_eq_true rfl) (Nat.le_of_ble_eq_true rfl) (lv_sub hl [2, 6] rfl)
