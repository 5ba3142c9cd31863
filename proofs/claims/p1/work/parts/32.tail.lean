set_option maxHeartbeats 4000000 in
set_option maxRecDepth 100000 in
theorem law_tail {p : Program} {l : Launch} {e : Env} {s : State} {m : MethodId} {below : List Frame} {meth : Method} {c : Code} {b : Nat} {xs : Nat → Int32} {H : Heap} {locs : List Loc} {ls : Array Slot} {cells slots : Nat} (C0 : lw_At p s m meth c b 10 xs) (hS : va_S (fun q : Nat => s.heap.size ≤ q) s.heap H locs) (hc : cells ≤ 600002) (hs : slots ≤ 7302198) (hl : lv_has ls 7 [(4, .int 3), (0, .ref b)]) : W p l e room_1 s m #[Value.ref b] below meth c H locs cells slots (lw_Z below #[Value.ref b] s) (F0 m 1116 ls []) := by
  obtain ⟨hx, hb, hr, hml, hown, hts0, hX, hbl, hlocks, hgv⟩ := id C0
  have hts : ∀ w ∈ TS, w.before #[Value.ref b] s = true := fun w hw => hts0 w (List.mem_filter.mp hw).1
  have hbA : ¬ (fun q : Nat => s.heap.size ≤ q) b := Nat.not_le.mpr hbl
  have hAz : ∀ q, (fun q : Nat => s.heap.size ≤ q) q → s.heap.size ≤ q := fun q h => h
  refine lv_iinc (v := 10) (lv' := [(4, .int 10), (0, .ref b)]) hx hb dL_law_1116 hl (k := 0) rfl (by decide) (by decide) rfl (fun ls hl => ?_)
  refine lv_goto (tgt := 53) hx hb dL_law_1119 (by decide) ?_
  refine lv_iload hx hb dL_law_53 (lv_at hl 0 rfl) ?_
  refine lv_aload_n hx hb dL_law_55 rfl (lv_at hl 1 rfl) ?_
  refine va_slen hx hb hX hbl hbA hS dL_law_56 ?_
  refine lv_bipush (v := 7) hx hb dL_law_57 (by decide) ?_
  refine lv_isub hx hb dL_law_59 ?_
  refine lv_icmp_gt (tgt := 1122) hx hb dL_law_60 (by decide) (fun c1 => ?_) (fun c1 => absurd c1 (by decide))
  refine lv_iconst (v := 1) hx hb dL_law_1122 (by decide) ?_
  refine va_forget (fun q hq => hS.2.2 q hq) ?_
  refine W.widen (k := 600002) (n := 7302198) hc hs ?_
  exact lw_ret hx hb hr hlocks dL_law_1123
set_option maxHeartbeats 4000000 in
set_option maxRecDepth 100000 in
theorem law_short {p : Program} {l : Launch} {e : Env} {s : State} {m : MethodId} {below : List Frame} {meth : Method} {c : Code} {b L : Nat} {xs : Nat → Int32} {H : Heap} {locs : List Loc} {ls : Array Slot} {cells slots : Nat} (hL : L < 10) (C0 : lw_At p s m meth c b L xs) (hS : va_S (fun q : Nat => s.heap.size ≤ q) s.heap H locs) (hc : cells ≤ 600002) (hs : slots ≤ 7302198) (hl : lv_has ls 7 [(4, .int 3), (0, .ref b)]) : W p l e room_1 s m #[Value.ref b] below meth c H locs cells slots (lw_Z below #[Value.ref b] s) (F0 m 53 ls []) := by
  obtain ⟨hx, hb, hr, hml, hown, hts0, hX, hbl, hlocks, hgv⟩ := id C0
  have hts : ∀ w ∈ TS, w.before #[Value.ref b] s = true := fun w hw => hts0 w (List.mem_filter.mp hw).1
  have hbA : ¬ (fun q : Nat => s.heap.size ≤ q) b := Nat.not_le.mpr hbl
  have hAz : ∀ q, (fun q : Nat => s.heap.size ≤ q) q → s.heap.size ≤ q := fun q h => h
  refine lv_iload hx hb dL_law_53 (lv_at hl 0 rfl) ?_
  refine lv_aload_n hx hb dL_law_55 rfl (lv_at hl 1 rfl) ?_
  refine va_slen hx hb hX hbl hbA hS dL_law_56 ?_
  refine lv_bipush (v := 7) hx hb dL_law_57 (by decide) ?_
  refine lv_isub hx hb dL_law_59 ?_
  have hq : (Int32.ofNat L - 7).toInt = (L : Int) - 7 := by
    have h1 : (Int32.ofNat L).toInt = (L : Int) := nI_toInt (n := L) (by omega)
    rw [s_sub (by rw [h1, i_7]; omega) (by rw [h1, i_7]; omega), h1, i_7]
  refine lv_icmp_gt (tgt := 1122) hx hb dL_law_60 (by decide) (fun c1 => ?_) (fun c1 => absurd (show Int32.ofNat L - 7 < 3 by rw [lt_I, hq, i_3]; omega) c1)
  refine lv_iconst (v := 1) hx hb dL_law_1122 (by decide) ?_
  refine va_forget (fun q hq => hS.2.2 q hq) ?_
  refine W.widen (k := 600002) (n := 7302198) hc hs ?_
  exact lw_ret hx hb hr hlocks dL_law_1123
