set_option maxHeartbeats 8000000 in
set_option maxRecDepth 100000 in
theorem law_loop {p : Program} {l : Launch} {e : Env} {s : State} {m : MethodId} {below : List Frame} {meth : Method} {c : Code} {b L i C S : Nat} {xs : Nat → Int32} {E : EE} {Gc Gm : Nat → Nat} {x0 m0 o0 : Nat} {rf : Nat → Nat} {t0 t1 t2 : Int32} {H : Heap} {locs : List Loc} {ls : Array Slot} (hst : l.stackTraces = false) (C0 : lw_At p s m meth c b L xs) (hLB : L ≤ 3587) (hK : KS E s.heap.size s) (hN : NC s) (F9 : LF s Gc Gm x0 m0 o0 rf t0) (hi3 : i ≤ 3587) (hCb : C ≤ 191 + i) (hSb : S ≤ 2010 + 12 * i) (hI : LI E s Gc x0 m0 o0 rf t0 t1 t2 H locs) (hl : lv_has ls 7 [(4, .int (nI i)), (3, .ref o0), (2, .ref m0), (1, .ref x0), (0, .ref b)]) : W p l e room_1 s m #[Value.ref b] below meth c H locs C S (lw_Z below #[Value.ref b] s) (F0 m 53 ls []) := by
  obtain ⟨hx, hb, hr, hml, hown, hts0, hX, hbl, hlocks, hgv⟩ := id C0
  have hbA : ¬ (fun q : Nat => s.heap.size ≤ q) b := Nat.not_le.mpr hbl
  refine lp_c (fun n H locs ls C S => ∃ i : Nat, i ≤ 3587 ∧ 3600 - i = n ∧ C ≤ 191 + i ∧ S ≤ 2010 + 12 * i ∧ LI E s Gc x0 m0 o0 rf t0 t1 t2 H locs ∧ lv_has ls 7 [(4, .int (nI i)), (3, .ref o0), (2, .ref m0), (1, .ref x0), (0, .ref b)]) (fun n H locs ls C S ih hJ => ?_) ⟨i, hi3, rfl, hCb, hSb, hI, hl⟩
  obtain ⟨i, hi3, hn, hCb, hSb, hI, hl⟩ := hJ
  obtain ⟨_, _, _, _, _, -, -, -, -, -, -, hS⟩ := id hI
  have hiI : (nI i).toInt = (i : Int) := nI_toInt (by omega)
  have h7 : (nI i + Int32.ofInt 7) = nI (i + 7) := by
    rw [eq_I, nI_toInt (by omega)]
    have h9 := s_add (x := nI i) (y := 7) (by rw [hiI, i_7]; omega) (by rw [hiI, i_7]; omega)
    rw [hiI, i_7] at h9
    exact h9
  refine lv_iload hx hb dL_law_53 (lv_at hl 0 rfl) ?_
  refine lv_aload_n hx hb dL_law_55 rfl (lv_at hl 4 rfl) ?_
  refine va_slen hx hb hX hbl hbA hS dL_law_56 ?_
  refine lv_bipush (v := 7) hx hb dL_law_57 (by decide) ?_
  refine lv_isub hx hb dL_law_59 ?_
  have hq : (Int32.ofNat L - 7).toInt = (L : Int) - 7 := by
    have h1 : (Int32.ofNat L).toInt = (L : Int) := nI_toInt (n := L) (by omega)
    rw [s_sub (by rw [h1, i_7]; omega) (by rw [h1, i_7]; omega), h1, i_7]
  refine lv_icmp_gt (tgt := 977) hx hb dL_law_60 (by decide) (fun c1 => ?_) (fun c1 => ?_)
  · refine lv_iconst (v := 1) hx hb dL_law_977 (by decide) ?_
    refine va_forget (fun q hq => hS.2.2 q hq) ?_
    refine W.widen (k := 621377) (n := 7231939) (by omega) (by omega) ?_
    exact lw_ret hx hb hr hlocks dL_law_978
  rw [lt_I, hq, hiI] at c1
  have hi7 : i + 7 ≤ L := by omega
  have key : ∀ (H : Heap) (locs : List Loc) (ls : Array Slot), LI E s Gc x0 m0 o0 rf t0 t1 t2 H locs → lv_has ls 7 [(4, .int (nI i)), (3, .ref o0), (2, .ref m0), (1, .ref x0), (0, .ref b)] → W p l e room_1 s m #[Value.ref b] below meth c H locs (C + 2) (S + 12) (lw_Z below #[Value.ref b] s) (F0 m 971 ls []) := by
    intro H locs ls hI hl
    refine lv_iinc (v := nI (i + 7)) (lv' := [(4, .int (nI (i + 7))), (3, .ref o0), (2, .ref m0), (1, .ref x0), (0, .ref b)]) hx hb dL_law_971 hl (k := 0) rfl h7 (by decide) rfl (fun ls hl => ?_)
    refine lv_goto (tgt := 53) hx hb dL_law_974 (by decide) ?_
    exact ih _ (by omega) _ _ _ _ _ ⟨i + 7, by omega, rfl, by omega, by omega, hI, hl⟩
  refine lv_aload_n hx hb dL_law_63 rfl (lv_at hl 4 rfl) ?_
  refine lv_iload hx hb dL_law_64 (lv_at hl 0 rfl) ?_
  refine va_sld hx hb hX hbl hbA hS (show vp_in (nI i) L from vp_in_nI (by omega) (by omega)) dL_law_66 ?_
  refine lv_bipush (v := 31) hx hb dL_law_67 (by decide) ?_
  refine lv_iand hx hb dL_law_69 ?_
  refine lv_topi (fun w ew => ?_)
  rcases (show w.toInt = 0 ∨ w.toInt = 1 ∨ w.toInt = 2 ∨ w.toInt = 3 ∨ w.toInt = 4 ∨ w.toInt = 5 ∨ w.toInt = 6 ∨ w.toInt = 7 ∨ w.toInt = 8 ∨ w.toInt = 9 ∨ w.toInt = 10 ∨ w.toInt = 11 ∨ w.toInt = 12 ∨ w.toInt = 13 ∨ w.toInt = 14 ∨ w.toInt = 15 ∨ w.toInt = 16 ∨ w.toInt = 17 ∨ (w.toInt < 0 ∨ 17 < w.toInt) by omega) with cw | cw | cw | cw | cw | cw | cw | cw | cw | cw | cw | cw | cw | cw | cw | cw | cw | cw | cw
  · refine lv_tableIn (tgt := 156) (off := 86) hx hb dL_law_70 (by omega) (by omega) (by rw [cw]; rfl) (by decide) ?_
    exact lk_0 hst C0 hLB hK hN F9 hi7 (by omega) (by omega) hI hl key
  · refine lv_tableIn (tgt := 229) (off := 159) hx hb dL_law_70 (by omega) (by omega) (by rw [cw]; rfl) (by decide) ?_
    exact lk_1 hst C0 hLB hK hN F9 hi7 (by omega) (by omega) hI hl key
  · refine lv_tableIn (tgt := 278) (off := 208) hx hb dL_law_70 (by omega) (by omega) (by rw [cw]; rfl) (by decide) ?_
    exact lk_2 hst C0 hLB hK hN F9 hi7 (by omega) (by omega) hI hl key
  · refine lv_tableIn (tgt := 315) (off := 245) hx hb dL_law_70 (by omega) (by omega) (by rw [cw]; rfl) (by decide) ?_
    exact lk_3 hst C0 hLB hK hN F9 hi7 (by omega) (by omega) hI hl key
  · refine lv_tableIn (tgt := 364) (off := 294) hx hb dL_law_70 (by omega) (by omega) (by rw [cw]; rfl) (by decide) ?_
    exact lk_4 hst C0 hLB hK hN F9 hi7 (by omega) (by omega) hI hl key
  · refine lv_tableIn (tgt := 389) (off := 319) hx hb dL_law_70 (by omega) (by omega) (by rw [cw]; rfl) (by decide) ?_
    exact lk_5 hst C0 hLB hK hN F9 hi7 (by omega) (by omega) hI hl key
  · refine lv_tableIn (tgt := 469) (off := 399) hx hb dL_law_70 (by omega) (by omega) (by rw [cw]; rfl) (by decide) ?_
    exact lk_6 hst C0 hLB hK hN F9 hi7 (by omega) (by omega) hI hl key
  · refine lv_tableIn (tgt := 575) (off := 505) hx hb dL_law_70 (by omega) (by omega) (by rw [cw]; rfl) (by decide) ?_
    exact lk_7 hst C0 hLB hK hN F9 hi7 (by omega) (by omega) hI hl key
  · refine lv_tableIn (tgt := 651) (off := 581) hx hb dL_law_70 (by omega) (by omega) (by rw [cw]; rfl) (by decide) ?_
    exact lk_8 hst C0 hLB hK hN F9 hi7 (by omega) (by omega) hI hl key
  · refine lv_tableIn (tgt := 703) (off := 633) hx hb dL_law_70 (by omega) (by omega) (by rw [cw]; rfl) (by decide) ?_
    exact lk_9 hst C0 hLB hK hN F9 hi7 (by omega) (by omega) hI hl key
  · refine lv_tableIn (tgt := 728) (off := 658) hx hb dL_law_70 (by omega) (by omega) (by rw [cw]; rfl) (by decide) ?_
    exact lk_10 hst C0 hLB hK hN F9 hi7 (by omega) (by omega) hI hl key
  · refine lv_tableIn (tgt := 753) (off := 683) hx hb dL_law_70 (by omega) (by omega) (by rw [cw]; rfl) (by decide) ?_
    exact lk_11 hst C0 hLB hK hN F9 hi7 (by omega) (by omega) hI hl key
  · refine lv_tableIn (tgt := 806) (off := 736) hx hb dL_law_70 (by omega) (by omega) (by rw [cw]; rfl) (by decide) ?_
    exact lk_12 hst C0 hLB hK hN F9 hi7 (by omega) (by omega) hI hl key
  · refine lv_tableIn (tgt := 819) (off := 749) hx hb dL_law_70 (by omega) (by omega) (by rw [cw]; rfl) (by decide) ?_
    exact lk_13 hst C0 hLB hK hN F9 hi7 (by omega) (by omega) hI hl key
  · refine lv_tableIn (tgt := 832) (off := 762) hx hb dL_law_70 (by omega) (by omega) (by rw [cw]; rfl) (by decide) ?_
    exact lk_14 hst C0 hLB hK hN F9 hi7 (by omega) (by omega) hI hl key
  · refine lv_tableIn (tgt := 869) (off := 799) hx hb dL_law_70 (by omega) (by omega) (by rw [cw]; rfl) (by decide) ?_
    exact lk_15 hst C0 hLB hK hN F9 hi7 (by omega) (by omega) hI hl key
  · refine lv_tableIn (tgt := 906) (off := 836) hx hb dL_law_70 (by omega) (by omega) (by rw [cw]; rfl) (by decide) ?_
    exact lk_16 hst C0 hLB hK hN F9 hi7 (by omega) (by omega) hI hl key
  · refine lv_tableIn (tgt := 931) (off := 861) hx hb dL_law_70 (by omega) (by omega) (by rw [cw]; rfl) (by decide) ?_
    exact lk_17 hst C0 hLB hK hN F9 hi7 (by omega) (by omega) hI hl key
  · refine lv_tableOut (tgt := 971) hx hb dL_law_70 cw (by decide) ?_
    refine W.widen (k := C + 2) (n := S + 12) (by omega) (by omega) ?_
    exact key _ _ _ hI hl
