set_option maxHeartbeats 8000000 in
set_option maxRecDepth 100000 in
theorem lk_0 {p : Program} {l : Launch} {e : Env} {s : State} {m : MethodId} {below : List Frame} {meth : Method} {c : Code} {b : Nat} {xs : Nat → Int32} {E : EE} {Gc Gm : Nat → Nat} {x0 m0 o0 : Nat} {H : Heap} {locs : List Loc} {ls : Array Slot} (hst : l.stackTraces = false) (C0 : lw_At p s m meth c b 10 xs) (hK : KS E s.heap.size s) (hN : NC s) (hTc : TH E (T0 E) Gc [] H) (hTm : TH E (T0 E) Gm [] H) (hxc : Gc x0 = 1) (hmm : Gm m0 = 20) (hGzc : ∀ q, Gc q ≠ 0 → s.heap.size ≤ q) (hGzm : ∀ q, Gm q ≠ 0 → s.heap.size ≤ q) (hd : ∀ a, Gm a ≠ 0 → Gc a = 0) (hro : va_at (DG E) vwCl (o0, .inl (E.2.2 2, 1, .inr (.inl (fun _ => 0)))) H) (hGco : Gc o0 = 0) (hGmo : Gm o0 = 0) (hoz : s.heap.size ≤ o0) (hS : va_S (fun q : Nat => s.heap.size ≤ q) s.heap H locs) (hl : lv_has ls 7 [(4, .int 3), (3, .ref o0), (2, .ref m0), (1, .ref x0), (0, .ref b)]) : W p l e room_1 s m #[Value.ref b] below meth c H locs 191 2010 (lw_Z below #[Value.ref b] s) (F0 m 156 ls []) := by
  obtain ⟨hx, hb, hr, hml, hown, hts0, hX, hbl, hlocks, hgv⟩ := id C0
  have hts : ∀ w ∈ TS, w.before #[Value.ref b] s = true := fun w hw => hts0 w (List.mem_filter.mp hw).1
  have hbA : ¬ (fun q : Nat => s.heap.size ≤ q) b := Nat.not_le.mpr hbl
  have hAz : ∀ q, (fun q : Nat => s.heap.size ≤ q) q → s.heap.size ≤ q := fun q h => h
  refine lv_aload_n hx hb dL_law_156 rfl (lv_at hl 3 rfl) ?_
  refine lv_aload_n hx hb dL_law_157 rfl (lv_at hl 4 rfl) ?_
  refine lv_iload hx hb dL_law_158 (lv_at hl 0 rfl) ?_
  refine lv_iconst (v := 1) hx hb dL_law_160 (by decide) ?_
  refine lv_iadd hx hb dL_law_161 ?_
  refine W.eq (g2 := F0 m 162 ls [.int 4, .ref b, .ref x0]) (by rfl) ?_
  refine va_sld hx hb hX hbl hbA hS (show vp_in (4) 10 from vp_in_iff.mpr ⟨by decide, by decide⟩) dL_law_162 ?_
  refine W.eq (g2 := F0 m 163 ls [.int (xs 4), .ref x0]) (by rfl) ?_
  refine lv_aload_n hx hb dL_law_163 rfl (lv_at hl 4 rfl) ?_
  refine lv_iload hx hb dL_law_164 (lv_at hl 0 rfl) ?_
  refine lv_iconst (v := 2) hx hb dL_law_166 (by decide) ?_
  refine lv_iadd hx hb dL_law_167 ?_
  refine W.eq (g2 := F0 m 168 ls [.int 5, .ref b, .int (xs 4), .ref x0]) (by rfl) ?_
  refine va_sld hx hb hX hbl hbA hS (show vp_in (5) 10 from vp_in_iff.mpr ⟨by decide, by decide⟩) dL_law_168 ?_
  refine W.eq (g2 := F0 m 169 ls [.int (xs 5), .int (xs 4), .ref x0]) (by rfl) ?_
  refine lv_aload_n hx hb dL_law_169 rfl (lv_at hl 4 rfl) ?_
  refine lv_iload hx hb dL_law_170 (lv_at hl 0 rfl) ?_
  refine lv_iconst (v := 3) hx hb dL_law_172 (by decide) ?_
  refine lv_iadd hx hb dL_law_173 ?_
  refine W.eq (g2 := F0 m 174 ls [.int 6, .ref b, .int (xs 5), .int (xs 4), .ref x0]) (by rfl) ?_
  refine va_sld hx hb hX hbl hbA hS (show vp_in (6) 10 from vp_in_iff.mpr ⟨by decide, by decide⟩) dL_law_174 ?_
  refine W.eq (g2 := F0 m 175 ls [.int (xs 6), .int (xs 5), .int (xs 4), .ref x0]) (by rfl) ?_
  refine lv_aload_n hx hb dL_law_175 rfl (lv_at hl 4 rfl) ?_
  refine lv_iload hx hb dL_law_176 (lv_at hl 0 rfl) ?_
  refine lv_iconst (v := 4) hx hb dL_law_178 (by decide) ?_
  refine lv_iadd hx hb dL_law_179 ?_
  refine W.eq (g2 := F0 m 180 ls [.int 7, .ref b, .int (xs 6), .int (xs 5), .int (xs 4), .ref x0]) (by rfl) ?_
  refine va_sld hx hb hX hbl hbA hS (show vp_in (7) 10 from vp_in_iff.mpr ⟨by decide, by decide⟩) dL_law_180 ?_
  refine W.eq (g2 := F0 m 181 ls [.int (xs 7), .int (xs 6), .int (xs 5), .int (xs 4), .ref x0]) (by rfl) ?_
  refine lv_aload_n hx hb dL_law_181 rfl (lv_at hl 4 rfl) ?_
  refine lv_iload hx hb dL_law_182 (lv_at hl 0 rfl) ?_
  refine lv_iconst (v := 5) hx hb dL_law_184 (by decide) ?_
  refine lv_iadd hx hb dL_law_185 ?_
  refine W.eq (g2 := F0 m 186 ls [.int 8, .ref b, .int (xs 7), .int (xs 6), .int (xs 5), .int (xs 4), .ref x0]) (by rfl) ?_
  refine va_sld hx hb hX hbl hbA hS (show vp_in (8) 10 from vp_in_iff.mpr ⟨by decide, by decide⟩) dL_law_186 ?_
  refine W.eq (g2 := F0 m 187 ls [.int (xs 8), .int (xs 7), .int (xs 6), .int (xs 5), .int (xs 4), .ref x0]) (by rfl) ?_
  refine va_calli (vx_runSW (hh := [(0, 11, 14, 13)]) (As := [.ref x0, .int (xs 4), .int (xs 5), .int (xs 6), .int (xs 7), .int (xs 8)]) (rest := []) ⟨hx, hb, hml, hown, hts⟩ (c_L_region l hst E s.heap.size Gc hGzc x0 (xs 4) (xs 5) (xs 6) (xs 7) (xs 8) hxc) (vx_cwSW 6 hts (gdW ml_L_56 st_L_region in_L co_L_region rfl) rfl rfl rfl (by decide +kernel) ⟨Nat.le_of_ble_eq_true rfl, Nat.le_of_ble_eq_true rfl⟩) ⟨fun a U g mk q => ⟨q.1, q.2.1, KS.calling q.2.2.1, NC.vm q.2.2.2 rfl⟩, fun U hU hW => ⟨rfl, by rw [hU]; exact hTc, hK.go hW hS hAz hU, hN.go hW⟩⟩ rfl rfl hl.1 rfl (lv_room (Nat.le_of_ble_eq_true rfl)) dL_law_187 ⟨Nat.le_of_ble_eq_true rfl, Nat.le_of_ble_eq_true rfl⟩) hS (fun q _ h => hGzc q h) (fun q h => hGzc q h) (fun r_1 _ t H locs ht hvm hw hB hz hk hS => ?_)
  have hTm := hTm.other hd hk
  have hro := hro.kept (hk _ hro.lt (fun h => h hGco))
  rcases hw with ⟨rfl, hV⟩ | ⟨rfl, hV⟩
  · refine lv_istore (lv' := [(5, .int 0), (4, .int 3), (3, .ref o0), (2, .ref m0), (1, .ref x0), (0, .ref b)]) hx hb dL_law_190 hl (by decide) rfl (fun ls hl => ?_)
    refine lv_aload_n hx hb dL_law_192 rfl (lv_at hl 3 rfl) ?_
    refine lv_aload_n hx hb dL_law_193 rfl (lv_at hl 5 rfl) ?_
    refine lv_iload hx hb dL_law_194 (lv_at hl 1 rfl) ?_
    refine lv_iconst (v := 1) hx hb dL_law_196 (by decide) ?_
    refine lv_iadd hx hb dL_law_197 ?_
    refine W.eq (g2 := F0 m 198 ls [.int 4, .ref b, .ref m0]) (by rfl) ?_
    refine va_sld hx hb hX hbl hbA hS (show vp_in (4) 10 from vp_in_iff.mpr ⟨by decide, by decide⟩) dL_law_198 ?_
    refine W.eq (g2 := F0 m 199 ls [.int (xs 4), .ref m0]) (by rfl) ?_
    refine lv_aload_n hx hb dL_law_199 rfl (lv_at hl 5 rfl) ?_
    refine lv_iload hx hb dL_law_200 (lv_at hl 1 rfl) ?_
    refine lv_iconst (v := 2) hx hb dL_law_202 (by decide) ?_
    refine lv_iadd hx hb dL_law_203 ?_
    refine W.eq (g2 := F0 m 204 ls [.int 5, .ref b, .int (xs 4), .ref m0]) (by rfl) ?_
    refine va_sld hx hb hX hbl hbA hS (show vp_in (5) 10 from vp_in_iff.mpr ⟨by decide, by decide⟩) dL_law_204 ?_
    refine W.eq (g2 := F0 m 205 ls [.int (xs 5), .int (xs 4), .ref m0]) (by rfl) ?_
    refine lv_aload_n hx hb dL_law_205 rfl (lv_at hl 5 rfl) ?_
    refine lv_iload hx hb dL_law_206 (lv_at hl 1 rfl) ?_
    refine lv_iconst (v := 3) hx hb dL_law_208 (by decide) ?_
    refine lv_iadd hx hb dL_law_209 ?_
    refine W.eq (g2 := F0 m 210 ls [.int 6, .ref b, .int (xs 5), .int (xs 4), .ref m0]) (by rfl) ?_
    refine va_sld hx hb hX hbl hbA hS (show vp_in (6) 10 from vp_in_iff.mpr ⟨by decide, by decide⟩) dL_law_210 ?_
    refine W.eq (g2 := F0 m 211 ls [.int (xs 6), .int (xs 5), .int (xs 4), .ref m0]) (by rfl) ?_
    refine lv_aload_n hx hb dL_law_211 rfl (lv_at hl 5 rfl) ?_
    refine lv_iload hx hb dL_law_212 (lv_at hl 1 rfl) ?_
    refine lv_iconst (v := 4) hx hb dL_law_214 (by decide) ?_
    refine lv_iadd hx hb dL_law_215 ?_
    refine W.eq (g2 := F0 m 216 ls [.int 7, .ref b, .int (xs 6), .int (xs 5), .int (xs 4), .ref m0]) (by rfl) ?_
    refine va_sld hx hb hX hbl hbA hS (show vp_in (7) 10 from vp_in_iff.mpr ⟨by decide, by decide⟩) dL_law_216 ?_
    refine W.eq (g2 := F0 m 217 ls [.int (xs 7), .int (xs 6), .int (xs 5), .int (xs 4), .ref m0]) (by rfl) ?_
    refine lv_aload_n hx hb dL_law_217 rfl (lv_at hl 5 rfl) ?_
    refine lv_iload hx hb dL_law_218 (lv_at hl 1 rfl) ?_
    refine lv_iconst (v := 5) hx hb dL_law_220 (by decide) ?_
    refine lv_iadd hx hb dL_law_221 ?_
    refine W.eq (g2 := F0 m 222 ls [.int 8, .ref b, .int (xs 7), .int (xs 6), .int (xs 5), .int (xs 4), .ref m0]) (by rfl) ?_
    refine va_sld hx hb hX hbl hbA hS (show vp_in (8) 10 from vp_in_iff.mpr ⟨by decide, by decide⟩) dL_law_222 ?_
    refine W.eq (g2 := F0 m 223 ls [.int (xs 8), .int (xs 7), .int (xs 6), .int (xs 5), .int (xs 4), .ref m0]) (by rfl) ?_
    obtain ⟨_, _, _, _, ha_2, _⟩ := tg_20 hTm hmm nx_0
    refine va_callv (rnV (fun H => TH E (T0 E) Gm [] H) (As := [.int (xs 4), .int (xs 5), .int (xs 6), .int (xs 7), .int (xs 8)]) (rest := []) ⟨hx, hb, hml, hown, hts⟩ (c_X10_region l E s.heap.size Gm hGzm m0 (xs 4) (xs 5) (xs 6) (xs 7) (xs 8) hmm) (cwV 5 hts (gdV ml_L_59 im_X10_region se_X10_X10_region in_X10 co_X10_region rfl) rfl rfl rfl (by decide +kernel) ⟨Nat.le_of_ble_eq_true rfl, Nat.le_of_ble_eq_true rfl⟩) hTm (fun U hU hW => hK.go hW hS hAz hU) (va_recv hK.1 (va_one ha_2) (ci := 10) (q0 := 0) rfl rfl) rfl rfl hl.1 rfl (lv_room (Nat.le_of_ble_eq_true rfl)) dL_law_223 ⟨Nat.le_of_ble_eq_true rfl, Nat.le_of_ble_eq_true rfl⟩) hS (fun q _ h => hGzm q h) (fun q h => hGzm q h) (fun _ t H locs ht hvm hw hB hz hk hS => ?_)
    have hro := hro.kept (hk _ hro.lt (fun h => h hGmo))
    obtain ⟨fsx, hatx, hfx⟩ := hB
    rw [ht] at hatx
    rw [if_pos hV] at hfx
    refine lv_aload_n hx hb dL_law_226 rfl (lv_at hl 3 rfl) ?_
    refine va_calli (rnV (fun H => va_at (DG E) vwCl (m0, .inr (10, fsx)) H) (As := []) (rest := []) ⟨hx, hb, hml, hown, hts⟩ (c_X10_thrown l E s.heap.size m0 fsx 0 hfx) (cwV 0 hts (gdV ml_L_60 im_X10_thrown se_X10_X10_thrown in_X10 co_X10_thrown rfl) rfl rfl rfl (by decide +kernel) ⟨Nat.le_of_ble_eq_true rfl, Nat.le_of_ble_eq_true rfl⟩) hatx (fun U hU hW => hK.go hW hS hAz hU) (va_recv hK.1 (va_one hatx) (ci := 10) (q0 := 0) rfl rfl) rfl rfl hl.1 rfl (lv_room (Nat.le_of_ble_eq_true rfl)) dL_law_227 ⟨Nat.le_of_ble_eq_true rfl, Nat.le_of_ble_eq_true rfl⟩) hS (fun q _ h => h.elim) (fun q h => h.elim) (fun r_3 _ t H locs ht hvm hw hB hz hk hS => ?_)
    have hro := hro.kept (hk _ hro.lt (fun h => h))
    subst hw
    refine lv_iload hx hb dL_law_230 (lv_at hl 0 rfl) ?_
    refine lv_icmp_eq (tgt := 237) hx hb dL_law_232 (by decide) (fun c_4 => ?_) (fun c_4 => absurd c_4 (by decide))
    refine lv_goto (tgt := 1116) hx hb dL_law_237 (by decide) ?_
    exact law_tail C0 hS (Nat.le_of_ble_eq_true rfl) (Nat.le_of_ble_eq_true rfl) (lv_sub hl [1, 5] rfl)
  · refine lv_istore (lv' := [(5, .int 1), (4, .int 3), (3, .ref o0), (2, .ref m0), (1, .ref x0), (0, .ref b)]) hx hb dL_law_190 hl (by decide) rfl (fun ls hl => ?_)
    refine lv_aload_n hx hb dL_law_192 rfl (lv_at hl 3 rfl) ?_
    refine lv_aload_n hx hb dL_law_193 rfl (lv_at hl 5 rfl) ?_
    refine lv_iload hx hb dL_law_194 (lv_at hl 1 rfl) ?_
    refine lv_iconst (v := 1) hx hb dL_law_196 (by decide) ?_
    refine lv_iadd hx hb dL_law_197 ?_
    refine W.eq (g2 := F0 m 198 ls [.int 4, .ref b, .ref m0]) (by rfl) ?_
    refine va_sld hx hb hX hbl hbA hS (show vp_in (4) 10 from vp_in_iff.mpr ⟨by decide, by decide⟩) dL_law_198 ?_
    refine W.eq (g2 := F0 m 199 ls [.int (xs 4), .ref m0]) (by rfl) ?_
    refine lv_aload_n hx hb dL_law_199 rfl (lv_at hl 5 rfl) ?_
    refine lv_iload hx hb dL_law_200 (lv_at hl 1 rfl) ?_
    refine lv_iconst (v := 2) hx hb dL_law_202 (by decide) ?_
    refine lv_iadd hx hb dL_law_203 ?_
    refine W.eq (g2 := F0 m 204 ls [.int 5, .ref b, .int (xs 4), .ref m0]) (by rfl) ?_
    refine va_sld hx hb hX hbl hbA hS (show vp_in (5) 10 from vp_in_iff.mpr ⟨by decide, by decide⟩) dL_law_204 ?_
    refine W.eq (g2 := F0 m 205 ls [.int (xs 5), .int (xs 4), .ref m0]) (by rfl) ?_
    refine lv_aload_n hx hb dL_law_205 rfl (lv_at hl 5 rfl) ?_
    refine lv_iload hx hb dL_law_206 (lv_at hl 1 rfl) ?_
    refine lv_iconst (v := 3) hx hb dL_law_208 (by decide) ?_
    refine lv_iadd hx hb dL_law_209 ?_
    refine W.eq (g2 := F0 m 210 ls [.int 6, .ref b, .int (xs 5), .int (xs 4), .ref m0]) (by rfl) ?_
    refine va_sld hx hb hX hbl hbA hS (show vp_in (6) 10 from vp_in_iff.mpr ⟨by decide, by decide⟩) dL_law_210 ?_
    refine W.eq (g2 := F0 m 211 ls [.int (xs 6), .int (xs 5), .int (xs 4), .ref m0]) (by rfl) ?_
    refine lv_aload_n hx hb dL_law_211 rfl (lv_at hl 5 rfl) ?_
    refine lv_iload hx hb dL_law_212 (lv_at hl 1 rfl) ?_
    refine lv_iconst (v := 4) hx hb dL_law_214 (by decide) ?_
    refine lv_iadd hx hb dL_law_215 ?_
    refine W.eq (g2 := F0 m 216 ls [.int 7, .ref b, .int (xs 6), .int (xs 5), .int (xs 4), .ref m0]) (by rfl) ?_
    refine va_sld hx hb hX hbl hbA hS (show vp_in (7) 10 from vp_in_iff.mpr ⟨by decide, by decide⟩) dL_law_216 ?_
    refine W.eq (g2 := F0 m 217 ls [.int (xs 7), .int (xs 6), .int (xs 5), .int (xs 4), .ref m0]) (by rfl) ?_
    refine lv_aload_n hx hb dL_law_217 rfl (lv_at hl 5 rfl) ?_
    refine lv_iload hx hb dL_law_218 (lv_at hl 1 rfl) ?_
    refine lv_iconst (v := 5) hx hb dL_law_220 (by decide) ?_
    refine lv_iadd hx hb dL_law_221 ?_
    refine W.eq (g2 := F0 m 222 ls [.int 8, .ref b, .int (xs 7), .int (xs 6), .int (xs 5), .int (xs 4), .ref m0]) (by rfl) ?_
    refine va_sld hx hb hX hbl hbA hS (show vp_in (8) 10 from vp_in_iff.mpr ⟨by decide, by decide⟩) dL_law_222 ?_
    refine W.eq (g2 := F0 m 223 ls [.int (xs 8), .int (xs 7), .int (xs 6), .int (xs 5), .int (xs 4), .ref m0]) (by rfl) ?_
    obtain ⟨_, _, _, _, ha_5, _⟩ := tg_20 hTm hmm nx_0
    refine va_callv (rnV (fun H => TH E (T0 E) Gm [] H) (As := [.int (xs 4), .int (xs 5), .int (xs 6), .int (xs 7), .int (xs 8)]) (rest := []) ⟨hx, hb, hml, hown, hts⟩ (c_X10_region l E s.heap.size Gm hGzm m0 (xs 4) (xs 5) (xs 6) (xs 7) (xs 8) hmm) (cwV 5 hts (gdV ml_L_59 im_X10_region se_X10_X10_region in_X10 co_X10_region rfl) rfl rfl rfl (by decide +kernel) ⟨Nat.le_of_ble_eq_true rfl, Nat.le_of_ble_eq_true rfl⟩) hTm (fun U hU hW => hK.go hW hS hAz hU) (va_recv hK.1 (va_one ha_5) (ci := 10) (q0 := 0) rfl rfl) rfl rfl hl.1 rfl (lv_room (Nat.le_of_ble_eq_true rfl)) dL_law_223 ⟨Nat.le_of_ble_eq_true rfl, Nat.le_of_ble_eq_true rfl⟩) hS (fun q _ h => hGzm q h) (fun q h => hGzm q h) (fun _ t H locs ht hvm hw hB hz hk hS => ?_)
    have hro := hro.kept (hk _ hro.lt (fun h => h hGmo))
    obtain ⟨fsx, hatx, hfx⟩ := hB
    rw [ht] at hatx
    rw [if_neg hV] at hfx
    refine lv_aload_n hx hb dL_law_226 rfl (lv_at hl 3 rfl) ?_
    refine va_calli (rnV (fun H => va_at (DG E) vwCl (m0, .inr (10, fsx)) H) (As := []) (rest := []) ⟨hx, hb, hml, hown, hts⟩ (c_X10_thrown l E s.heap.size m0 fsx 1 hfx) (cwV 0 hts (gdV ml_L_60 im_X10_thrown se_X10_X10_thrown in_X10 co_X10_thrown rfl) rfl rfl rfl (by decide +kernel) ⟨Nat.le_of_ble_eq_true rfl, Nat.le_of_ble_eq_true rfl⟩) hatx (fun U hU hW => hK.go hW hS hAz hU) (va_recv hK.1 (va_one hatx) (ci := 10) (q0 := 0) rfl rfl) rfl rfl hl.1 rfl (lv_room (Nat.le_of_ble_eq_true rfl)) dL_law_227 ⟨Nat.le_of_ble_eq_true rfl, Nat.le_of_ble_eq_true rfl⟩) hS (fun q _ h => h.elim) (fun q h => h.elim) (fun r_6 _ t H locs ht hvm hw hB hz hk hS => ?_)
    have hro := hro.kept (hk _ hro.lt (fun h => h))
    subst hw
    refine lv_iload hx hb dL_law_230 (lv_at hl 0 rfl) ?_
    refine lv_icmp_eq (tgt := 237) hx hb dL_law_232 (by decide) (fun c_7 => ?_) (fun c_7 => absurd c_7 (by decide))
    refine lv_goto (tgt := 1116) hx hb dL_law_237 (by decide) ?_
    exact law_tail C0 hS (Nat.le_of_ble_eq_true rfl) (Nat.le_of_ble_eq_true rfl) (lv_sub hl [1, 5] rfl)
set_option maxHeartbeats 8000000 in
set_option maxRecDepth 100000 in
theorem lk_1 {p : Program} {l : Launch} {e : Env} {s : State} {m : MethodId} {below : List Frame} {meth : Method} {c : Code} {b : Nat} {xs : Nat → Int32} {E : EE} {Gc Gm : Nat → Nat} {x0 m0 o0 : Nat} {H : Heap} {locs : List Loc} {ls : Array Slot} (hst : l.stackTraces = false) (C0 : lw_At p s m meth c b 10 xs) (hK : KS E s.heap.size s) (hN : NC s) (hTc : TH E (T0 E) Gc [] H) (hTm : TH E (T0 E) Gm [] H) (hxc : Gc x0 = 1) (hmm : Gm m0 = 20) (hGzc : ∀ q, Gc q ≠ 0 → s.heap.size ≤ q) (hGzm : ∀ q, Gm q ≠ 0 → s.heap.size ≤ q) (hd : ∀ a, Gm a ≠ 0 → Gc a = 0) (hro : va_at (DG E) vwCl (o0, .inl (E.2.2 2, 1, .inr (.inl (fun _ => 0)))) H) (hGco : Gc o0 = 0) (hGmo : Gm o0 = 0) (hoz : s.heap.size ≤ o0) (hS : va_S (fun q : Nat => s.heap.size ≤ q) s.heap H locs) (hl : lv_has ls 7 [(4, .int 3), (3, .ref o0), (2, .ref m0), (1, .ref x0), (0, .ref b)]) : W p l e room_1 s m #[Value.ref b] below meth c H locs 191 2010 (lw_Z below #[Value.ref b] s) (F0 m 240 ls []) := by
  obtain ⟨hx, hb, hr, hml, hown, hts0, hX, hbl, hlocks, hgv⟩ := id C0
  have hts : ∀ w ∈ TS, w.before #[Value.ref b] s = true := fun w hw => hts0 w (List.mem_filter.mp hw).1
  have hbA : ¬ (fun q : Nat => s.heap.size ≤ q) b := Nat.not_le.mpr hbl
  have hAz : ∀ q, (fun q : Nat => s.heap.size ≤ q) q → s.heap.size ≤ q := fun q h => h
  refine lv_aload_n hx hb dL_law_240 rfl (lv_at hl 3 rfl) ?_
  refine lv_aload_n hx hb dL_law_241 rfl (lv_at hl 4 rfl) ?_
  refine lv_iload hx hb dL_law_242 (lv_at hl 0 rfl) ?_
  refine lv_iconst (v := 1) hx hb dL_law_244 (by decide) ?_
  refine lv_iadd hx hb dL_law_245 ?_
  refine W.eq (g2 := F0 m 246 ls [.int 4, .ref b, .ref x0]) (by rfl) ?_
  refine va_sld hx hb hX hbl hbA hS (show vp_in (4) 10 from vp_in_iff.mpr ⟨by decide, by decide⟩) dL_law_246 ?_
  refine W.eq (g2 := F0 m 247 ls [.int (xs 4), .ref x0]) (by rfl) ?_
  refine lv_aload_n hx hb dL_law_247 rfl (lv_at hl 4 rfl) ?_
  refine lv_iload hx hb dL_law_248 (lv_at hl 0 rfl) ?_
  refine lv_iconst (v := 2) hx hb dL_law_250 (by decide) ?_
  refine lv_iadd hx hb dL_law_251 ?_
  refine W.eq (g2 := F0 m 252 ls [.int 5, .ref b, .int (xs 4), .ref x0]) (by rfl) ?_
  refine va_sld hx hb hX hbl hbA hS (show vp_in (5) 10 from vp_in_iff.mpr ⟨by decide, by decide⟩) dL_law_252 ?_
  refine W.eq (g2 := F0 m 253 ls [.int (xs 5), .int (xs 4), .ref x0]) (by rfl) ?_
  refine lv_aload_n hx hb dL_law_253 rfl (lv_at hl 4 rfl) ?_
  refine lv_iload hx hb dL_law_254 (lv_at hl 0 rfl) ?_
  refine lv_iconst (v := 3) hx hb dL_law_256 (by decide) ?_
  refine lv_iadd hx hb dL_law_257 ?_
  refine W.eq (g2 := F0 m 258 ls [.int 6, .ref b, .int (xs 5), .int (xs 4), .ref x0]) (by rfl) ?_
  refine va_sld hx hb hX hbl hbA hS (show vp_in (6) 10 from vp_in_iff.mpr ⟨by decide, by decide⟩) dL_law_258 ?_
  refine W.eq (g2 := F0 m 259 ls [.int (xs 6), .int (xs 5), .int (xs 4), .ref x0]) (by rfl) ?_
  refine va_calli (vx_runSW (hh := [(0, 7, 10, 13)]) (As := [.ref x0, .int (xs 4), .int (xs 5), .int (xs 6)]) (rest := []) ⟨hx, hb, hml, hown, hts⟩ (c_L_store l hst E s.heap.size Gc hGzc x0 (xs 4) (xs 5) (xs 6) hxc) (vx_cwSW 4 hts (gdW ml_L_64 st_L_store in_L co_L_store rfl) rfl rfl rfl (by decide +kernel) ⟨Nat.le_of_ble_eq_true rfl, Nat.le_of_ble_eq_true rfl⟩) ⟨fun a U g mk q => ⟨q.1, q.2.1, KS.calling q.2.2.1, NC.vm q.2.2.2 rfl⟩, fun U hU hW => ⟨rfl, by rw [hU]; exact hTc, hK.go hW hS hAz hU, hN.go hW⟩⟩ rfl rfl hl.1 rfl (lv_room (Nat.le_of_ble_eq_true rfl)) dL_law_259 ⟨Nat.le_of_ble_eq_true rfl, Nat.le_of_ble_eq_true rfl⟩) hS (fun q _ h => hGzc q h) (fun q h => hGzc q h) (fun r_1 _ t H locs ht hvm hw hB hz hk hS => ?_)
  have hTm := hTm.other hd hk
  have hro := hro.kept (hk _ hro.lt (fun h => h hGco))
  rcases hw with ⟨rfl, hV⟩ | ⟨rfl, hV⟩
  · refine lv_istore (lv' := [(5, .int 0), (4, .int 3), (3, .ref o0), (2, .ref m0), (1, .ref x0), (0, .ref b)]) hx hb dL_law_262 hl (by decide) rfl (fun ls hl => ?_)
    refine lv_aload_n hx hb dL_law_264 rfl (lv_at hl 3 rfl) ?_
    refine lv_aload_n hx hb dL_law_265 rfl (lv_at hl 5 rfl) ?_
    refine lv_iload hx hb dL_law_266 (lv_at hl 1 rfl) ?_
    refine lv_iconst (v := 1) hx hb dL_law_268 (by decide) ?_
    refine lv_iadd hx hb dL_law_269 ?_
    refine W.eq (g2 := F0 m 270 ls [.int 4, .ref b, .ref m0]) (by rfl) ?_
    refine va_sld hx hb hX hbl hbA hS (show vp_in (4) 10 from vp_in_iff.mpr ⟨by decide, by decide⟩) dL_law_270 ?_
    refine W.eq (g2 := F0 m 271 ls [.int (xs 4), .ref m0]) (by rfl) ?_
    refine lv_aload_n hx hb dL_law_271 rfl (lv_at hl 5 rfl) ?_
    refine lv_iload hx hb dL_law_272 (lv_at hl 1 rfl) ?_
    refine lv_iconst (v := 2) hx hb dL_law_274 (by decide) ?_
    refine lv_iadd hx hb dL_law_275 ?_
    refine W.eq (g2 := F0 m 276 ls [.int 5, .ref b, .int (xs 4), .ref m0]) (by rfl) ?_
    refine va_sld hx hb hX hbl hbA hS (show vp_in (5) 10 from vp_in_iff.mpr ⟨by decide, by decide⟩) dL_law_276 ?_
    refine W.eq (g2 := F0 m 277 ls [.int (xs 5), .int (xs 4), .ref m0]) (by rfl) ?_
    refine lv_aload_n hx hb dL_law_277 rfl (lv_at hl 5 rfl) ?_
    refine lv_iload hx hb dL_law_278 (lv_at hl 1 rfl) ?_
    refine lv_iconst (v := 3) hx hb dL_law_280 (by decide) ?_
    refine lv_iadd hx hb dL_law_281 ?_
    refine W.eq (g2 := F0 m 282 ls [.int 6, .ref b, .int (xs 5), .int (xs 4), .ref m0]) (by rfl) ?_
    refine va_sld hx hb hX hbl hbA hS (show vp_in (6) 10 from vp_in_iff.mpr ⟨by decide, by decide⟩) dL_law_282 ?_
    refine W.eq (g2 := F0 m 283 ls [.int (xs 6), .int (xs 5), .int (xs 4), .ref m0]) (by rfl) ?_
    obtain ⟨_, _, _, _, ha_2, _⟩ := tg_20 hTm hmm nx_0
    refine va_callv (rnV (fun H => TH E (T0 E) Gm [] H) (As := [.int (xs 4), .int (xs 5), .int (xs 6)]) (rest := []) ⟨hx, hb, hml, hown, hts⟩ (c_X10_store l E s.heap.size Gm hGzm m0 (xs 4) (xs 5) (xs 6) hmm) (cwV 3 hts (gdV ml_L_67 im_X10_store se_X10_X10_store in_X10 co_X10_store rfl) rfl rfl rfl (by decide +kernel) ⟨Nat.le_of_ble_eq_true rfl, Nat.le_of_ble_eq_true rfl⟩) hTm (fun U hU hW => hK.go hW hS hAz hU) (va_recv hK.1 (va_one ha_2) (ci := 10) (q0 := 0) rfl rfl) rfl rfl hl.1 rfl (lv_room (Nat.le_of_ble_eq_true rfl)) dL_law_283 ⟨Nat.le_of_ble_eq_true rfl, Nat.le_of_ble_eq_true rfl⟩) hS (fun q _ h => hGzm q h) (fun q h => hGzm q h) (fun _ t H locs ht hvm hw hB hz hk hS => ?_)
    have hro := hro.kept (hk _ hro.lt (fun h => h hGmo))
    obtain ⟨fsx, hatx, hfx⟩ := hB
    rw [ht] at hatx
    rw [if_pos hV] at hfx
    refine lv_aload_n hx hb dL_law_286 rfl (lv_at hl 3 rfl) ?_
    refine va_calli (rnV (fun H => va_at (DG E) vwCl (m0, .inr (10, fsx)) H) (As := []) (rest := []) ⟨hx, hb, hml, hown, hts⟩ (c_X10_thrown l E s.heap.size m0 fsx 0 hfx) (cwV 0 hts (gdV ml_L_60 im_X10_thrown se_X10_X10_thrown in_X10 co_X10_thrown rfl) rfl rfl rfl (by decide +kernel) ⟨Nat.le_of_ble_eq_true rfl, Nat.le_of_ble_eq_true rfl⟩) hatx (fun U hU hW => hK.go hW hS hAz hU) (va_recv hK.1 (va_one hatx) (ci := 10) (q0 := 0) rfl rfl) rfl rfl hl.1 rfl (lv_room (Nat.le_of_ble_eq_true rfl)) dL_law_287 ⟨Nat.le_of_ble_eq_true rfl, Nat.le_of_ble_eq_true rfl⟩) hS (fun q _ h => h.elim) (fun q h => h.elim) (fun r_3 _ t H locs ht hvm hw hB hz hk hS => ?_)
    have hro := hro.kept (hk _ hro.lt (fun h => h))
    subst hw
    refine lv_iload hx hb dL_law_290 (lv_at hl 0 rfl) ?_
    refine lv_icmp_eq (tgt := 297) hx hb dL_law_292 (by decide) (fun c_4 => ?_) (fun c_4 => absurd c_4 (by decide))
    refine lv_goto (tgt := 1116) hx hb dL_law_297 (by decide) ?_
    exact law_tail C0 hS (Nat.le_of_ble_eq_true rfl) (Nat.le_of_ble_eq_true rfl) (lv_sub hl [1, 5] rfl)
  · refine lv_istore (lv' := [(5, .int 1), (4, .int 3), (3, .ref o0), (2, .ref m0), (1, .ref x0), (0, .ref b)]) hx hb dL_law_262 hl (by decide) rfl (fun ls hl => ?_)
    refine lv_aload_n hx hb dL_law_264 rfl (lv_at hl 3 rfl) ?_
    refine lv_aload_n hx hb dL_law_265 rfl (lv_at hl 5 rfl) ?_
    refine lv_iload hx hb dL_law_266 (lv_at hl 1 rfl) ?_
    refine lv_iconst (v := 1) hx hb dL_law_268 (by decide) ?_
    refine lv_iadd hx hb dL_law_269 ?_
    refine W.eq (g2 := F0 m 270 ls [.int 4, .ref b, .ref m0]) (by rfl) ?_
    refine va_sld hx hb hX hbl hbA hS (show vp_in (4) 10 from vp_in_iff.mpr ⟨by decide, by decide⟩) dL_law_270 ?_
    refine W.eq (g2 := F0 m 271 ls [.int (xs 4), .ref m0]) (by rfl) ?_
    refine lv_aload_n hx hb dL_law_271 rfl (lv_at hl 5 rfl) ?_
    refine lv_iload hx hb dL_law_272 (lv_at hl 1 rfl) ?_
    refine lv_iconst (v := 2) hx hb dL_law_274 (by decide) ?_
    refine lv_iadd hx hb dL_law_275 ?_
    refine W.eq (g2 := F0 m 276 ls [.int 5, .ref b, .int (xs 4), .ref m0]) (by rfl) ?_
    refine va_sld hx hb hX hbl hbA hS (show vp_in (5) 10 from vp_in_iff.mpr ⟨by decide, by decide⟩) dL_law_276 ?_
    refine W.eq (g2 := F0 m 277 ls [.int (xs 5), .int (xs 4), .ref m0]) (by rfl) ?_
    refine lv_aload_n hx hb dL_law_277 rfl (lv_at hl 5 rfl) ?_
    refine lv_iload hx hb dL_law_278 (lv_at hl 1 rfl) ?_
    refine lv_iconst (v := 3) hx hb dL_law_280 (by decide) ?_
    refine lv_iadd hx hb dL_law_281 ?_
    refine W.eq (g2 := F0 m 282 ls [.int 6, .ref b, .int (xs 5), .int (xs 4), .ref m0]) (by rfl) ?_
    refine va_sld hx hb hX hbl hbA hS (show vp_in (6) 10 from vp_in_iff.mpr ⟨by decide, by decide⟩) dL_law_282 ?_
    refine W.eq (g2 := F0 m 283 ls [.int (xs 6), .int (xs 5), .int (xs 4), .ref m0]) (by rfl) ?_
    obtain ⟨_, _, _, _, ha_5, _⟩ := tg_20 hTm hmm nx_0
    refine va_callv (rnV (fun H => TH E (T0 E) Gm [] H) (As := [.int (xs 4), .int (xs 5), .int (xs 6)]) (rest := []) ⟨hx, hb, hml, hown, hts⟩ (c_X10_store l E s.heap.size Gm hGzm m0 (xs 4) (xs 5) (xs 6) hmm) (cwV 3 hts (gdV ml_L_67 im_X10_store se_X10_X10_store in_X10 co_X10_store rfl) rfl rfl rfl (by decide +kernel) ⟨Nat.le_of_ble_eq_true rfl, Nat.le_of_ble_eq_true rfl⟩) hTm (fun U hU hW => hK.go hW hS hAz hU) (va_recv hK.1 (va_one ha_5) (ci := 10) (q0 := 0) rfl rfl) rfl rfl hl.1 rfl (lv_room (Nat.le_of_ble_eq_true rfl)) dL_law_283 ⟨Nat.le_of_ble_eq_true rfl, Nat.le_of_ble_eq_true rfl⟩) hS (fun q _ h => hGzm q h) (fun q h => hGzm q h) (fun _ t H locs ht hvm hw hB hz hk hS => ?_)
    have hro := hro.kept (hk _ hro.lt (fun h => h hGmo))
    obtain ⟨fsx, hatx, hfx⟩ := hB
    rw [ht] at hatx
    rw [if_neg hV] at hfx
    refine lv_aload_n hx hb dL_law_286 rfl (lv_at hl 3 rfl) ?_
    refine va_calli (rnV (fun H => va_at (DG E) vwCl (m0, .inr (10, fsx)) H) (As := []) (rest := []) ⟨hx, hb, hml, hown, hts⟩ (c_X10_thrown l E s.heap.size m0 fsx 1 hfx) (cwV 0 hts (gdV ml_L_60 im_X10_thrown se_X10_X10_thrown in_X10 co_X10_thrown rfl) rfl rfl rfl (by decide +kernel) ⟨Nat.le_of_ble_eq_true rfl, Nat.le_of_ble_eq_true rfl⟩) hatx (fun U hU hW => hK.go hW hS hAz hU) (va_recv hK.1 (va_one hatx) (ci := 10) (q0 := 0) rfl rfl) rfl rfl hl.1 rfl (lv_room (Nat.le_of_ble_eq_true rfl)) dL_law_287 ⟨Nat.le_of_ble_eq_true rfl, Nat.le_of_ble_eq_true rfl⟩) hS (fun q _ h => h.elim) (fun q h => h.elim) (fun r_6 _ t H locs ht hvm hw hB hz hk hS => ?_)
    have hro := hro.kept (hk _ hro.lt (fun h => h))
    subst hw
    refine lv_iload hx hb dL_law_290 (lv_at hl 0 rfl) ?_
    refine lv_icmp_eq (tgt := 297) hx hb dL_law_292 (by decide) (fun c_7 => ?_) (fun c_7 => absurd c_7 (by decide))
    refine lv_goto (tgt := 1116) hx hb dL_law_297 (by decide) ?_
    exact law_tail C0 hS (Nat.le_of_ble_eq_true rfl) (Nat.le_of_ble_eq_true rfl) (lv_sub hl [1, 5] rfl)
set_option maxHeartbeats 8000000 in
set_option maxRecDepth 100000 in
theorem lk_2 {p : Program} {l : Launch} {e : Env} {s : State} {m : MethodId} {below : List Frame} {meth : Method} {c : Code} {b : Nat} {xs : Nat → Int32} {E : EE} {Gc Gm : Nat → Nat} {x0 m0 o0 : Nat} {H : Heap} {locs : List Loc} {ls : Array Slot} (hst : l.stackTraces = false) (C0 : lw_At p s m meth c b 10 xs) (hK : KS E s.heap.size s) (hN : NC s) (hTc : TH E (T0 E) Gc [] H) (hTm : TH E (T0 E) Gm [] H) (hxc : Gc x0 = 1) (hmm : Gm m0 = 20) (hGzc : ∀ q, Gc q ≠ 0 → s.heap.size ≤ q) (hGzm : ∀ q, Gm q ≠ 0 → s.heap.size ≤ q) (hd : ∀ a, Gm a ≠ 0 → Gc a = 0) (hro : va_at (DG E) vwCl (o0, .inl (E.2.2 2, 1, .inr (.inl (fun _ => 0)))) H) (hGco : Gc o0 = 0) (hGmo : Gm o0 = 0) (hoz : s.heap.size ≤ o0) (hS : va_S (fun q : Nat => s.heap.size ≤ q) s.heap H locs) (hl : lv_has ls 7 [(4, .int 3), (3, .ref o0), (2, .ref m0), (1, .ref x0), (0, .ref b)]) : W p l e room_1 s m #[Value.ref b] below meth c H locs 191 2010 (lw_Z below #[Value.ref b] s) (F0 m 300 ls []) := by
  obtain ⟨hx, hb, hr, hml, hown, hts0, hX, hbl, hlocks, hgv⟩ := id C0
  have hts : ∀ w ∈ TS, w.before #[Value.ref b] s = true := fun w hw => hts0 w (List.mem_filter.mp hw).1
  have hbA : ¬ (fun q : Nat => s.heap.size ≤ q) b := Nat.not_le.mpr hbl
  have hAz : ∀ q, (fun q : Nat => s.heap.size ≤ q) q → s.heap.size ≤ q := fun q h => h
  refine lv_aload_n hx hb dL_law_300 rfl (lv_at hl 3 rfl) ?_
  refine lv_aload_n hx hb dL_law_301 rfl (lv_at hl 4 rfl) ?_
  refine lv_iload hx hb dL_law_302 (lv_at hl 0 rfl) ?_
  refine lv_iconst (v := 1) hx hb dL_law_304 (by decide) ?_
  refine lv_iadd hx hb dL_law_305 ?_
  refine W.eq (g2 := F0 m 306 ls [.int 4, .ref b, .ref x0]) (by rfl) ?_
  refine va_sld hx hb hX hbl hbA hS (show vp_in (4) 10 from vp_in_iff.mpr ⟨by decide, by decide⟩) dL_law_306 ?_
  refine W.eq (g2 := F0 m 307 ls [.int (xs 4), .ref x0]) (by rfl) ?_
  refine lv_aload_n hx hb dL_law_307 rfl (lv_at hl 4 rfl) ?_
  refine lv_iload hx hb dL_law_308 (lv_at hl 0 rfl) ?_
  refine lv_iconst (v := 2) hx hb dL_law_310 (by decide) ?_
  refine lv_iadd hx hb dL_law_311 ?_
  refine W.eq (g2 := F0 m 312 ls [.int 5, .ref b, .int (xs 4), .ref x0]) (by rfl) ?_
  refine va_sld hx hb hX hbl hbA hS (show vp_in (5) 10 from vp_in_iff.mpr ⟨by decide, by decide⟩) dL_law_312 ?_
  refine W.eq (g2 := F0 m 313 ls [.int (xs 5), .int (xs 4), .ref x0]) (by rfl) ?_
  obtain ⟨n_1, p_1, f_1, ha_1, _, _, _⟩ := tg_1 hTc hxc nx_0
  refine va_calli (rnV (fun H => TH E (T0 E) Gc [] H) (As := [.int (xs 4), .int (xs 5)]) (rest := []) ⟨hx, hb, hml, hown, hts⟩ (c_X9_cell l E s.heap.size Gc hGzc x0 (xs 4) (xs 5) hxc) (cwV 2 hts (gdV ml_L_68 im_X9_cell se_X9_X9_cell in_X9 co_X9_cell rfl) rfl rfl rfl (by decide +kernel) ⟨Nat.le_of_ble_eq_true rfl, Nat.le_of_ble_eq_true rfl⟩) hTc (fun U hU hW => hK.go hW hS hAz hU) (va_recv hK.1 (va_one ha_1) (ci := 9) (q0 := 0) rfl rfl) rfl rfl hl.1 rfl (lv_room (Nat.le_of_ble_eq_true rfl)) dL_law_313 ⟨Nat.le_of_ble_eq_true rfl, Nat.le_of_ble_eq_true rfl⟩) hS (fun q _ h => h.elim) (fun q h => h.elim) (fun r_1 _ t H locs ht hvm hw hB hz hk hS => ?_)
  have hTm := hTm.kept (fun q hq => hk q hq (fun h => h))
  have hro := hro.kept (hk _ hro.lt (fun h => h))
  subst hw
  refine lv_aload_n hx hb dL_law_316 rfl (lv_at hl 2 rfl) ?_
  refine lv_aload_n hx hb dL_law_317 rfl (lv_at hl 4 rfl) ?_
  refine lv_iload hx hb dL_law_318 (lv_at hl 0 rfl) ?_
  refine lv_iconst (v := 1) hx hb dL_law_320 (by decide) ?_
  refine lv_iadd hx hb dL_law_321 ?_
  refine W.eq (g2 := F0 m 322 ls [.int 4, .ref b, .ref m0, .int 0]) (by rfl) ?_
  refine va_sld hx hb hX hbl hbA hS (show vp_in (4) 10 from vp_in_iff.mpr ⟨by decide, by decide⟩) dL_law_322 ?_
  refine W.eq (g2 := F0 m 323 ls [.int (xs 4), .ref m0, .int 0]) (by rfl) ?_
  refine lv_aload_n hx hb dL_law_323 rfl (lv_at hl 4 rfl) ?_
  refine lv_iload hx hb dL_law_324 (lv_at hl 0 rfl) ?_
  refine lv_iconst (v := 2) hx hb dL_law_326 (by decide) ?_
  refine lv_iadd hx hb dL_law_327 ?_
  refine W.eq (g2 := F0 m 328 ls [.int 5, .ref b, .int (xs 4), .ref m0, .int 0]) (by rfl) ?_
  refine va_sld hx hb hX hbl hbA hS (show vp_in (5) 10 from vp_in_iff.mpr ⟨by decide, by decide⟩) dL_law_328 ?_
  refine W.eq (g2 := F0 m 329 ls [.int (xs 5), .int (xs 4), .ref m0, .int 0]) (by rfl) ?_
  obtain ⟨_, _, _, _, ha_2, _⟩ := tg_20 hTm hmm nx_0
  refine va_calli (rnV (fun H => TH E (T0 E) Gm [] H) (As := [.int (xs 4), .int (xs 5)]) (rest := [.int 0]) ⟨hx, hb, hml, hown, hts⟩ (c_X10_cell l E s.heap.size Gm hGzm m0 (xs 4) (xs 5) hmm) (cwV 2 hts (gdV ml_L_70 im_X10_cell se_X10_X10_cell in_X10 co_X10_cell rfl) rfl rfl rfl (by decide +kernel) ⟨Nat.le_of_ble_eq_true rfl, Nat.le_of_ble_eq_true rfl⟩) hTm (fun U hU hW => hK.go hW hS hAz hU) (va_recv hK.1 (va_one ha_2) (ci := 10) (q0 := 0) rfl rfl) rfl rfl hl.1 rfl (lv_room (Nat.le_of_ble_eq_true rfl)) dL_law_329 ⟨Nat.le_of_ble_eq_true rfl, Nat.le_of_ble_eq_true rfl⟩) hS (fun q _ h => hGzm q h) (fun q h => hGzm q h) (fun r_2 _ t H locs ht hvm hw hB hz hk hS => ?_)
  have hro := hro.kept (hk _ hro.lt (fun h => h hGmo))
  subst hw
  refine lv_icmp_eq (tgt := 1116) hx hb dL_law_332 (by decide) (fun c_3 => ?_) (fun c_3 => absurd c_3 (by decide))
  exact law_tail C0 hS (Nat.le_of_ble_eq_true rfl) (Nat.le_of_ble_eq_true rfl) (lv_sub hl [0, 4] rfl)
set_option maxHeartbeats 8000000 in
set_option maxRecDepth 100000 in
theorem lk_3 {p : Program} {l : Launch} {e : Env} {s : State} {m : MethodId} {below : List Frame} {meth : Method} {c : Code} {b : Nat} {xs : Nat → Int32} {E : EE} {Gc Gm : Nat → Nat} {x0 m0 o0 : Nat} {H : Heap} {locs : List Loc} {ls : Array Slot} (hst : l.stackTraces = false) (C0 : lw_At p s m meth c b 10 xs) (hK : KS E s.heap.size s) (hN : NC s) (hTc : TH E (T0 E) Gc [] H) (hTm : TH E (T0 E) Gm [] H) (hxc : Gc x0 = 1) (hmm : Gm m0 = 20) (hGzc : ∀ q, Gc q ≠ 0 → s.heap.size ≤ q) (hGzm : ∀ q, Gm q ≠ 0 → s.heap.size ≤ q) (hd : ∀ a, Gm a ≠ 0 → Gc a = 0) (hro : va_at (DG E) vwCl (o0, .inl (E.2.2 2, 1, .inr (.inl (fun _ => 0)))) H) (hGco : Gc o0 = 0) (hGmo : Gm o0 = 0) (hoz : s.heap.size ≤ o0) (hS : va_S (fun q : Nat => s.heap.size ≤ q) s.heap H locs) (hl : lv_has ls 7 [(4, .int 3), (3, .ref o0), (2, .ref m0), (1, .ref x0), (0, .ref b)]) : W p l e room_1 s m #[Value.ref b] below meth c H locs 191 2010 (lw_Z below #[Value.ref b] s) (F0 m 337 ls []) := by
  obtain ⟨hx, hb, hr, hml, hown, hts0, hX, hbl, hlocks, hgv⟩ := id C0
  have hts : ∀ w ∈ TS, w.before #[Value.ref b] s = true := fun w hw => hts0 w (List.mem_filter.mp hw).1
  have hbA : ¬ (fun q : Nat => s.heap.size ≤ q) b := Nat.not_le.mpr hbl
  have hAz : ∀ q, (fun q : Nat => s.heap.size ≤ q) q → s.heap.size ≤ q := fun q h => h
  refine lv_aload_n hx hb dL_law_337 rfl (lv_at hl 3 rfl) ?_
  refine lv_aload_n hx hb dL_law_338 rfl (lv_at hl 4 rfl) ?_
  refine lv_iload hx hb dL_law_339 (lv_at hl 0 rfl) ?_
  refine lv_iconst (v := 1) hx hb dL_law_341 (by decide) ?_
  refine lv_iadd hx hb dL_law_342 ?_
  refine W.eq (g2 := F0 m 343 ls [.int 4, .ref b, .ref x0]) (by rfl) ?_
  refine va_sld hx hb hX hbl hbA hS (show vp_in (4) 10 from vp_in_iff.mpr ⟨by decide, by decide⟩) dL_law_343 ?_
  refine W.eq (g2 := F0 m 344 ls [.int (xs 4), .ref x0]) (by rfl) ?_
  refine lv_aload_n hx hb dL_law_344 rfl (lv_at hl 4 rfl) ?_
  refine lv_iload hx hb dL_law_345 (lv_at hl 0 rfl) ?_
  refine lv_iconst (v := 2) hx hb dL_law_347 (by decide) ?_
  refine lv_iadd hx hb dL_law_348 ?_
  refine W.eq (g2 := F0 m 349 ls [.int 5, .ref b, .int (xs 4), .ref x0]) (by rfl) ?_
  refine va_sld hx hb hX hbl hbA hS (show vp_in (5) 10 from vp_in_iff.mpr ⟨by decide, by decide⟩) dL_law_349 ?_
  refine W.eq (g2 := F0 m 350 ls [.int (xs 5), .int (xs 4), .ref x0]) (by rfl) ?_
  refine lv_aload_n hx hb dL_law_350 rfl (lv_at hl 4 rfl) ?_
  refine lv_iload hx hb dL_law_351 (lv_at hl 0 rfl) ?_
  refine lv_iconst (v := 3) hx hb dL_law_353 (by decide) ?_
  refine lv_iadd hx hb dL_law_354 ?_
  refine W.eq (g2 := F0 m 355 ls [.int 6, .ref b, .int (xs 5), .int (xs 4), .ref x0]) (by rfl) ?_
  refine va_sld hx hb hX hbl hbA hS (show vp_in (6) 10 from vp_in_iff.mpr ⟨by decide, by decide⟩) dL_law_355 ?_
  refine W.eq (g2 := F0 m 356 ls [.int (xs 6), .int (xs 5), .int (xs 4), .ref x0]) (by rfl) ?_
  refine va_calli (vx_runSW (hh := [(0, 7, 10, 13), (0, 7, 14, 22)]) (As := [.ref x0, .int (xs 4), .int (xs 5), .int (xs 6)]) (rest := []) ⟨hx, hb, hml, hown, hts⟩ (c_L_ready l hst E s.heap.size Gc hGzc x0 (xs 4) (xs 5) (xs 6) hxc) (vx_cwSW 4 hts (gdW ml_L_71 st_L_ready in_L co_L_ready rfl) rfl rfl rfl (by decide +kernel) ⟨Nat.le_of_ble_eq_true rfl, Nat.le_of_ble_eq_true rfl⟩) ⟨fun a U g mk q => ⟨q.1, q.2.1, KS.calling q.2.2.1, NC.vm q.2.2.2 rfl⟩, fun U hU hW => ⟨rfl, by rw [hU]; exact hTc, hK.go hW hS hAz hU, hN.go hW⟩⟩ rfl rfl hl.1 rfl (lv_room (Nat.le_of_ble_eq_true rfl)) dL_law_356 ⟨Nat.le_of_ble_eq_true rfl, Nat.le_of_ble_eq_true rfl⟩) hS (fun q _ h => hGzc q h) (fun q h => hGzc q h) (fun r_1 _ t H locs ht hvm hw hB hz hk hS => ?_)
  have hTm := hTm.other hd hk
  have hro := hro.kept (hk _ hro.lt (fun h => h hGco))
  rcases hw with ⟨rfl, hV⟩ | ⟨rfl, hV⟩
  · refine lv_istore (lv' := [(5, .int 0), (4, .int 3), (3, .ref o0), (2, .ref m0), (1, .ref x0), (0, .ref b)]) hx hb dL_law_359 hl (by decide) rfl (fun ls hl => ?_)
    refine lv_aload_n hx hb dL_law_361 rfl (lv_at hl 3 rfl) ?_
    refine lv_aload_n hx hb dL_law_362 rfl (lv_at hl 5 rfl) ?_
    refine lv_iload hx hb dL_law_363 (lv_at hl 1 rfl) ?_
    refine lv_iconst (v := 1) hx hb dL_law_365 (by decide) ?_
    refine lv_iadd hx hb dL_law_366 ?_
    refine W.eq (g2 := F0 m 367 ls [.int 4, .ref b, .ref m0]) (by rfl) ?_
    refine va_sld hx hb hX hbl hbA hS (show vp_in (4) 10 from vp_in_iff.mpr ⟨by decide, by decide⟩) dL_law_367 ?_
    refine W.eq (g2 := F0 m 368 ls [.int (xs 4), .ref m0]) (by rfl) ?_
    refine lv_aload_n hx hb dL_law_368 rfl (lv_at hl 5 rfl) ?_
    refine lv_iload hx hb dL_law_369 (lv_at hl 1 rfl) ?_
    refine lv_iconst (v := 2) hx hb dL_law_371 (by decide) ?_
    refine lv_iadd hx hb dL_law_372 ?_
    refine W.eq (g2 := F0 m 373 ls [.int 5, .ref b, .int (xs 4), .ref m0]) (by rfl) ?_
    refine va_sld hx hb hX hbl hbA hS (show vp_in (5) 10 from vp_in_iff.mpr ⟨by decide, by decide⟩) dL_law_373 ?_
    refine W.eq (g2 := F0 m 374 ls [.int (xs 5), .int (xs 4), .ref m0]) (by rfl) ?_
    refine lv_aload_n hx hb dL_law_374 rfl (lv_at hl 5 rfl) ?_
    refine lv_iload hx hb dL_law_375 (lv_at hl 1 rfl) ?_
    refine lv_iconst (v := 3) hx hb dL_law_377 (by decide) ?_
    refine lv_iadd hx hb dL_law_378 ?_
    refine W.eq (g2 := F0 m 379 ls [.int 6, .ref b, .int (xs 5), .int (xs 4), .ref m0]) (by rfl) ?_
    refine va_sld hx hb hX hbl hbA hS (show vp_in (6) 10 from vp_in_iff.mpr ⟨by decide, by decide⟩) dL_law_379 ?_
    refine W.eq (g2 := F0 m 380 ls [.int (xs 6), .int (xs 5), .int (xs 4), .ref m0]) (by rfl) ?_
    obtain ⟨_, _, _, _, ha_2, _⟩ := tg_20 hTm hmm nx_0
    refine va_callv (rnV (fun H => TH E (T0 E) Gm [] H) (As := [.int (xs 4), .int (xs 5), .int (xs 6)]) (rest := []) ⟨hx, hb, hml, hown, hts⟩ (c_X10_ready l E s.heap.size Gm hGzm m0 (xs 4) (xs 5) (xs 6) hmm) (cwV 3 hts (gdV ml_L_73 im_X10_ready se_X10_X10_ready in_X10 co_X10_ready rfl) rfl rfl rfl (by decide +kernel) ⟨Nat.le_of_ble_eq_true rfl, Nat.le_of_ble_eq_true rfl⟩) hTm (fun U hU hW => hK.go hW hS hAz hU) (va_recv hK.1 (va_one ha_2) (ci := 10) (q0 := 0) rfl rfl) rfl rfl hl.1 rfl (lv_room (Nat.le_of_ble_eq_true rfl)) dL_law_380 ⟨Nat.le_of_ble_eq_true rfl, Nat.le_of_ble_eq_true rfl⟩) hS (fun q _ h => hGzm q h) (fun q h => hGzm q h) (fun _ t H locs ht hvm hw hB hz hk hS => ?_)
    have hro := hro.kept (hk _ hro.lt (fun h => h hGmo))
    obtain ⟨fsx, hatx, hfx⟩ := hB
    rw [ht] at hatx
    rw [if_pos hV] at hfx
    refine lv_aload_n hx hb dL_law_383 rfl (lv_at hl 3 rfl) ?_
    refine va_calli (rnV (fun H => va_at (DG E) vwCl (m0, .inr (10, fsx)) H) (As := []) (rest := []) ⟨hx, hb, hml, hown, hts⟩ (c_X10_thrown l E s.heap.size m0 fsx 0 hfx) (cwV 0 hts (gdV ml_L_60 im_X10_thrown se_X10_X10_thrown in_X10 co_X10_thrown rfl) rfl rfl rfl (by decide +kernel) ⟨Nat.le_of_ble_eq_true rfl, Nat.le_of_ble_eq_true rfl⟩) hatx (fun U hU hW => hK.go hW hS hAz hU) (va_recv hK.1 (va_one hatx) (ci := 10) (q0 := 0) rfl rfl) rfl rfl hl.1 rfl (lv_room (Nat.le_of_ble_eq_true rfl)) dL_law_384 ⟨Nat.le_of_ble_eq_true rfl, Nat.le_of_ble_eq_true rfl⟩) hS (fun q _ h => h.elim) (fun q h => h.elim) (fun r_3 _ t H locs ht hvm hw hB hz hk hS => ?_)
    have hro := hro.kept (hk _ hro.lt (fun h => h))
    subst hw
    refine lv_iload hx hb dL_law_387 (lv_at hl 0 rfl) ?_
    refine lv_icmp_eq (tgt := 394) hx hb dL_law_389 (by decide) (fun c_4 => ?_) (fun c_4 => absurd c_4 (by decide))
    refine lv_goto (tgt := 1116) hx hb dL_law_394 (by decide) ?_
    exact law_tail C0 hS (Nat.le_of_ble_eq_true rfl) (Nat.le_of_ble_eq_true rfl) (lv_sub hl [1, 5] rfl)
  · refine lv_istore (lv' := [(5, .int 1), (4, .int 3), (3, .ref o0), (2, .ref m0), (1, .ref x0), (0, .ref b)]) hx hb dL_law_359 hl (by decide) rfl (fun ls hl => ?_)
    refine lv_aload_n hx hb dL_law_361 rfl (lv_at hl 3 rfl) ?_
    refine lv_aload_n hx hb dL_law_362 rfl (lv_at hl 5 rfl) ?_
    refine lv_iload hx hb dL_law_363 (lv_at hl 1 rfl) ?_
    refine lv_iconst (v := 1) hx hb dL_law_365 (by decide) ?_
    refine lv_iadd hx hb dL_law_366 ?_
    refine W.eq (g2 := F0 m 367 ls [.int 4, .ref b, .ref m0]) (by rfl) ?_
    refine va_sld hx hb hX hbl hbA hS (show vp_in (4) 10 from vp_in_iff.mpr ⟨by decide, by decide⟩) dL_law_367 ?_
    refine W.eq (g2 := F0 m 368 ls [.int (xs 4), .ref m0]) (by rfl) ?_
    refine lv_aload_n hx hb dL_law_368 rfl (lv_at hl 5 rfl) ?_
    refine lv_iload hx hb dL_law_369 (lv_at hl 1 rfl) ?_
    refine lv_iconst (v := 2) hx hb dL_law_371 (by decide) ?_
    refine lv_iadd hx hb dL_law_372 ?_
    refine W.eq (g2 := F0 m 373 ls [.int 5, .ref b, .int (xs 4), .ref m0]) (by rfl) ?_
    refine va_sld hx hb hX hbl hbA hS (show vp_in (5) 10 from vp_in_iff.mpr ⟨by decide, by decide⟩) dL_law_373 ?_
    refine W.eq (g2 := F0 m 374 ls [.int (xs 5), .int (xs 4), .ref m0]) (by rfl) ?_
    refine lv_aload_n hx hb dL_law_374 rfl (lv_at hl 5 rfl) ?_
    refine lv_iload hx hb dL_law_375 (lv_at hl 1 rfl) ?_
    refine lv_iconst (v := 3) hx hb dL_law_377 (by decide) ?_
    refine lv_iadd hx hb dL_law_378 ?_
    refine W.eq (g2 := F0 m 379 ls [.int 6, .ref b, .int (xs 5), .int (xs 4), .ref m0]) (by rfl) ?_
    refine va_sld hx hb hX hbl hbA hS (show vp_in (6) 10 from vp_in_iff.mpr ⟨by decide, by decide⟩) dL_law_379 ?_
    refine W.eq (g2 := F0 m 380 ls [.int (xs 6), .int (xs 5), .int (xs 4), .ref m0]) (by rfl) ?_
    obtain ⟨_, _, _, _, ha_5, _⟩ := tg_20 hTm hmm nx_0
    refine va_callv (rnV (fun H => TH E (T0 E) Gm [] H) (As := [.int (xs 4), .int (xs 5), .int (xs 6)]) (rest := []) ⟨hx, hb, hml, hown, hts⟩ (c_X10_ready l E s.heap.size Gm hGzm m0 (xs 4) (xs 5) (xs 6) hmm) (cwV 3 hts (gdV ml_L_73 im_X10_ready se_X10_X10_ready in_X10 co_X10_ready rfl) rfl rfl rfl (by decide +kernel) ⟨Nat.le_of_ble_eq_true rfl, Nat.le_of_ble_eq_true rfl⟩) hTm (fun U hU hW => hK.go hW hS hAz hU) (va_recv hK.1 (va_one ha_5) (ci := 10) (q0 := 0) rfl rfl) rfl rfl hl.1 rfl (lv_room (Nat.le_of_ble_eq_true rfl)) dL_law_380 ⟨Nat.le_of_ble_eq_true rfl, Nat.le_of_ble_eq_true rfl⟩) hS (fun q _ h => hGzm q h) (fun q h => hGzm q h) (fun _ t H locs ht hvm hw hB hz hk hS => ?_)
    have hro := hro.kept (hk _ hro.lt (fun h => h hGmo))
    obtain ⟨fsx, hatx, hfx⟩ := hB
    rw [ht] at hatx
    rw [if_neg hV] at hfx
    refine lv_aload_n hx hb dL_law_383 rfl (lv_at hl 3 rfl) ?_
    refine va_calli (rnV (fun H => va_at (DG E) vwCl (m0, .inr (10, fsx)) H) (As := []) (rest := []) ⟨hx, hb, hml, hown, hts⟩ (c_X10_thrown l E s.heap.size m0 fsx 1 hfx) (cwV 0 hts (gdV ml_L_60 im_X10_thrown se_X10_X10_thrown in_X10 co_X10_thrown rfl) rfl rfl rfl (by decide +kernel) ⟨Nat.le_of_ble_eq_true rfl, Nat.le_of_ble_eq_true rfl⟩) hatx (fun U hU hW => hK.go hW hS hAz hU) (va_recv hK.1 (va_one hatx) (ci := 10) (q0 := 0) rfl rfl) rfl rfl hl.1 rfl (lv_room (Nat.le_of_ble_eq_true rfl)) dL_law_384 ⟨Nat.le_of_ble_eq_true rfl, Nat.le_of_ble_eq_true rfl⟩) hS (fun q _ h => h.elim) (fun q h => h.elim) (fun r_6 _ t H locs ht hvm hw hB hz hk hS => ?_)
    have hro := hro.kept (hk _ hro.lt (fun h => h))
    subst hw
    refine lv_iload hx hb dL_law_387 (lv_at hl 0 rfl) ?_
    refine lv_icmp_eq (tgt := 394) hx hb dL_law_389 (by decide) (fun c_7 => ?_) (fun c_7 => absurd c_7 (by decide))
    refine lv_goto (tgt := 1116) hx hb dL_law_394 (by decide) ?_
    exact law_tail C0 hS (Nat.le_of_ble_eq_true rfl) (Nat.le_of_ble_eq_true rfl) (lv_sub hl [1, 5] rfl)
set_option maxHeartbeats 8000000 in
set_option maxRecDepth 100000 in
theorem lk_4 {p : Program} {l : Launch} {e : Env} {s : State} {m : MethodId} {below : List Frame} {meth : Method} {c : Code} {b : Nat} {xs : Nat → Int32} {E : EE} {Gc Gm : Nat → Nat} {x0 m0 o0 : Nat} {H : Heap} {locs : List Loc} {ls : Array Slot} (hst : l.stackTraces = false) (C0 : lw_At p s m meth c b 10 xs) (hK : KS E s.heap.size s) (hN : NC s) (hTc : TH E (T0 E) Gc [] H) (hTm : TH E (T0 E) Gm [] H) (hxc : Gc x0 = 1) (hmm : Gm m0 = 20) (hGzc : ∀ q, Gc q ≠ 0 → s.heap.size ≤ q) (hGzm : ∀ q, Gm q ≠ 0 → s.heap.size ≤ q) (hd : ∀ a, Gm a ≠ 0 → Gc a = 0) (hro : va_at (DG E) vwCl (o0, .inl (E.2.2 2, 1, .inr (.inl (fun _ => 0)))) H) (hGco : Gc o0 = 0) (hGmo : Gm o0 = 0) (hoz : s.heap.size ≤ o0) (hS : va_S (fun q : Nat => s.heap.size ≤ q) s.heap H locs) (hl : lv_has ls 7 [(4, .int 3), (3, .ref o0), (2, .ref m0), (1, .ref x0), (0, .ref b)]) : W p l e room_1 s m #[Value.ref b] below meth c H locs 191 2010 (lw_Z below #[Value.ref b] s) (F0 m 397 ls []) := by
  obtain ⟨hx, hb, hr, hml, hown, hts0, hX, hbl, hlocks, hgv⟩ := id C0
  have hts : ∀ w ∈ TS, w.before #[Value.ref b] s = true := fun w hw => hts0 w (List.mem_filter.mp hw).1
  have hbA : ¬ (fun q : Nat => s.heap.size ≤ q) b := Nat.not_le.mpr hbl
  have hAz : ∀ q, (fun q : Nat => s.heap.size ≤ q) q → s.heap.size ≤ q := fun q h => h
  refine lv_aload_n hx hb dL_law_397 rfl (lv_at hl 3 rfl) ?_
  refine lv_aload_n hx hb dL_law_398 rfl (lv_at hl 4 rfl) ?_
  refine lv_iload hx hb dL_law_399 (lv_at hl 0 rfl) ?_
  refine lv_iconst (v := 1) hx hb dL_law_401 (by decide) ?_
  refine lv_iadd hx hb dL_law_402 ?_
  refine W.eq (g2 := F0 m 403 ls [.int 4, .ref b, .ref x0]) (by rfl) ?_
  refine va_sld hx hb hX hbl hbA hS (show vp_in (4) 10 from vp_in_iff.mpr ⟨by decide, by decide⟩) dL_law_403 ?_
  refine W.eq (g2 := F0 m 404 ls [.int (xs 4), .ref x0]) (by rfl) ?_
  obtain ⟨n_1, p_1, f_1, ha_1, _, _, _⟩ := tg_1 hTc hxc nx_0
  refine va_calli (rnV (fun H => TH E (T0 E) Gc [] H) (As := [.int (xs 4)]) (rest := []) ⟨hx, hb, hml, hown, hts⟩ (c_X9_reset l E s.heap.size Gc hGzc x0 (xs 4) hxc) (cwV 1 hts (gdV ml_L_74 im_X9_reset se_X9_X9_reset in_X9 co_X9_reset rfl) rfl rfl rfl (by decide +kernel) ⟨Nat.le_of_ble_eq_true rfl, Nat.le_of_ble_eq_true rfl⟩) hTc (fun U hU hW => hK.go hW hS hAz hU) (va_recv hK.1 (va_one ha_1) (ci := 9) (q0 := 0) rfl rfl) rfl rfl hl.1 rfl (lv_room (Nat.le_of_ble_eq_true rfl)) dL_law_404 ⟨Nat.le_of_ble_eq_true rfl, Nat.le_of_ble_eq_true rfl⟩) hS (fun q _ h => hGzc q h) (fun q h => hGzc q h) (fun r_1 _ t H locs ht hvm hw hB hz hk hS => ?_)
  have hTm := hTm.other hd hk
  have hro := hro.kept (hk _ hro.lt (fun h => h hGco))
  subst hw
  refine lv_aload_n hx hb dL_law_407 rfl (lv_at hl 2 rfl) ?_
  refine lv_aload_n hx hb dL_law_408 rfl (lv_at hl 4 rfl) ?_
  refine lv_iload hx hb dL_law_409 (lv_at hl 0 rfl) ?_
  refine lv_iconst (v := 1) hx hb dL_law_411 (by decide) ?_
  refine lv_iadd hx hb dL_law_412 ?_
  refine W.eq (g2 := F0 m 413 ls [.int 4, .ref b, .ref m0, .int (bI (0 ≤ (xs 4).toInt ∧ (xs 4).toInt < 4))]) (by rfl) ?_
  refine va_sld hx hb hX hbl hbA hS (show vp_in (4) 10 from vp_in_iff.mpr ⟨by decide, by decide⟩) dL_law_413 ?_
  refine W.eq (g2 := F0 m 414 ls [.int (xs 4), .ref m0, .int (bI (0 ≤ (xs 4).toInt ∧ (xs 4).toInt < 4))]) (by rfl) ?_
  obtain ⟨_, _, _, _, ha_2, _⟩ := tg_20 hTm hmm nx_0
  refine va_calli (rnV (fun H => TH E (T0 E) Gm [] H) (As := [.int (xs 4)]) (rest := [.int (bI (0 ≤ (xs 4).toInt ∧ (xs 4).toInt < 4))]) ⟨hx, hb, hml, hown, hts⟩ (c_X10_reset l E s.heap.size Gm hGzm m0 (xs 4) hmm) (cwV 1 hts (gdV ml_L_78 im_X10_reset se_X10_X10_reset in_X10 co_X10_reset rfl) rfl rfl rfl (by decide +kernel) ⟨Nat.le_of_ble_eq_true rfl, Nat.le_of_ble_eq_true rfl⟩) hTm (fun U hU hW => hK.go hW hS hAz hU) (va_recv hK.1 (va_one ha_2) (ci := 10) (q0 := 0) rfl rfl) rfl rfl hl.1 rfl (lv_room (Nat.le_of_ble_eq_true rfl)) dL_law_414 ⟨Nat.le_of_ble_eq_true rfl, Nat.le_of_ble_eq_true rfl⟩) hS (fun q _ h => hGzm q h) (fun q h => hGzm q h) (fun r_2 _ t H locs ht hvm hw hB hz hk hS => ?_)
  have hro := hro.kept (hk _ hro.lt (fun h => h hGmo))
  subst hw
  refine lv_icmp_eq (tgt := 1116) hx hb dL_law_417 (by decide) (fun c_3 => ?_) (fun c_3 => absurd rfl c_3)
  exact law_tail C0 hS (Nat.le_of_ble_eq_true rfl) (Nat.le_of_ble_eq_true rfl) (lv_sub hl [0, 4] rfl)
