set_option maxHeartbeats 8000000 in
set_option maxRecDepth 100000 in
theorem lk_0 {p : Program} {l : Launch} {e : Env} {s : State} {m : MethodId} {below : List Frame} {meth : Method} {c : Code} {b L i C S : Nat} {xs : Nat → Int32} {E : EE} {Gc Gm : Nat → Nat} {x0 m0 o0 : Nat} {rf : Nat → Nat} {t0 t1 t2 : Int32} {H : Heap} {locs : List Loc} {ls : Array Slot} (hst : l.stackTraces = false) (C0 : lw_At p s m meth c b L xs) (hLB : L ≤ 3587) (hK : KS E s.heap.size s) (hN : NC s) (F9 : LF s Gc Gm x0 m0 o0 rf t0) (hi : i + 7 ≤ L) (hC : C + 2 ≤ 621377) (hSl : S + 12 ≤ 7231939) (hI : LI E s Gc x0 m0 o0 rf t0 t1 t2 H locs) (hl : lv_has ls 7 [(4, .int (nI i)), (3, .ref o0), (2, .ref m0), (1, .ref x0), (0, .ref b)]) (key : ∀ (H : Heap) (locs : List Loc) (ls : Array Slot), LI E s Gc x0 m0 o0 rf t0 t1 t2 H locs → lv_has ls 7 [(4, .int (nI i)), (3, .ref o0), (2, .ref m0), (1, .ref x0), (0, .ref b)] → W p l e room_1 s m #[Value.ref b] below meth c H locs (C + 2) (S + 12) (lw_Z below #[Value.ref b] s) (F0 m 971 ls [])) : W p l e room_1 s m #[Value.ref b] below meth c H locs C S (lw_Z below #[Value.ref b] s) (F0 m 156 ls []) := by
  obtain ⟨hx, hb, hr, hml, hown, hts0, hX, hbl, hlocks, hgv⟩ := id C0
  obtain ⟨hxc, hR, hGzc, hGzm, hd, hGco, hGmo, hoz, h2t⟩ := F9
  have hd2 : ∀ a, Gc a ≠ 0 → Gm a = 0 := fun a h => Decidable.byContradiction fun q => h (hd a q)
  have hts : ∀ w ∈ TS, w.before #[Value.ref b] s = true := fun w hw => hts0 w (List.mem_filter.mp hw).1
  have hbA : ¬ (fun q : Nat => s.heap.size ≤ q) b := Nat.not_le.mpr hbl
  have hAz : ∀ q, (fun q : Nat => s.heap.size ≤ q) q → s.heap.size ≤ q := fun q h => h
  have hC0 : C + 0 ≤ room_1.cells := (show C + 0 ≤ 621377 by omega)
  have hS0 : S + 0 ≤ room_1.slots := (show S + 0 ≤ 7231939 by omega)
  have hC2 : C + 2 ≤ room_1.cells := (show C + 2 ≤ 621377 by omega)
  have hS2 : S + 12 ≤ room_1.slots := (show S + 12 ≤ 7231939 by omega)
  have hiI : (nI i).toInt = (i : Int) := nI_toInt (by omega)
  obtain ⟨B, R, A, cd, pk, hT, hW, hM, hSIM, hV, ⟨fo, hro⟩, hS⟩ := hI
  obtain ⟨hI2, hI3, hI4, hI5, hI6, hI7, hI8, hpk⟩ := hV.c3
  refine lv_aload_n hx hb dL_law_156 rfl (lv_at hl 3 rfl) ?_
  refine lv_aload_n hx hb dL_law_157 rfl (lv_at hl 4 rfl) ?_
  refine lv_iload hx hb dL_law_158 (lv_at hl 0 rfl) ?_
  refine lv_iconst (v := 1) hx hb dL_law_160 (by decide) ?_
  refine lv_iadd hx hb dL_law_161 ?_
  refine lv_topi (fun x_1 ex_1 => ?_)
  have fx_1 : x_1.toInt = (i : Int) + 1 := by have h9 := s_add (x := nI i) (y := 1) (by rw [hiI, i_1]; omega) (by rw [hiI, i_1]; omega); rw [hiI, i_1] at h9; rw [ex_1]; exact h9
  have vi_2 : vp_in x_1 L := vp_in_iff.mpr (by omega)
  refine va_sld hx hb hX hbl hbA hS vi_2 dL_law_162 ?_
  refine lv_topi (fun x_3 ex_3 => ?_)
  refine lv_aload_n hx hb dL_law_163 rfl (lv_at hl 4 rfl) ?_
  refine lv_iload hx hb dL_law_164 (lv_at hl 0 rfl) ?_
  refine lv_iconst (v := 2) hx hb dL_law_166 (by decide) ?_
  refine lv_iadd hx hb dL_law_167 ?_
  refine lv_topi (fun x_4 ex_4 => ?_)
  have fx_4 : x_4.toInt = (i : Int) + 2 := by have h9 := s_add (x := nI i) (y := 2) (by rw [hiI, i_2]; omega) (by rw [hiI, i_2]; omega); rw [hiI, i_2] at h9; rw [ex_4]; exact h9
  have vi_5 : vp_in x_4 L := vp_in_iff.mpr (by omega)
  refine va_sld hx hb hX hbl hbA hS vi_5 dL_law_168 ?_
  refine lv_topi (fun x_6 ex_6 => ?_)
  refine lv_aload_n hx hb dL_law_169 rfl (lv_at hl 4 rfl) ?_
  refine lv_iload hx hb dL_law_170 (lv_at hl 0 rfl) ?_
  refine lv_iconst (v := 3) hx hb dL_law_172 (by decide) ?_
  refine lv_iadd hx hb dL_law_173 ?_
  refine lv_topi (fun x_7 ex_7 => ?_)
  have fx_7 : x_7.toInt = (i : Int) + 3 := by have h9 := s_add (x := nI i) (y := 3) (by rw [hiI, i_3]; omega) (by rw [hiI, i_3]; omega); rw [hiI, i_3] at h9; rw [ex_7]; exact h9
  have vi_8 : vp_in x_7 L := vp_in_iff.mpr (by omega)
  refine va_sld hx hb hX hbl hbA hS vi_8 dL_law_174 ?_
  refine lv_topi (fun x_9 ex_9 => ?_)
  refine lv_aload_n hx hb dL_law_175 rfl (lv_at hl 4 rfl) ?_
  refine lv_iload hx hb dL_law_176 (lv_at hl 0 rfl) ?_
  refine lv_iconst (v := 4) hx hb dL_law_178 (by decide) ?_
  refine lv_iadd hx hb dL_law_179 ?_
  refine lv_topi (fun x_10 ex_10 => ?_)
  have fx_10 : x_10.toInt = (i : Int) + 4 := by have h9 := s_add (x := nI i) (y := 4) (by rw [hiI, i_4]; omega) (by rw [hiI, i_4]; omega); rw [hiI, i_4] at h9; rw [ex_10]; exact h9
  have vi_11 : vp_in x_10 L := vp_in_iff.mpr (by omega)
  refine va_sld hx hb hX hbl hbA hS vi_11 dL_law_180 ?_
  refine lv_topi (fun x_12 ex_12 => ?_)
  refine lv_aload_n hx hb dL_law_181 rfl (lv_at hl 4 rfl) ?_
  refine lv_iload hx hb dL_law_182 (lv_at hl 0 rfl) ?_
  refine lv_iconst (v := 5) hx hb dL_law_184 (by decide) ?_
  refine lv_iadd hx hb dL_law_185 ?_
  refine lv_topi (fun x_13 ex_13 => ?_)
  have fx_13 : x_13.toInt = (i : Int) + 5 := by have h9 := s_add (x := nI i) (y := 5) (by rw [hiI, i_5]; omega) (by rw [hiI, i_5]; omega); rw [hiI, i_5] at h9; rw [ex_13]; exact h9
  have vi_14 : vp_in x_13 L := vp_in_iff.mpr (by omega)
  refine va_sld hx hb hX hbl hbA hS vi_14 dL_law_186 ?_
  refine lv_topi (fun x_15 ex_15 => ?_)
  refine va_calli (vx_runSW (hh := [(0, 11, 14, 13)]) (As := [.ref x0, .int x_3, .int x_6, .int x_9, .int x_12, .int x_15]) (rest := []) ⟨hx, hb, hml, hown, hts⟩ (w_L_region l hst E s.heap.size Gc hGzc B R hW x0 x_3 x_6 x_9 x_12 x_15 hxc) (vx_cwSW 6 hts (gdW ml_L_56 st_L_region in_L co_L_region rfl) rfl rfl rfl (by decide +kernel) ⟨Nat.le_of_ble_eq_true rfl, Nat.le_of_ble_eq_true rfl⟩) ⟨fun a U g mk q => ⟨q.1, q.2.1, KS.calling q.2.2.1, NC.vm q.2.2.2 rfl⟩, fun U hU hW => ⟨rfl, by rw [hU]; exact hT, hK.go hW hS hAz hU, hN.go hW⟩⟩ rfl rfl hl.1 rfl (lv_room (Nat.le_of_ble_eq_true rfl)) dL_law_187 ⟨hC2, hS2⟩) hS (fun q _ h => hGzc q (zn (L := [7]) (by decide) h)) (fun q h => hGzc q (zn (L := [7]) (by decide) h)) (fun r_16 u_16 t H locs ht9 hvm hwr_16 hB hz hk hS => ?_)
  rw [ht9] at hB
  obtain ⟨Z_16, y_16⟩ := u_16
  have hT := hB
  have hM := hM.away hR (fun q hq hg => hk q hq (fun h => zn (L := [7]) (by decide) h (hd q hg)))
  have hro := hro.kept (hk _ hro.lt (fun h => zn (L := [7]) (by decide) h hGco))
  have hT : TX E Gc Z_16 R H := hT
  rcases hwr_16 with ⟨rfl, hW2, hF2, hC⟩ | ⟨rfl, eB, hC⟩
  · have hW : TW Gc Z_16 R := hW2
    have hC : C_X9_region Gc B R x0 x_3 x_6 x_9 x_12 x_15 Z_16 := hC
    refine lv_istore (lv' := [(5, .int 0), (4, .int (nI i)), (3, .ref o0), (2, .ref m0), (1, .ref x0), (0, .ref b)]) hx hb dL_law_190 hl (by decide) rfl (fun ls hl => ?_)
    refine lv_aload_n hx hb dL_law_192 rfl (lv_at hl 3 rfl) ?_
    refine lv_aload_n hx hb dL_law_193 rfl (lv_at hl 5 rfl) ?_
    refine lv_iload hx hb dL_law_194 (lv_at hl 1 rfl) ?_
    refine lv_iconst (v := 1) hx hb dL_law_196 (by decide) ?_
    refine lv_iadd hx hb dL_law_197 ?_
    refine W.eq (g2 := F0 m 198 ls [.int x_1, .ref b, .ref m0]) (by rw [ex_1]) ?_
    refine va_sld hx hb hX hbl hbA hS vi_2 dL_law_198 ?_
    refine W.eq (g2 := F0 m 199 ls [.int x_3, .ref m0]) (by rw [ex_3]) ?_
    refine lv_aload_n hx hb dL_law_199 rfl (lv_at hl 5 rfl) ?_
    refine lv_iload hx hb dL_law_200 (lv_at hl 1 rfl) ?_
    refine lv_iconst (v := 2) hx hb dL_law_202 (by decide) ?_
    refine lv_iadd hx hb dL_law_203 ?_
    refine W.eq (g2 := F0 m 204 ls [.int x_4, .ref b, .int x_3, .ref m0]) (by rw [ex_4]) ?_
    refine va_sld hx hb hX hbl hbA hS vi_5 dL_law_204 ?_
    refine W.eq (g2 := F0 m 205 ls [.int x_6, .int x_3, .ref m0]) (by rw [ex_6]) ?_
    refine lv_aload_n hx hb dL_law_205 rfl (lv_at hl 5 rfl) ?_
    refine lv_iload hx hb dL_law_206 (lv_at hl 1 rfl) ?_
    refine lv_iconst (v := 3) hx hb dL_law_208 (by decide) ?_
    refine lv_iadd hx hb dL_law_209 ?_
    refine W.eq (g2 := F0 m 210 ls [.int x_7, .ref b, .int x_6, .int x_3, .ref m0]) (by rw [ex_7]) ?_
    refine va_sld hx hb hX hbl hbA hS vi_8 dL_law_210 ?_
    refine W.eq (g2 := F0 m 211 ls [.int x_9, .int x_6, .int x_3, .ref m0]) (by rw [ex_9]) ?_
    refine lv_aload_n hx hb dL_law_211 rfl (lv_at hl 5 rfl) ?_
    refine lv_iload hx hb dL_law_212 (lv_at hl 1 rfl) ?_
    refine lv_iconst (v := 4) hx hb dL_law_214 (by decide) ?_
    refine lv_iadd hx hb dL_law_215 ?_
    refine W.eq (g2 := F0 m 216 ls [.int x_10, .ref b, .int x_9, .int x_6, .int x_3, .ref m0]) (by rw [ex_10]) ?_
    refine va_sld hx hb hX hbl hbA hS vi_11 dL_law_216 ?_
    refine W.eq (g2 := F0 m 217 ls [.int x_12, .int x_9, .int x_6, .int x_3, .ref m0]) (by rw [ex_12]) ?_
    refine lv_aload_n hx hb dL_law_217 rfl (lv_at hl 5 rfl) ?_
    refine lv_iload hx hb dL_law_218 (lv_at hl 1 rfl) ?_
    refine lv_iconst (v := 5) hx hb dL_law_220 (by decide) ?_
    refine lv_iadd hx hb dL_law_221 ?_
    refine W.eq (g2 := F0 m 222 ls [.int x_13, .ref b, .int x_12, .int x_9, .int x_6, .int x_3, .ref m0]) (by rw [ex_13]) ?_
    refine va_sld hx hb hX hbl hbA hS vi_14 dL_law_222 ?_
    refine W.eq (g2 := F0 m 223 ls [.int x_15, .int x_12, .int x_9, .int x_6, .int x_3, .ref m0]) (by rw [ex_15]) ?_
    refine va_callv (rnV (fun H => MH E m0 rf t0 t1 t2 A cd pk H) (As := [.int x_3, .int x_6, .int x_9, .int x_12, .int x_15]) (rest := []) ⟨hx, hb, hml, hown, hts⟩ (u_X10_region l E s.heap.size Gm hGzm m0 rf hR t0 t1 t2 A cd pk x_3 x_6 x_9 x_12 x_15 hI2) (cwV 5 hts (gdV ml_L_59 im_X10_region se_X10_X10_region in_X10 co_X10_region rfl) rfl rfl rfl (by decide +kernel) ⟨Nat.le_of_ble_eq_true rfl, Nat.le_of_ble_eq_true rfl⟩) hM (fun U hU hW => hK.go hW hS hAz hU) (va_recv hK.1 (va_one hM.1) (ci := 10) (q0 := 0) rfl rfl) rfl rfl hl.1 rfl (lv_room (Nat.le_of_ble_eq_true rfl)) dL_law_223 ⟨hC2, hS2⟩) hS (fun q _ h => hGzm q h) (fun q h => hGzm q h) (fun ur_17 t H locs ht hvm hwr_17 hB hz hk hS => ?_)
    have hM : MH E m0 rf t0 t1 t2 (uA (uA (uA A 5 (ur_17.1)) 6 (ur_17.2.1)) 7 (ur_17.2.2.1)) ur_17.2.2.2 pk H := by rw [ht] at hB; exact hB
    have hDr_17 : D_X10_region A cd pk x_3 x_6 x_9 x_12 x_15 (uA (uA (uA A 5 (ur_17.1)) 6 (ur_17.2.1)) 7 (ur_17.2.2.1)) (ur_17.2.2.2) pk := hwr_17.2.2
    have hpr_17_0 : I2 (ur_17.1) (ur_17.2.1) := hwr_17.1
    have hpr_17_1 : ur_17.2.2.2 = if (0 ≤ x_3.toInt ∧ x_3.toInt < 2 ∧ 0 ≤ x_6.toInt ∧ x_6.toInt < 6 ∧ 0 ≤ x_15.toInt ∧ x_15.toInt ≤ 7 ∧ 0 ≤ x_9.toInt ∧ 0 ≤ x_12.toInt ∧ x_12.toInt ≤ 32 - x_9.toInt) then 0 else 1 := hwr_17.2.1
    have hT := hT.other hd2 hk
    have hro := hro.kept (hk _ hro.lt (fun h => h hGmo))
    obtain ⟨A_18, cd_18, pk_18, hM, hD, hV2⟩ : ∃ (A2 : AA) (cd2 pk2 : Int32), MH E m0 rf t0 t1 t2 A2 cd2 pk2 H ∧ D_X10_region A cd pk x_3 x_6 x_9 x_12 x_15 A2 cd2 pk2 ∧ RIV A2 pk2 := ⟨_, _, _, hM, hDr_17, ⟨⟨hpr_17_0, hI3, hI4, hI5, hI6, hI7, hI8⟩, hpk⟩⟩
    have hs_18 := s_region hSIM hV hC hD
    obtain ⟨hSIM, ep_18, hcd⟩ := hs_18
    rw [← ep_18] at hSIM
    have hV := hV2
    refine lv_goto (tgt := 971) hx hb dL_law_226 (by decide) ?_
    refine W.widen (k := C + 2) (n := S + 12) (by omega) (by omega) ?_
    exact key _ _ _ ⟨Z_16, R, A_18, cd_18, pk_18, hT, hW, hM, hSIM, hV, ⟨_, hro⟩, hS⟩ (lv_sub hl [1, 2, 3, 4, 5] rfl)
  · have eB : Z_16 = B := eB
    rw [eB] at hT
    have hC : X_X9_region Gc B R x0 x_3 x_6 x_9 x_12 x_15 IAE := hC
    refine lv_istore (lv' := [(5, .int 1), (4, .int (nI i)), (3, .ref o0), (2, .ref m0), (1, .ref x0), (0, .ref b)]) hx hb dL_law_190 hl (by decide) rfl (fun ls hl => ?_)
    refine lv_aload_n hx hb dL_law_192 rfl (lv_at hl 3 rfl) ?_
    refine lv_aload_n hx hb dL_law_193 rfl (lv_at hl 5 rfl) ?_
    refine lv_iload hx hb dL_law_194 (lv_at hl 1 rfl) ?_
    refine lv_iconst (v := 1) hx hb dL_law_196 (by decide) ?_
    refine lv_iadd hx hb dL_law_197 ?_
    refine W.eq (g2 := F0 m 198 ls [.int x_1, .ref b, .ref m0]) (by rw [ex_1]) ?_
    refine va_sld hx hb hX hbl hbA hS vi_2 dL_law_198 ?_
    refine W.eq (g2 := F0 m 199 ls [.int x_3, .ref m0]) (by rw [ex_3]) ?_
    refine lv_aload_n hx hb dL_law_199 rfl (lv_at hl 5 rfl) ?_
    refine lv_iload hx hb dL_law_200 (lv_at hl 1 rfl) ?_
    refine lv_iconst (v := 2) hx hb dL_law_202 (by decide) ?_
    refine lv_iadd hx hb dL_law_203 ?_
    refine W.eq (g2 := F0 m 204 ls [.int x_4, .ref b, .int x_3, .ref m0]) (by rw [ex_4]) ?_
    refine va_sld hx hb hX hbl hbA hS vi_5 dL_law_204 ?_
    refine W.eq (g2 := F0 m 205 ls [.int x_6, .int x_3, .ref m0]) (by rw [ex_6]) ?_
    refine lv_aload_n hx hb dL_law_205 rfl (lv_at hl 5 rfl) ?_
    refine lv_iload hx hb dL_law_206 (lv_at hl 1 rfl) ?_
    refine lv_iconst (v := 3) hx hb dL_law_208 (by decide) ?_
    refine lv_iadd hx hb dL_law_209 ?_
    refine W.eq (g2 := F0 m 210 ls [.int x_7, .ref b, .int x_6, .int x_3, .ref m0]) (by rw [ex_7]) ?_
    refine va_sld hx hb hX hbl hbA hS vi_8 dL_law_210 ?_
    refine W.eq (g2 := F0 m 211 ls [.int x_9, .int x_6, .int x_3, .ref m0]) (by rw [ex_9]) ?_
    refine lv_aload_n hx hb dL_law_211 rfl (lv_at hl 5 rfl) ?_
    refine lv_iload hx hb dL_law_212 (lv_at hl 1 rfl) ?_
    refine lv_iconst (v := 4) hx hb dL_law_214 (by decide) ?_
    refine lv_iadd hx hb dL_law_215 ?_
    refine W.eq (g2 := F0 m 216 ls [.int x_10, .ref b, .int x_9, .int x_6, .int x_3, .ref m0]) (by rw [ex_10]) ?_
    refine va_sld hx hb hX hbl hbA hS vi_11 dL_law_216 ?_
    refine W.eq (g2 := F0 m 217 ls [.int x_12, .int x_9, .int x_6, .int x_3, .ref m0]) (by rw [ex_12]) ?_
    refine lv_aload_n hx hb dL_law_217 rfl (lv_at hl 5 rfl) ?_
    refine lv_iload hx hb dL_law_218 (lv_at hl 1 rfl) ?_
    refine lv_iconst (v := 5) hx hb dL_law_220 (by decide) ?_
    refine lv_iadd hx hb dL_law_221 ?_
    refine W.eq (g2 := F0 m 222 ls [.int x_13, .ref b, .int x_12, .int x_9, .int x_6, .int x_3, .ref m0]) (by rw [ex_13]) ?_
    refine va_sld hx hb hX hbl hbA hS vi_14 dL_law_222 ?_
    refine W.eq (g2 := F0 m 223 ls [.int x_15, .int x_12, .int x_9, .int x_6, .int x_3, .ref m0]) (by rw [ex_15]) ?_
    refine va_callv (rnV (fun H => MH E m0 rf t0 t1 t2 A cd pk H) (As := [.int x_3, .int x_6, .int x_9, .int x_12, .int x_15]) (rest := []) ⟨hx, hb, hml, hown, hts⟩ (u_X10_region l E s.heap.size Gm hGzm m0 rf hR t0 t1 t2 A cd pk x_3 x_6 x_9 x_12 x_15 hI2) (cwV 5 hts (gdV ml_L_59 im_X10_region se_X10_X10_region in_X10 co_X10_region rfl) rfl rfl rfl (by decide +kernel) ⟨Nat.le_of_ble_eq_true rfl, Nat.le_of_ble_eq_true rfl⟩) hM (fun U hU hW => hK.go hW hS hAz hU) (va_recv hK.1 (va_one hM.1) (ci := 10) (q0 := 0) rfl rfl) rfl rfl hl.1 rfl (lv_room (Nat.le_of_ble_eq_true rfl)) dL_law_223 ⟨hC2, hS2⟩) hS (fun q _ h => hGzm q h) (fun q h => hGzm q h) (fun ur_19 t H locs ht hvm hwr_19 hB hz hk hS => ?_)
    have hM : MH E m0 rf t0 t1 t2 (uA (uA (uA A 5 (ur_19.1)) 6 (ur_19.2.1)) 7 (ur_19.2.2.1)) ur_19.2.2.2 pk H := by rw [ht] at hB; exact hB
    have hDr_19 : D_X10_region A cd pk x_3 x_6 x_9 x_12 x_15 (uA (uA (uA A 5 (ur_19.1)) 6 (ur_19.2.1)) 7 (ur_19.2.2.1)) (ur_19.2.2.2) pk := hwr_19.2.2
    have hpr_19_0 : I2 (ur_19.1) (ur_19.2.1) := hwr_19.1
    have hpr_19_1 : ur_19.2.2.2 = if (0 ≤ x_3.toInt ∧ x_3.toInt < 2 ∧ 0 ≤ x_6.toInt ∧ x_6.toInt < 6 ∧ 0 ≤ x_15.toInt ∧ x_15.toInt ≤ 7 ∧ 0 ≤ x_9.toInt ∧ 0 ≤ x_12.toInt ∧ x_12.toInt ≤ 32 - x_9.toInt) then 0 else 1 := hwr_19.2.1
    have hT := hT.other hd2 hk
    have hro := hro.kept (hk _ hro.lt (fun h => h hGmo))
    obtain ⟨A_20, cd_20, pk_20, hM, hD, hV2⟩ : ∃ (A2 : AA) (cd2 pk2 : Int32), MH E m0 rf t0 t1 t2 A2 cd2 pk2 H ∧ D_X10_region A cd pk x_3 x_6 x_9 x_12 x_15 A2 cd2 pk2 ∧ RIV A2 pk2 := ⟨_, _, _, hM, hDr_19, ⟨⟨hpr_19_0, hI3, hI4, hI5, hI6, hI7, hI8⟩, hpk⟩⟩
    obtain ⟨hSIM, ep_20, hE_20⟩ := sx_region hSIM hC hD
    rw [← ep_20] at hSIM
    have hcd := hE_20.1
    have hV := hV2
    refine lv_goto (tgt := 971) hx hb dL_law_226 (by decide) ?_
    refine W.widen (k := C + 2) (n := S + 12) (by omega) (by omega) ?_
    exact key _ _ _ ⟨B, R, A_20, cd_20, pk_20, hT, hW, hM, hSIM, hV, ⟨_, hro⟩, hS⟩ (lv_sub hl [1, 2, 3, 4, 5] rfl)
set_option maxHeartbeats 8000000 in
set_option maxRecDepth 100000 in
theorem lk_1 {p : Program} {l : Launch} {e : Env} {s : State} {m : MethodId} {below : List Frame} {meth : Method} {c : Code} {b L i C S : Nat} {xs : Nat → Int32} {E : EE} {Gc Gm : Nat → Nat} {x0 m0 o0 : Nat} {rf : Nat → Nat} {t0 t1 t2 : Int32} {H : Heap} {locs : List Loc} {ls : Array Slot} (hst : l.stackTraces = false) (C0 : lw_At p s m meth c b L xs) (hLB : L ≤ 3587) (hK : KS E s.heap.size s) (hN : NC s) (F9 : LF s Gc Gm x0 m0 o0 rf t0) (hi : i + 7 ≤ L) (hC : C + 2 ≤ 621377) (hSl : S + 12 ≤ 7231939) (hI : LI E s Gc x0 m0 o0 rf t0 t1 t2 H locs) (hl : lv_has ls 7 [(4, .int (nI i)), (3, .ref o0), (2, .ref m0), (1, .ref x0), (0, .ref b)]) (key : ∀ (H : Heap) (locs : List Loc) (ls : Array Slot), LI E s Gc x0 m0 o0 rf t0 t1 t2 H locs → lv_has ls 7 [(4, .int (nI i)), (3, .ref o0), (2, .ref m0), (1, .ref x0), (0, .ref b)] → W p l e room_1 s m #[Value.ref b] below meth c H locs (C + 2) (S + 12) (lw_Z below #[Value.ref b] s) (F0 m 971 ls [])) : W p l e room_1 s m #[Value.ref b] below meth c H locs C S (lw_Z below #[Value.ref b] s) (F0 m 229 ls []) := by
  obtain ⟨hx, hb, hr, hml, hown, hts0, hX, hbl, hlocks, hgv⟩ := id C0
  obtain ⟨hxc, hR, hGzc, hGzm, hd, hGco, hGmo, hoz, h2t⟩ := F9
  have hd2 : ∀ a, Gc a ≠ 0 → Gm a = 0 := fun a h => Decidable.byContradiction fun q => h (hd a q)
  have hts : ∀ w ∈ TS, w.before #[Value.ref b] s = true := fun w hw => hts0 w (List.mem_filter.mp hw).1
  have hbA : ¬ (fun q : Nat => s.heap.size ≤ q) b := Nat.not_le.mpr hbl
  have hAz : ∀ q, (fun q : Nat => s.heap.size ≤ q) q → s.heap.size ≤ q := fun q h => h
  have hC0 : C + 0 ≤ room_1.cells := (show C + 0 ≤ 621377 by omega)
  have hS0 : S + 0 ≤ room_1.slots := (show S + 0 ≤ 7231939 by omega)
  have hC2 : C + 2 ≤ room_1.cells := (show C + 2 ≤ 621377 by omega)
  have hS2 : S + 12 ≤ room_1.slots := (show S + 12 ≤ 7231939 by omega)
  have hiI : (nI i).toInt = (i : Int) := nI_toInt (by omega)
  obtain ⟨B, R, A, cd, pk, hT, hW, hM, hSIM, hV, ⟨fo, hro⟩, hS⟩ := hI
  obtain ⟨hI2, hI3, hI4, hI5, hI6, hI7, hI8, hpk⟩ := hV.c3
  refine lv_aload_n hx hb dL_law_229 rfl (lv_at hl 3 rfl) ?_
  refine lv_aload_n hx hb dL_law_230 rfl (lv_at hl 4 rfl) ?_
  refine lv_iload hx hb dL_law_231 (lv_at hl 0 rfl) ?_
  refine lv_iconst (v := 1) hx hb dL_law_233 (by decide) ?_
  refine lv_iadd hx hb dL_law_234 ?_
  refine lv_topi (fun x_1 ex_1 => ?_)
  have fx_1 : x_1.toInt = (i : Int) + 1 := by have h9 := s_add (x := nI i) (y := 1) (by rw [hiI, i_1]; omega) (by rw [hiI, i_1]; omega); rw [hiI, i_1] at h9; rw [ex_1]; exact h9
  have vi_2 : vp_in x_1 L := vp_in_iff.mpr (by omega)
  refine va_sld hx hb hX hbl hbA hS vi_2 dL_law_235 ?_
  refine lv_topi (fun x_3 ex_3 => ?_)
  refine lv_aload_n hx hb dL_law_236 rfl (lv_at hl 4 rfl) ?_
  refine lv_iload hx hb dL_law_237 (lv_at hl 0 rfl) ?_
  refine lv_iconst (v := 2) hx hb dL_law_239 (by decide) ?_
  refine lv_iadd hx hb dL_law_240 ?_
  refine lv_topi (fun x_4 ex_4 => ?_)
  have fx_4 : x_4.toInt = (i : Int) + 2 := by have h9 := s_add (x := nI i) (y := 2) (by rw [hiI, i_2]; omega) (by rw [hiI, i_2]; omega); rw [hiI, i_2] at h9; rw [ex_4]; exact h9
  have vi_5 : vp_in x_4 L := vp_in_iff.mpr (by omega)
  refine va_sld hx hb hX hbl hbA hS vi_5 dL_law_241 ?_
  refine lv_topi (fun x_6 ex_6 => ?_)
  refine lv_aload_n hx hb dL_law_242 rfl (lv_at hl 4 rfl) ?_
  refine lv_iload hx hb dL_law_243 (lv_at hl 0 rfl) ?_
  refine lv_iconst (v := 3) hx hb dL_law_245 (by decide) ?_
  refine lv_iadd hx hb dL_law_246 ?_
  refine lv_topi (fun x_7 ex_7 => ?_)
  have fx_7 : x_7.toInt = (i : Int) + 3 := by have h9 := s_add (x := nI i) (y := 3) (by rw [hiI, i_3]; omega) (by rw [hiI, i_3]; omega); rw [hiI, i_3] at h9; rw [ex_7]; exact h9
  have vi_8 : vp_in x_7 L := vp_in_iff.mpr (by omega)
  refine va_sld hx hb hX hbl hbA hS vi_8 dL_law_247 ?_
  refine lv_topi (fun x_9 ex_9 => ?_)
  refine va_calli (vx_runSW (hh := [(0, 7, 10, 13)]) (As := [.ref x0, .int x_3, .int x_6, .int x_9]) (rest := []) ⟨hx, hb, hml, hown, hts⟩ (w_L_store l hst E s.heap.size Gc hGzc B R hW x0 x_3 x_6 x_9 hxc) (vx_cwSW 4 hts (gdW ml_L_60 st_L_store in_L co_L_store rfl) rfl rfl rfl (by decide +kernel) ⟨Nat.le_of_ble_eq_true rfl, Nat.le_of_ble_eq_true rfl⟩) ⟨fun a U g mk q => ⟨q.1, q.2.1, KS.calling q.2.2.1, NC.vm q.2.2.2 rfl⟩, fun U hU hW => ⟨rfl, by rw [hU]; exact hT, hK.go hW hS hAz hU, hN.go hW⟩⟩ rfl rfl hl.1 rfl (lv_room (Nat.le_of_ble_eq_true rfl)) dL_law_248 ⟨hC2, hS2⟩) hS (fun q _ h => hGzc q (zn (L := [14]) (by decide) h)) (fun q h => hGzc q (zn (L := [14]) (by decide) h)) (fun r_10 u_10 t H locs ht9 hvm hwr_10 hB hz hk hS => ?_)
  rw [ht9] at hB
  obtain ⟨Z_10, y_10⟩ := u_10
  have hT := hB
  have hM := hM.away hR (fun q hq hg => hk q hq (fun h => zn (L := [14]) (by decide) h (hd q hg)))
  have hro := hro.kept (hk _ hro.lt (fun h => zn (L := [14]) (by decide) h hGco))
  have hT : TX E Gc Z_10 R H := hT
  rcases hwr_10 with ⟨rfl, hW2, hF2, hC⟩ | ⟨rfl, eB, hC⟩
  · have hW : TW Gc Z_10 R := hW2
    have hC : C_X9_store Gc B R x0 x_3 x_6 x_9 Z_10 := hC
    refine lv_istore (lv' := [(5, .int 0), (4, .int (nI i)), (3, .ref o0), (2, .ref m0), (1, .ref x0), (0, .ref b)]) hx hb dL_law_251 hl (by decide) rfl (fun ls hl => ?_)
    refine lv_aload_n hx hb dL_law_253 rfl (lv_at hl 3 rfl) ?_
    refine lv_aload_n hx hb dL_law_254 rfl (lv_at hl 5 rfl) ?_
    refine lv_iload hx hb dL_law_255 (lv_at hl 1 rfl) ?_
    refine lv_iconst (v := 1) hx hb dL_law_257 (by decide) ?_
    refine lv_iadd hx hb dL_law_258 ?_
    refine W.eq (g2 := F0 m 259 ls [.int x_1, .ref b, .ref m0]) (by rw [ex_1]) ?_
    refine va_sld hx hb hX hbl hbA hS vi_2 dL_law_259 ?_
    refine W.eq (g2 := F0 m 260 ls [.int x_3, .ref m0]) (by rw [ex_3]) ?_
    refine lv_aload_n hx hb dL_law_260 rfl (lv_at hl 5 rfl) ?_
    refine lv_iload hx hb dL_law_261 (lv_at hl 1 rfl) ?_
    refine lv_iconst (v := 2) hx hb dL_law_263 (by decide) ?_
    refine lv_iadd hx hb dL_law_264 ?_
    refine W.eq (g2 := F0 m 265 ls [.int x_4, .ref b, .int x_3, .ref m0]) (by rw [ex_4]) ?_
    refine va_sld hx hb hX hbl hbA hS vi_5 dL_law_265 ?_
    refine W.eq (g2 := F0 m 266 ls [.int x_6, .int x_3, .ref m0]) (by rw [ex_6]) ?_
    refine lv_aload_n hx hb dL_law_266 rfl (lv_at hl 5 rfl) ?_
    refine lv_iload hx hb dL_law_267 (lv_at hl 1 rfl) ?_
    refine lv_iconst (v := 3) hx hb dL_law_269 (by decide) ?_
    refine lv_iadd hx hb dL_law_270 ?_
    refine W.eq (g2 := F0 m 271 ls [.int x_7, .ref b, .int x_6, .int x_3, .ref m0]) (by rw [ex_7]) ?_
    refine va_sld hx hb hX hbl hbA hS vi_8 dL_law_271 ?_
    refine W.eq (g2 := F0 m 272 ls [.int x_9, .int x_6, .int x_3, .ref m0]) (by rw [ex_9]) ?_
    refine va_callv (rnV (fun H => MH E m0 rf t0 t1 t2 A cd pk H) (As := [.int x_3, .int x_6, .int x_9]) (rest := []) ⟨hx, hb, hml, hown, hts⟩ (u_X10_store l E s.heap.size Gm hGzm m0 rf hR t0 t1 t2 A cd pk x_3 x_6 x_9) (cwV 3 hts (gdV ml_L_63 im_X10_store se_X10_X10_store in_X10 co_X10_store rfl) rfl rfl rfl (by decide +kernel) ⟨Nat.le_of_ble_eq_true rfl, Nat.le_of_ble_eq_true rfl⟩) hM (fun U hU hW => hK.go hW hS hAz hU) (va_recv hK.1 (va_one hM.1) (ci := 10) (q0 := 0) rfl rfl) rfl rfl hl.1 rfl (lv_room (Nat.le_of_ble_eq_true rfl)) dL_law_272 ⟨hC2, hS2⟩) hS (fun q _ h => hGzm q h) (fun q h => hGzm q h) (fun ur_11 t H locs ht hvm hwr_11 hB hz hk hS => ?_)
    have hM : MH E m0 rf t0 t1 t2 (uA A 4 (ur_11.1)) ur_11.2 pk H := by rw [ht] at hB; exact hB
    have hDr_11 : D_X10_store A cd pk x_3 x_6 x_9 (uA A 4 (ur_11.1)) (ur_11.2) pk := hwr_11.2.2
    have hpr_11_0 : True := hwr_11.1
    have hpr_11_1 : ur_11.2 = if (0 ≤ x_3.toInt ∧ x_3.toInt < 2 ∧ 0 ≤ x_6.toInt ∧ x_6.toInt < 32) then 0 else 1 := hwr_11.2.1
    have hT := hT.other hd2 hk
    have hro := hro.kept (hk _ hro.lt (fun h => h hGmo))
    obtain ⟨A_12, cd_12, pk_12, hM, hD, hV2⟩ : ∃ (A2 : AA) (cd2 pk2 : Int32), MH E m0 rf t0 t1 t2 A2 cd2 pk2 H ∧ D_X10_store A cd pk x_3 x_6 x_9 A2 cd2 pk2 ∧ RIV A2 pk2 := ⟨_, _, _, hM, hDr_11, ⟨⟨hI2, hI3, hI4, hI5, hI6, hI7, hI8⟩, hpk⟩⟩
    have hs_12 := s_store hSIM hV hC hD
    obtain ⟨hSIM, ep_12, hcd⟩ := hs_12
    rw [← ep_12] at hSIM
    have hV := hV2
    refine lv_goto (tgt := 971) hx hb dL_law_275 (by decide) ?_
    refine W.widen (k := C + 2) (n := S + 12) (by omega) (by omega) ?_
    exact key _ _ _ ⟨Z_10, R, A_12, cd_12, pk_12, hT, hW, hM, hSIM, hV, ⟨_, hro⟩, hS⟩ (lv_sub hl [1, 2, 3, 4, 5] rfl)
  · have eB : Z_10 = B := eB
    rw [eB] at hT
    have hC : X_X9_store Gc B R x0 x_3 x_6 x_9 IAE := hC
    refine lv_istore (lv' := [(5, .int 1), (4, .int (nI i)), (3, .ref o0), (2, .ref m0), (1, .ref x0), (0, .ref b)]) hx hb dL_law_251 hl (by decide) rfl (fun ls hl => ?_)
    refine lv_aload_n hx hb dL_law_253 rfl (lv_at hl 3 rfl) ?_
    refine lv_aload_n hx hb dL_law_254 rfl (lv_at hl 5 rfl) ?_
    refine lv_iload hx hb dL_law_255 (lv_at hl 1 rfl) ?_
    refine lv_iconst (v := 1) hx hb dL_law_257 (by decide) ?_
    refine lv_iadd hx hb dL_law_258 ?_
    refine W.eq (g2 := F0 m 259 ls [.int x_1, .ref b, .ref m0]) (by rw [ex_1]) ?_
    refine va_sld hx hb hX hbl hbA hS vi_2 dL_law_259 ?_
    refine W.eq (g2 := F0 m 260 ls [.int x_3, .ref m0]) (by rw [ex_3]) ?_
    refine lv_aload_n hx hb dL_law_260 rfl (lv_at hl 5 rfl) ?_
    refine lv_iload hx hb dL_law_261 (lv_at hl 1 rfl) ?_
    refine lv_iconst (v := 2) hx hb dL_law_263 (by decide) ?_
    refine lv_iadd hx hb dL_law_264 ?_
    refine W.eq (g2 := F0 m 265 ls [.int x_4, .ref b, .int x_3, .ref m0]) (by rw [ex_4]) ?_
    refine va_sld hx hb hX hbl hbA hS vi_5 dL_law_265 ?_
    refine W.eq (g2 := F0 m 266 ls [.int x_6, .int x_3, .ref m0]) (by rw [ex_6]) ?_
    refine lv_aload_n hx hb dL_law_266 rfl (lv_at hl 5 rfl) ?_
    refine lv_iload hx hb dL_law_267 (lv_at hl 1 rfl) ?_
    refine lv_iconst (v := 3) hx hb dL_law_269 (by decide) ?_
    refine lv_iadd hx hb dL_law_270 ?_
    refine W.eq (g2 := F0 m 271 ls [.int x_7, .ref b, .int x_6, .int x_3, .ref m0]) (by rw [ex_7]) ?_
    refine va_sld hx hb hX hbl hbA hS vi_8 dL_law_271 ?_
    refine W.eq (g2 := F0 m 272 ls [.int x_9, .int x_6, .int x_3, .ref m0]) (by rw [ex_9]) ?_
    refine va_callv (rnV (fun H => MH E m0 rf t0 t1 t2 A cd pk H) (As := [.int x_3, .int x_6, .int x_9]) (rest := []) ⟨hx, hb, hml, hown, hts⟩ (u_X10_store l E s.heap.size Gm hGzm m0 rf hR t0 t1 t2 A cd pk x_3 x_6 x_9) (cwV 3 hts (gdV ml_L_63 im_X10_store se_X10_X10_store in_X10 co_X10_store rfl) rfl rfl rfl (by decide +kernel) ⟨Nat.le_of_ble_eq_true rfl, Nat.le_of_ble_eq_true rfl⟩) hM (fun U hU hW => hK.go hW hS hAz hU) (va_recv hK.1 (va_one hM.1) (ci := 10) (q0 := 0) rfl rfl) rfl rfl hl.1 rfl (lv_room (Nat.le_of_ble_eq_true rfl)) dL_law_272 ⟨hC2, hS2⟩) hS (fun q _ h => hGzm q h) (fun q h => hGzm q h) (fun ur_13 t H locs ht hvm hwr_13 hB hz hk hS => ?_)
    have hM : MH E m0 rf t0 t1 t2 (uA A 4 (ur_13.1)) ur_13.2 pk H := by rw [ht] at hB; exact hB
    have hDr_13 : D_X10_store A cd pk x_3 x_6 x_9 (uA A 4 (ur_13.1)) (ur_13.2) pk := hwr_13.2.2
    have hpr_13_0 : True := hwr_13.1
    have hpr_13_1 : ur_13.2 = if (0 ≤ x_3.toInt ∧ x_3.toInt < 2 ∧ 0 ≤ x_6.toInt ∧ x_6.toInt < 32) then 0 else 1 := hwr_13.2.1
    have hT := hT.other hd2 hk
    have hro := hro.kept (hk _ hro.lt (fun h => h hGmo))
    obtain ⟨A_14, cd_14, pk_14, hM, hD, hV2⟩ : ∃ (A2 : AA) (cd2 pk2 : Int32), MH E m0 rf t0 t1 t2 A2 cd2 pk2 H ∧ D_X10_store A cd pk x_3 x_6 x_9 A2 cd2 pk2 ∧ RIV A2 pk2 := ⟨_, _, _, hM, hDr_13, ⟨⟨hI2, hI3, hI4, hI5, hI6, hI7, hI8⟩, hpk⟩⟩
    obtain ⟨hSIM, ep_14, hE_14⟩ := sx_store hSIM hC hD
    rw [← ep_14] at hSIM
    have hcd := hE_14.1
    have hV := hV2
    refine lv_goto (tgt := 971) hx hb dL_law_275 (by decide) ?_
    refine W.widen (k := C + 2) (n := S + 12) (by omega) (by omega) ?_
    exact key _ _ _ ⟨B, R, A_14, cd_14, pk_14, hT, hW, hM, hSIM, hV, ⟨_, hro⟩, hS⟩ (lv_sub hl [1, 2, 3, 4, 5] rfl)
set_option maxHeartbeats 8000000 in
set_option maxRecDepth 100000 in
theorem lk_2 {p : Program} {l : Launch} {e : Env} {s : State} {m : MethodId} {below : List Frame} {meth : Method} {c : Code} {b L i C S : Nat} {xs : Nat → Int32} {E : EE} {Gc Gm : Nat → Nat} {x0 m0 o0 : Nat} {rf : Nat → Nat} {t0 t1 t2 : Int32} {H : Heap} {locs : List Loc} {ls : Array Slot} (hst : l.stackTraces = false) (C0 : lw_At p s m meth c b L xs) (hLB : L ≤ 3587) (hK : KS E s.heap.size s) (hN : NC s) (F9 : LF s Gc Gm x0 m0 o0 rf t0) (hi : i + 7 ≤ L) (hC : C + 2 ≤ 621377) (hSl : S + 12 ≤ 7231939) (hI : LI E s Gc x0 m0 o0 rf t0 t1 t2 H locs) (hl : lv_has ls 7 [(4, .int (nI i)), (3, .ref o0), (2, .ref m0), (1, .ref x0), (0, .ref b)]) (key : ∀ (H : Heap) (locs : List Loc) (ls : Array Slot), LI E s Gc x0 m0 o0 rf t0 t1 t2 H locs → lv_has ls 7 [(4, .int (nI i)), (3, .ref o0), (2, .ref m0), (1, .ref x0), (0, .ref b)] → W p l e room_1 s m #[Value.ref b] below meth c H locs (C + 2) (S + 12) (lw_Z below #[Value.ref b] s) (F0 m 971 ls [])) : W p l e room_1 s m #[Value.ref b] below meth c H locs C S (lw_Z below #[Value.ref b] s) (F0 m 278 ls []) := by
  obtain ⟨hx, hb, hr, hml, hown, hts0, hX, hbl, hlocks, hgv⟩ := id C0
  obtain ⟨hxc, hR, hGzc, hGzm, hd, hGco, hGmo, hoz, h2t⟩ := F9
  have hd2 : ∀ a, Gc a ≠ 0 → Gm a = 0 := fun a h => Decidable.byContradiction fun q => h (hd a q)
  have hts : ∀ w ∈ TS, w.before #[Value.ref b] s = true := fun w hw => hts0 w (List.mem_filter.mp hw).1
  have hbA : ¬ (fun q : Nat => s.heap.size ≤ q) b := Nat.not_le.mpr hbl
  have hAz : ∀ q, (fun q : Nat => s.heap.size ≤ q) q → s.heap.size ≤ q := fun q h => h
  have hC0 : C + 0 ≤ room_1.cells := (show C + 0 ≤ 621377 by omega)
  have hS0 : S + 0 ≤ room_1.slots := (show S + 0 ≤ 7231939 by omega)
  have hC2 : C + 2 ≤ room_1.cells := (show C + 2 ≤ 621377 by omega)
  have hS2 : S + 12 ≤ room_1.slots := (show S + 12 ≤ 7231939 by omega)
  have hiI : (nI i).toInt = (i : Int) := nI_toInt (by omega)
  obtain ⟨B, R, A, cd, pk, hT, hW, hM, hSIM, hV, ⟨fo, hro⟩, hS⟩ := hI
  obtain ⟨hI2, hI3, hI4, hI5, hI6, hI7, hI8, hpk⟩ := hV.c3
  refine lv_aload_n hx hb dL_law_278 rfl (lv_at hl 3 rfl) ?_
  refine lv_aload_n hx hb dL_law_279 rfl (lv_at hl 4 rfl) ?_
  refine lv_iload hx hb dL_law_280 (lv_at hl 0 rfl) ?_
  refine lv_iconst (v := 1) hx hb dL_law_282 (by decide) ?_
  refine lv_iadd hx hb dL_law_283 ?_
  refine lv_topi (fun x_1 ex_1 => ?_)
  have fx_1 : x_1.toInt = (i : Int) + 1 := by have h9 := s_add (x := nI i) (y := 1) (by rw [hiI, i_1]; omega) (by rw [hiI, i_1]; omega); rw [hiI, i_1] at h9; rw [ex_1]; exact h9
  have vi_2 : vp_in x_1 L := vp_in_iff.mpr (by omega)
  refine va_sld hx hb hX hbl hbA hS vi_2 dL_law_284 ?_
  refine lv_topi (fun x_3 ex_3 => ?_)
  refine lv_aload_n hx hb dL_law_285 rfl (lv_at hl 4 rfl) ?_
  refine lv_iload hx hb dL_law_286 (lv_at hl 0 rfl) ?_
  refine lv_iconst (v := 2) hx hb dL_law_288 (by decide) ?_
  refine lv_iadd hx hb dL_law_289 ?_
  refine lv_topi (fun x_4 ex_4 => ?_)
  have fx_4 : x_4.toInt = (i : Int) + 2 := by have h9 := s_add (x := nI i) (y := 2) (by rw [hiI, i_2]; omega) (by rw [hiI, i_2]; omega); rw [hiI, i_2] at h9; rw [ex_4]; exact h9
  have vi_5 : vp_in x_4 L := vp_in_iff.mpr (by omega)
  refine va_sld hx hb hX hbl hbA hS vi_5 dL_law_290 ?_
  refine lv_topi (fun x_6 ex_6 => ?_)
  have ha_7 := tx_1 hT hxc
  refine va_calli (rnV (fun H => TX E Gc B R H) (As := [.int x_3, .int x_6]) (rest := []) ⟨hx, hb, hml, hown, hts⟩ (x_X9_cell l E s.heap.size Gc hGzc B R hW x0 x_3 x_6 hxc) (cwV 2 hts (gdV ml_L_64 im_X9_cell se_X9_X9_cell in_X9 co_X9_cell rfl) rfl rfl rfl (by decide +kernel) ⟨Nat.le_of_ble_eq_true rfl, Nat.le_of_ble_eq_true rfl⟩) hT (fun U hU hW => hK.go hW hS hAz hU) (va_recv hK.1 (va_one ha_7) (ci := 9) (q0 := 0) rfl rfl) rfl rfl hl.1 rfl (lv_room (Nat.le_of_ble_eq_true rfl)) dL_law_291 ⟨hC0, hS0⟩) hS (fun q _ h => h.elim) (fun q h => h.elim) (fun r_7 u_7 t H locs ht9 hvm hwr_7 hB hz hk hS => ?_)
  have hT := hT.kept (fun q hq => hk q hq (fun h => h))
  have hM := hM.kept (fun q hq => hk q hq (fun h => h))
  have hro := hro.kept (hk _ hro.lt (fun h => h))
  have hC : C_X9_cell Gc B R x0 x_3 x_6 r_7 := hwr_7
  refine lv_pop hx hb dL_law_294 rfl ?_
  refine lv_aload_n hx hb dL_law_295 rfl (lv_at hl 2 rfl) ?_
  refine lv_aload_n hx hb dL_law_296 rfl (lv_at hl 4 rfl) ?_
  refine lv_iload hx hb dL_law_297 (lv_at hl 0 rfl) ?_
  refine lv_iconst (v := 1) hx hb dL_law_299 (by decide) ?_
  refine lv_iadd hx hb dL_law_300 ?_
  refine W.eq (g2 := F0 m 301 ls [.int x_1, .ref b, .ref m0]) (by rw [ex_1]) ?_
  refine va_sld hx hb hX hbl hbA hS vi_2 dL_law_301 ?_
  refine W.eq (g2 := F0 m 302 ls [.int x_3, .ref m0]) (by rw [ex_3]) ?_
  refine lv_aload_n hx hb dL_law_302 rfl (lv_at hl 4 rfl) ?_
  refine lv_iload hx hb dL_law_303 (lv_at hl 0 rfl) ?_
  refine lv_iconst (v := 2) hx hb dL_law_305 (by decide) ?_
  refine lv_iadd hx hb dL_law_306 ?_
  refine W.eq (g2 := F0 m 307 ls [.int x_4, .ref b, .int x_3, .ref m0]) (by rw [ex_4]) ?_
  refine va_sld hx hb hX hbl hbA hS vi_5 dL_law_307 ?_
  refine W.eq (g2 := F0 m 308 ls [.int x_6, .int x_3, .ref m0]) (by rw [ex_6]) ?_
  refine va_calli (rnV (fun H => MH E m0 rf t0 t1 t2 A cd pk H) (As := [.int x_3, .int x_6]) (rest := []) ⟨hx, hb, hml, hown, hts⟩ (u_X10_cell l E s.heap.size Gm hGzm m0 rf hR t0 t1 t2 A cd pk x_3 x_6) (cwV 2 hts (gdV ml_L_66 im_X10_cell se_X10_X10_cell in_X10 co_X10_cell rfl) rfl rfl rfl (by decide +kernel) ⟨Nat.le_of_ble_eq_true rfl, Nat.le_of_ble_eq_true rfl⟩) hM (fun U hU hW => hK.go hW hS hAz hU) (va_recv hK.1 (va_one hM.1) (ci := 10) (q0 := 0) rfl rfl) rfl rfl hl.1 rfl (lv_room (Nat.le_of_ble_eq_true rfl)) dL_law_308 ⟨hC0, hS0⟩) hS (fun q _ h => hGzm q h) (fun q h => hGzm q h) (fun r_8 ur_8 t H locs ht hvm hwr_8 hB hz hk hS => ?_)
  have hM : MH E m0 rf t0 t1 t2 A ur_8 pk H := by rw [ht] at hB; exact hB
  have hDr_8 : D_X10_cell A cd pk x_3 x_6 A ur_8 pk r_8 := hwr_8
  have hT := hT.other hd2 hk
  have hro := hro.kept (hk _ hro.lt (fun h => h hGmo))
  have er_9 := (s_cell hSIM hC hDr_8).1
  obtain rfl := er_9
  refine lv_pop hx hb dL_law_311 rfl ?_
  refine lv_goto (tgt := 971) hx hb dL_law_312 (by decide) ?_
  refine W.widen (k := C + 2) (n := S + 12) (by omega) (by omega) ?_
  exact key _ _ _ ⟨B, R, A, ur_8, pk, hT, hW, hM, hSIM, hV, ⟨_, hro⟩, hS⟩ (lv_sub hl [0, 1, 2, 3, 4] rfl)
set_option maxHeartbeats 8000000 in
set_option maxRecDepth 100000 in
theorem lk_3 {p : Program} {l : Launch} {e : Env} {s : State} {m : MethodId} {below : List Frame} {meth : Method} {c : Code} {b L i C S : Nat} {xs : Nat → Int32} {E : EE} {Gc Gm : Nat → Nat} {x0 m0 o0 : Nat} {rf : Nat → Nat} {t0 t1 t2 : Int32} {H : Heap} {locs : List Loc} {ls : Array Slot} (hst : l.stackTraces = false) (C0 : lw_At p s m meth c b L xs) (hLB : L ≤ 3587) (hK : KS E s.heap.size s) (hN : NC s) (F9 : LF s Gc Gm x0 m0 o0 rf t0) (hi : i + 7 ≤ L) (hC : C + 2 ≤ 621377) (hSl : S + 12 ≤ 7231939) (hI : LI E s Gc x0 m0 o0 rf t0 t1 t2 H locs) (hl : lv_has ls 7 [(4, .int (nI i)), (3, .ref o0), (2, .ref m0), (1, .ref x0), (0, .ref b)]) (key : ∀ (H : Heap) (locs : List Loc) (ls : Array Slot), LI E s Gc x0 m0 o0 rf t0 t1 t2 H locs → lv_has ls 7 [(4, .int (nI i)), (3, .ref o0), (2, .ref m0), (1, .ref x0), (0, .ref b)] → W p l e room_1 s m #[Value.ref b] below meth c H locs (C + 2) (S + 12) (lw_Z below #[Value.ref b] s) (F0 m 971 ls [])) : W p l e room_1 s m #[Value.ref b] below meth c H locs C S (lw_Z below #[Value.ref b] s) (F0 m 315 ls []) := by
  obtain ⟨hx, hb, hr, hml, hown, hts0, hX, hbl, hlocks, hgv⟩ := id C0
  obtain ⟨hxc, hR, hGzc, hGzm, hd, hGco, hGmo, hoz, h2t⟩ := F9
  have hd2 : ∀ a, Gc a ≠ 0 → Gm a = 0 := fun a h => Decidable.byContradiction fun q => h (hd a q)
  have hts : ∀ w ∈ TS, w.before #[Value.ref b] s = true := fun w hw => hts0 w (List.mem_filter.mp hw).1
  have hbA : ¬ (fun q : Nat => s.heap.size ≤ q) b := Nat.not_le.mpr hbl
  have hAz : ∀ q, (fun q : Nat => s.heap.size ≤ q) q → s.heap.size ≤ q := fun q h => h
  have hC0 : C + 0 ≤ room_1.cells := (show C + 0 ≤ 621377 by omega)
  have hS0 : S + 0 ≤ room_1.slots := (show S + 0 ≤ 7231939 by omega)
  have hC2 : C + 2 ≤ room_1.cells := (show C + 2 ≤ 621377 by omega)
  have hS2 : S + 12 ≤ room_1.slots := (show S + 12 ≤ 7231939 by omega)
  have hiI : (nI i).toInt = (i : Int) := nI_toInt (by omega)
  obtain ⟨B, R, A, cd, pk, hT, hW, hM, hSIM, hV, ⟨fo, hro⟩, hS⟩ := hI
  obtain ⟨hI2, hI3, hI4, hI5, hI6, hI7, hI8, hpk⟩ := hV.c3
  refine lv_aload_n hx hb dL_law_315 rfl (lv_at hl 3 rfl) ?_
  refine lv_aload_n hx hb dL_law_316 rfl (lv_at hl 4 rfl) ?_
  refine lv_iload hx hb dL_law_317 (lv_at hl 0 rfl) ?_
  refine lv_iconst (v := 1) hx hb dL_law_319 (by decide) ?_
  refine lv_iadd hx hb dL_law_320 ?_
  refine lv_topi (fun x_1 ex_1 => ?_)
  have fx_1 : x_1.toInt = (i : Int) + 1 := by have h9 := s_add (x := nI i) (y := 1) (by rw [hiI, i_1]; omega) (by rw [hiI, i_1]; omega); rw [hiI, i_1] at h9; rw [ex_1]; exact h9
  have vi_2 : vp_in x_1 L := vp_in_iff.mpr (by omega)
  refine va_sld hx hb hX hbl hbA hS vi_2 dL_law_321 ?_
  refine lv_topi (fun x_3 ex_3 => ?_)
  refine lv_aload_n hx hb dL_law_322 rfl (lv_at hl 4 rfl) ?_
  refine lv_iload hx hb dL_law_323 (lv_at hl 0 rfl) ?_
  refine lv_iconst (v := 2) hx hb dL_law_325 (by decide) ?_
  refine lv_iadd hx hb dL_law_326 ?_
  refine lv_topi (fun x_4 ex_4 => ?_)
  have fx_4 : x_4.toInt = (i : Int) + 2 := by have h9 := s_add (x := nI i) (y := 2) (by rw [hiI, i_2]; omega) (by rw [hiI, i_2]; omega); rw [hiI, i_2] at h9; rw [ex_4]; exact h9
  have vi_5 : vp_in x_4 L := vp_in_iff.mpr (by omega)
  refine va_sld hx hb hX hbl hbA hS vi_5 dL_law_327 ?_
  refine lv_topi (fun x_6 ex_6 => ?_)
  refine lv_aload_n hx hb dL_law_328 rfl (lv_at hl 4 rfl) ?_
  refine lv_iload hx hb dL_law_329 (lv_at hl 0 rfl) ?_
  refine lv_iconst (v := 3) hx hb dL_law_331 (by decide) ?_
  refine lv_iadd hx hb dL_law_332 ?_
  refine lv_topi (fun x_7 ex_7 => ?_)
  have fx_7 : x_7.toInt = (i : Int) + 3 := by have h9 := s_add (x := nI i) (y := 3) (by rw [hiI, i_3]; omega) (by rw [hiI, i_3]; omega); rw [hiI, i_3] at h9; rw [ex_7]; exact h9
  have vi_8 : vp_in x_7 L := vp_in_iff.mpr (by omega)
  refine va_sld hx hb hX hbl hbA hS vi_8 dL_law_333 ?_
  refine lv_topi (fun x_9 ex_9 => ?_)
  refine va_calli (vx_runSW (hh := [(0, 7, 10, 13), (0, 7, 14, 22)]) (As := [.ref x0, .int x_3, .int x_6, .int x_9]) (rest := []) ⟨hx, hb, hml, hown, hts⟩ (w_L_ready l hst E s.heap.size Gc hGzc B R hW x0 x_3 x_6 x_9 hxc) (vx_cwSW 4 hts (gdW ml_L_67 st_L_ready in_L co_L_ready rfl) rfl rfl rfl (by decide +kernel) ⟨Nat.le_of_ble_eq_true rfl, Nat.le_of_ble_eq_true rfl⟩) ⟨fun a U g mk q => ⟨q.1, q.2.1, KS.calling q.2.2.1, NC.vm q.2.2.2 rfl⟩, fun U hU hW => ⟨rfl, by rw [hU]; exact hT, hK.go hW hS hAz hU, hN.go hW⟩⟩ rfl rfl hl.1 rfl (lv_room (Nat.le_of_ble_eq_true rfl)) dL_law_334 ⟨hC2, hS2⟩) hS (fun q _ h => hGzc q (zn (L := [8, 9, 10]) (by decide) h)) (fun q h => hGzc q (zn (L := [8, 9, 10]) (by decide) h)) (fun r_10 u_10 t H locs ht9 hvm hwr_10 hB hz hk hS => ?_)
  rw [ht9] at hB
  obtain ⟨Z_10, y_10⟩ := u_10
  have hT := hB
  have hM := hM.away hR (fun q hq hg => hk q hq (fun h => zn (L := [8, 9, 10]) (by decide) h (hd q hg)))
  have hro := hro.kept (hk _ hro.lt (fun h => zn (L := [8, 9, 10]) (by decide) h hGco))
  have hT : TX E Gc Z_10 R H := hT
  rcases hwr_10 with ⟨rfl, hW2, hF2, hC⟩ | ⟨rfl, eB, hC⟩ | ⟨rfl, eB, hC⟩
  · have hW : TW Gc Z_10 R := hW2
    have hC : C_X9_ready Gc B R x0 x_3 x_6 x_9 Z_10 := hC
    refine lv_istore (lv' := [(5, .int 0), (4, .int (nI i)), (3, .ref o0), (2, .ref m0), (1, .ref x0), (0, .ref b)]) hx hb dL_law_337 hl (by decide) rfl (fun ls hl => ?_)
    refine lv_aload_n hx hb dL_law_339 rfl (lv_at hl 3 rfl) ?_
    refine lv_aload_n hx hb dL_law_340 rfl (lv_at hl 5 rfl) ?_
    refine lv_iload hx hb dL_law_341 (lv_at hl 1 rfl) ?_
    refine lv_iconst (v := 1) hx hb dL_law_343 (by decide) ?_
    refine lv_iadd hx hb dL_law_344 ?_
    refine W.eq (g2 := F0 m 345 ls [.int x_1, .ref b, .ref m0]) (by rw [ex_1]) ?_
    refine va_sld hx hb hX hbl hbA hS vi_2 dL_law_345 ?_
    refine W.eq (g2 := F0 m 346 ls [.int x_3, .ref m0]) (by rw [ex_3]) ?_
    refine lv_aload_n hx hb dL_law_346 rfl (lv_at hl 5 rfl) ?_
    refine lv_iload hx hb dL_law_347 (lv_at hl 1 rfl) ?_
    refine lv_iconst (v := 2) hx hb dL_law_349 (by decide) ?_
    refine lv_iadd hx hb dL_law_350 ?_
    refine W.eq (g2 := F0 m 351 ls [.int x_4, .ref b, .int x_3, .ref m0]) (by rw [ex_4]) ?_
    refine va_sld hx hb hX hbl hbA hS vi_5 dL_law_351 ?_
    refine W.eq (g2 := F0 m 352 ls [.int x_6, .int x_3, .ref m0]) (by rw [ex_6]) ?_
    refine lv_aload_n hx hb dL_law_352 rfl (lv_at hl 5 rfl) ?_
    refine lv_iload hx hb dL_law_353 (lv_at hl 1 rfl) ?_
    refine lv_iconst (v := 3) hx hb dL_law_355 (by decide) ?_
    refine lv_iadd hx hb dL_law_356 ?_
    refine W.eq (g2 := F0 m 357 ls [.int x_7, .ref b, .int x_6, .int x_3, .ref m0]) (by rw [ex_7]) ?_
    refine va_sld hx hb hX hbl hbA hS vi_8 dL_law_357 ?_
    refine W.eq (g2 := F0 m 358 ls [.int x_9, .int x_6, .int x_3, .ref m0]) (by rw [ex_9]) ?_
    refine va_callv (rnV (fun H => MH E m0 rf t0 t1 t2 A cd pk H) (As := [.int x_3, .int x_6, .int x_9]) (rest := []) ⟨hx, hb, hml, hown, hts⟩ (u_X10_ready l E s.heap.size Gm hGzm m0 rf hR t0 t1 t2 A cd pk x_3 x_6 x_9 hI4) (cwV 3 hts (gdV ml_L_69 im_X10_ready se_X10_X10_ready in_X10 co_X10_ready rfl) rfl rfl rfl (by decide +kernel) ⟨Nat.le_of_ble_eq_true rfl, Nat.le_of_ble_eq_true rfl⟩) hM (fun U hU hW => hK.go hW hS hAz hU) (va_recv hK.1 (va_one hM.1) (ci := 10) (q0 := 0) rfl rfl) rfl rfl hl.1 rfl (lv_room (Nat.le_of_ble_eq_true rfl)) dL_law_358 ⟨hC2, hS2⟩) hS (fun q _ h => hGzm q h) (fun q h => hGzm q h) (fun ur_11 t H locs ht hvm hwr_11 hB hz hk hS => ?_)
    have hM : MH E m0 rf t0 t1 t2 (uA (uA (uA (uA (uA A 10 (ur_11.1)) 11 (ur_11.2.1)) 12 (ur_11.2.2.1)) 13 (ur_11.2.2.2.1)) 14 (ur_11.2.2.2.2.1)) ur_11.2.2.2.2.2 pk H := by rw [ht] at hB; exact hB
    have hDr_11 : D_X10_ready A cd pk x_3 x_6 x_9 (uA (uA (uA (uA (uA A 10 (ur_11.1)) 11 (ur_11.2.1)) 12 (ur_11.2.2.1)) 13 (ur_11.2.2.2.1)) 14 (ur_11.2.2.2.2.1)) (ur_11.2.2.2.2.2) pk := hwr_11.2
    have hpr_11_0 : I4 (ur_11.1) (A 20) (A 29) (A 24) (ur_11.2.1) (ur_11.2.2.1) (ur_11.2.2.2.1) := hwr_11.1
    have hT := hT.other hd2 hk
    have hro := hro.kept (hk _ hro.lt (fun h => h hGmo))
    obtain ⟨A_12, cd_12, pk_12, hM, hD, hV2⟩ : ∃ (A2 : AA) (cd2 pk2 : Int32), MH E m0 rf t0 t1 t2 A2 cd2 pk2 H ∧ D_X10_ready A cd pk x_3 x_6 x_9 A2 cd2 pk2 ∧ RIV A2 pk2 := ⟨_, _, _, hM, hDr_11, ⟨⟨hI2, hI3, hpr_11_0, hI5, hI6, hI7, hI8⟩, hpk⟩⟩
    have hs_12 := s_readyC hSIM hV hC hD
    obtain ⟨hSIM, ep_12, hcd⟩ := hs_12
    rw [← ep_12] at hSIM
    have hV := hV2
    refine lv_goto (tgt := 971) hx hb dL_law_361 (by decide) ?_
    refine W.widen (k := C + 2) (n := S + 12) (by omega) (by omega) ?_
    exact key _ _ _ ⟨Z_10, R, A_12, cd_12, pk_12, hT, hW, hM, hSIM, hV, ⟨_, hro⟩, hS⟩ (lv_sub hl [1, 2, 3, 4, 5] rfl)
  · have eB : Z_10 = B := eB
    rw [eB] at hT
    have hC : X_X9_ready Gc B R x0 x_3 x_6 x_9 IAE := hC
    refine lv_istore (lv' := [(5, .int 1), (4, .int (nI i)), (3, .ref o0), (2, .ref m0), (1, .ref x0), (0, .ref b)]) hx hb dL_law_337 hl (by decide) rfl (fun ls hl => ?_)
    refine lv_aload_n hx hb dL_law_339 rfl (lv_at hl 3 rfl) ?_
    refine lv_aload_n hx hb dL_law_340 rfl (lv_at hl 5 rfl) ?_
    refine lv_iload hx hb dL_law_341 (lv_at hl 1 rfl) ?_
    refine lv_iconst (v := 1) hx hb dL_law_343 (by decide) ?_
    refine lv_iadd hx hb dL_law_344 ?_
    refine W.eq (g2 := F0 m 345 ls [.int x_1, .ref b, .ref m0]) (by rw [ex_1]) ?_
    refine va_sld hx hb hX hbl hbA hS vi_2 dL_law_345 ?_
    refine W.eq (g2 := F0 m 346 ls [.int x_3, .ref m0]) (by rw [ex_3]) ?_
    refine lv_aload_n hx hb dL_law_346 rfl (lv_at hl 5 rfl) ?_
    refine lv_iload hx hb dL_law_347 (lv_at hl 1 rfl) ?_
    refine lv_iconst (v := 2) hx hb dL_law_349 (by decide) ?_
    refine lv_iadd hx hb dL_law_350 ?_
    refine W.eq (g2 := F0 m 351 ls [.int x_4, .ref b, .int x_3, .ref m0]) (by rw [ex_4]) ?_
    refine va_sld hx hb hX hbl hbA hS vi_5 dL_law_351 ?_
    refine W.eq (g2 := F0 m 352 ls [.int x_6, .int x_3, .ref m0]) (by rw [ex_6]) ?_
    refine lv_aload_n hx hb dL_law_352 rfl (lv_at hl 5 rfl) ?_
    refine lv_iload hx hb dL_law_353 (lv_at hl 1 rfl) ?_
    refine lv_iconst (v := 3) hx hb dL_law_355 (by decide) ?_
    refine lv_iadd hx hb dL_law_356 ?_
    refine W.eq (g2 := F0 m 357 ls [.int x_7, .ref b, .int x_6, .int x_3, .ref m0]) (by rw [ex_7]) ?_
    refine va_sld hx hb hX hbl hbA hS vi_8 dL_law_357 ?_
    refine W.eq (g2 := F0 m 358 ls [.int x_9, .int x_6, .int x_3, .ref m0]) (by rw [ex_9]) ?_
    refine va_callv (rnV (fun H => MH E m0 rf t0 t1 t2 A cd pk H) (As := [.int x_3, .int x_6, .int x_9]) (rest := []) ⟨hx, hb, hml, hown, hts⟩ (u_X10_ready l E s.heap.size Gm hGzm m0 rf hR t0 t1 t2 A cd pk x_3 x_6 x_9 hI4) (cwV 3 hts (gdV ml_L_69 im_X10_ready se_X10_X10_ready in_X10 co_X10_ready rfl) rfl rfl rfl (by decide +kernel) ⟨Nat.le_of_ble_eq_true rfl, Nat.le_of_ble_eq_true rfl⟩) hM (fun U hU hW => hK.go hW hS hAz hU) (va_recv hK.1 (va_one hM.1) (ci := 10) (q0 := 0) rfl rfl) rfl rfl hl.1 rfl (lv_room (Nat.le_of_ble_eq_true rfl)) dL_law_358 ⟨hC2, hS2⟩) hS (fun q _ h => hGzm q h) (fun q h => hGzm q h) (fun ur_13 t H locs ht hvm hwr_13 hB hz hk hS => ?_)
    have hM : MH E m0 rf t0 t1 t2 (uA (uA (uA (uA (uA A 10 (ur_13.1)) 11 (ur_13.2.1)) 12 (ur_13.2.2.1)) 13 (ur_13.2.2.2.1)) 14 (ur_13.2.2.2.2.1)) ur_13.2.2.2.2.2 pk H := by rw [ht] at hB; exact hB
    have hDr_13 : D_X10_ready A cd pk x_3 x_6 x_9 (uA (uA (uA (uA (uA A 10 (ur_13.1)) 11 (ur_13.2.1)) 12 (ur_13.2.2.1)) 13 (ur_13.2.2.2.1)) 14 (ur_13.2.2.2.2.1)) (ur_13.2.2.2.2.2) pk := hwr_13.2
    have hpr_13_0 : I4 (ur_13.1) (A 20) (A 29) (A 24) (ur_13.2.1) (ur_13.2.2.1) (ur_13.2.2.2.1) := hwr_13.1
    have hT := hT.other hd2 hk
    have hro := hro.kept (hk _ hro.lt (fun h => h hGmo))
    obtain ⟨A_14, cd_14, pk_14, hM, hD, hV2⟩ : ∃ (A2 : AA) (cd2 pk2 : Int32), MH E m0 rf t0 t1 t2 A2 cd2 pk2 H ∧ D_X10_ready A cd pk x_3 x_6 x_9 A2 cd2 pk2 ∧ RIV A2 pk2 := ⟨_, _, _, hM, hDr_13, ⟨⟨hI2, hI3, hpr_13_0, hI5, hI6, hI7, hI8⟩, hpk⟩⟩
    obtain ⟨hSIM, ep_14, hE_14⟩ := sx_readyC hSIM hC hD
    rw [← ep_14] at hSIM
    have hcd : cd_14 = 1 := hE_14.elim (fun h => h.2) (fun h => absurd h.1 (by decide))
    have hV := hV2
    refine lv_goto (tgt := 971) hx hb dL_law_361 (by decide) ?_
    refine W.widen (k := C + 2) (n := S + 12) (by omega) (by omega) ?_
    exact key _ _ _ ⟨B, R, A_14, cd_14, pk_14, hT, hW, hM, hSIM, hV, ⟨_, hro⟩, hS⟩ (lv_sub hl [1, 2, 3, 4, 5] rfl)
  · have eB : Z_10 = B := eB
    rw [eB] at hT
    have hC : X_X9_ready Gc B R x0 x_3 x_6 x_9 ISE := hC
    refine lv_istore (lv' := [(5, .int 2), (4, .int (nI i)), (3, .ref o0), (2, .ref m0), (1, .ref x0), (0, .ref b)]) hx hb dL_law_337 hl (by decide) rfl (fun ls hl => ?_)
    refine lv_aload_n hx hb dL_law_339 rfl (lv_at hl 3 rfl) ?_
    refine lv_aload_n hx hb dL_law_340 rfl (lv_at hl 5 rfl) ?_
    refine lv_iload hx hb dL_law_341 (lv_at hl 1 rfl) ?_
    refine lv_iconst (v := 1) hx hb dL_law_343 (by decide) ?_
    refine lv_iadd hx hb dL_law_344 ?_
    refine W.eq (g2 := F0 m 345 ls [.int x_1, .ref b, .ref m0]) (by rw [ex_1]) ?_
    refine va_sld hx hb hX hbl hbA hS vi_2 dL_law_345 ?_
    refine W.eq (g2 := F0 m 346 ls [.int x_3, .ref m0]) (by rw [ex_3]) ?_
    refine lv_aload_n hx hb dL_law_346 rfl (lv_at hl 5 rfl) ?_
    refine lv_iload hx hb dL_law_347 (lv_at hl 1 rfl) ?_
    refine lv_iconst (v := 2) hx hb dL_law_349 (by decide) ?_
    refine lv_iadd hx hb dL_law_350 ?_
    refine W.eq (g2 := F0 m 351 ls [.int x_4, .ref b, .int x_3, .ref m0]) (by rw [ex_4]) ?_
    refine va_sld hx hb hX hbl hbA hS vi_5 dL_law_351 ?_
    refine W.eq (g2 := F0 m 352 ls [.int x_6, .int x_3, .ref m0]) (by rw [ex_6]) ?_
    refine lv_aload_n hx hb dL_law_352 rfl (lv_at hl 5 rfl) ?_
    refine lv_iload hx hb dL_law_353 (lv_at hl 1 rfl) ?_
    refine lv_iconst (v := 3) hx hb dL_law_355 (by decide) ?_
    refine lv_iadd hx hb dL_law_356 ?_
    refine W.eq (g2 := F0 m 357 ls [.int x_7, .ref b, .int x_6, .int x_3, .ref m0]) (by rw [ex_7]) ?_
    refine va_sld hx hb hX hbl hbA hS vi_8 dL_law_357 ?_
    refine W.eq (g2 := F0 m 358 ls [.int x_9, .int x_6, .int x_3, .ref m0]) (by rw [ex_9]) ?_
    refine va_callv (rnV (fun H => MH E m0 rf t0 t1 t2 A cd pk H) (As := [.int x_3, .int x_6, .int x_9]) (rest := []) ⟨hx, hb, hml, hown, hts⟩ (u_X10_ready l E s.heap.size Gm hGzm m0 rf hR t0 t1 t2 A cd pk x_3 x_6 x_9 hI4) (cwV 3 hts (gdV ml_L_69 im_X10_ready se_X10_X10_ready in_X10 co_X10_ready rfl) rfl rfl rfl (by decide +kernel) ⟨Nat.le_of_ble_eq_true rfl, Nat.le_of_ble_eq_true rfl⟩) hM (fun U hU hW => hK.go hW hS hAz hU) (va_recv hK.1 (va_one hM.1) (ci := 10) (q0 := 0) rfl rfl) rfl rfl hl.1 rfl (lv_room (Nat.le_of_ble_eq_true rfl)) dL_law_358 ⟨hC2, hS2⟩) hS (fun q _ h => hGzm q h) (fun q h => hGzm q h) (fun ur_15 t H locs ht hvm hwr_15 hB hz hk hS => ?_)
    have hM : MH E m0 rf t0 t1 t2 (uA (uA (uA (uA (uA A 10 (ur_15.1)) 11 (ur_15.2.1)) 12 (ur_15.2.2.1)) 13 (ur_15.2.2.2.1)) 14 (ur_15.2.2.2.2.1)) ur_15.2.2.2.2.2 pk H := by rw [ht] at hB; exact hB
    have hDr_15 : D_X10_ready A cd pk x_3 x_6 x_9 (uA (uA (uA (uA (uA A 10 (ur_15.1)) 11 (ur_15.2.1)) 12 (ur_15.2.2.1)) 13 (ur_15.2.2.2.1)) 14 (ur_15.2.2.2.2.1)) (ur_15.2.2.2.2.2) pk := hwr_15.2
    have hpr_15_0 : I4 (ur_15.1) (A 20) (A 29) (A 24) (ur_15.2.1) (ur_15.2.2.1) (ur_15.2.2.2.1) := hwr_15.1
    have hT := hT.other hd2 hk
    have hro := hro.kept (hk _ hro.lt (fun h => h hGmo))
    obtain ⟨A_16, cd_16, pk_16, hM, hD, hV2⟩ : ∃ (A2 : AA) (cd2 pk2 : Int32), MH E m0 rf t0 t1 t2 A2 cd2 pk2 H ∧ D_X10_ready A cd pk x_3 x_6 x_9 A2 cd2 pk2 ∧ RIV A2 pk2 := ⟨_, _, _, hM, hDr_15, ⟨⟨hI2, hI3, hpr_15_0, hI5, hI6, hI7, hI8⟩, hpk⟩⟩
    obtain ⟨hSIM, ep_16, hE_16⟩ := sx_readyC hSIM hC hD
    rw [← ep_16] at hSIM
    have hcd : cd_16 = 2 := hE_16.elim (fun h => absurd h.1 (by decide)) (fun h => h.2)
    have hV := hV2
    refine lv_goto (tgt := 971) hx hb dL_law_361 (by decide) ?_
    refine W.widen (k := C + 2) (n := S + 12) (by omega) (by omega) ?_
    exact key _ _ _ ⟨B, R, A_16, cd_16, pk_16, hT, hW, hM, hSIM, hV, ⟨_, hro⟩, hS⟩ (lv_sub hl [1, 2, 3, 4, 5] rfl)
