theorem bit1 {m : Int32} (h : 0 ≤ m.toInt ∧ m.toInt ≤ 3) : ((m &&& 1).toInt = 0 ↔ ¬ (m - m / 2 * 2).toInt = 1) ∧ ((m &&& 2).toInt = 0 ↔ m.toInt < 2) := by
  obtain ⟨j, hj, rfl⟩ := vp_in_of (x := m) (n := 4) (vp_in_iff.mpr ⟨h.1, by omega⟩) (by decide)
  rcases (show j = 0 ∨ j = 1 ∨ j = 2 ∨ j = 3 by omega) with rfl | rfl | rfl | rfl <;> decide
theorem e_isFirst {G : Nat → Nat} {B : AA} {R : RR} {a : Nat} {r : Int32} (h : C_X2_isFirst G B R a r) : (r.toInt = 0 ∧ (B a 4 &&& 1).toInt = 0) ∨ (r.toInt = 1 ∧ ¬ (B a 4 &&& 1).toInt = 0) := by
  rcases h with ⟨x_2, ex_2, fx_2, rfl⟩ | ⟨x_2, ex_2, c1, rfl⟩
  · rw [ex_2] at fx_2; exact Or.inl ⟨by decide, fx_2⟩
  · rw [ex_2] at c1; exact Or.inr ⟨by decide, c1⟩
theorem e_isLast {G : Nat → Nat} {B : AA} {R : RR} {a : Nat} {r : Int32} (h : C_X2_isLast G B R a r) : (r.toInt = 0 ∧ (B a 4 &&& 2).toInt = 0) ∨ (¬ r.toInt = 0 ∧ ¬ (B a 4 &&& 2).toInt = 0) := by
  rcases h with ⟨x_2, ex_2, fx_2, rfl⟩ | ⟨x_2, ex_2, c1, rfl⟩
  · rw [ex_2] at fx_2; exact Or.inl ⟨by decide, fx_2⟩
  · rw [ex_2] at c1; exact Or.inr ⟨by decide, c1⟩
theorem fst_t {m v y : Int32} (hm : 0 ≤ m.toInt ∧ m.toInt ≤ 3) (ey : y = m - m / 2 * 2) (h : ((¬ y.toInt = 1) ∧ v = 0) ∨ ((y.toInt = 1) ∧ v = 1)) {r : Int32} (hr : (r.toInt = 0 ∧ (m &&& 1).toInt = 0) ∨ (r.toInt = 1 ∧ ¬ (m &&& 1).toInt = 0)) : v.toInt = r.toInt := by
  have b := (bit1 hm).1
  have i0 := i_0
  have i1 := i_1t
  subst ey
  rcases h with ⟨a, rfl⟩ | ⟨a, rfl⟩
  · rcases hr with ⟨c, d⟩ | ⟨c, d⟩
    · omega
    · exact absurd (b.mpr a) d
  · rcases hr with ⟨c, d⟩ | ⟨c, d⟩
    · exact absurd a (b.mp d)
    · omega
/-- a SEND's packet that is expected -/
theorem s_takeSend {x q tk : Nat} {G : Nat → Nat} {t0 t1 t2 : Int32} {B : AA} {R : RR} {A : AA} {pk cd : Int32} (h : SIM x t0 t1 t2 B R A pk) (hV : RW A pk) (hq : q < 4) (hst : (A 10 q).toInt = 1) {p : Int32} (hp : (q : Int) = p.toInt) (htk : R (x + 1) 2 = x + 3 + 2 * tk) (htk6 : tk < 26) (hT : TKP x tk B A) (hk0 : (A 42 24).toInt = 0) (h8 : (A 36 q).toInt = 0 ∨ 1 ≤ (A 30 q).toInt) (h5 : 0 ≤ (A 32 (4 * q)).toInt ∧ 0 ≤ (A 35 (4 * q)).toInt ∧ (A 35 (4 * q)).toInt ≤ (A 33 (4 * q)).toInt ∧ (A 32 (4 * q)).toInt + (A 33 (4 * q)).toInt ≤ 32) {U : AA} {r : Int32} (hc : C_X8_takeSend G B R (x + 85 + 17 * q) (x + 3 + 2 * tk) U r) {Z : AA} (hf : (r.toInt = 0 ∧ Z = U) ∨ (¬ r.toInt = 0 ∧ C_X3_fail G U R (x + 84 + 17 * q) 5 r Z)) {A' : AA} {cdz pkz : Int32} (hd : D_X10_freshSend A cd pk p A' cdz pkz) : SIM x t0 t1 t2 Z R A' pkz := by
  have hh := h
  obtain ⟨hS, -, -, -, -, hPQ⟩ := hh
  obtain ⟨hC, hPS, -, hRV, -⟩ := hPQ q hq
  obtain ⟨p1, p2, p3, p4, p5, p6, p7, p8, p9, p10⟩ := hPS
  have p2s := p2 hst
  obtain ⟨hd4, g1, g2, g3, g4, g5⟩ := hRV
  have g3i := congrArg Int32.toInt g3
  have hT0 := hT
  obtain ⟨⟨y0, y1, y2, y3, y4, y5, y6⟩, yc, ⟨y7, y8, y9, -, y11, -⟩⟩ := hT
  have ycs := yc (Or.inl hk0)
  have ysz := y11 (Or.inl hk0)
  have ymk := y9 hk0
  have y3i := congrArg Int32.toInt y3
  have i0 := i_0
  have i1 := i_1t
  have i2 := i_2
  have i4 := i_4
  have i5 : (5 : Int32).toInt = 5 := by decide
  have i6 : (6 : Int32).toInt = 6 := by decide
  have eto : B (x + 85 + 17 * q) 0 = peerT p := i32_eq (by rw [hC.2.2.2.2.1, peer_e hq hp])
  have p5i := congrArg Int32.toInt p5.2
  have hsh := hS.2.2.2.2.2.1 q hq
  obtain ⟨np, hnp, h24⟩ := h.np hV
  -- begun
  obtain ⟨s9, v9⟩ := h.rs (A' := uA A 36 (upd (A 36) q 1)) (f := upd (B (x + 85 + 17 * q)) 5 1) hV hq rfl (fun j hj => by rw [uA_n (by omega)]) (fun j k hk => by
    by_cases e : j = 36
    · subst e; exact upd_n hk
    · rw [uA_n e]) p2s.2.2.2 p5.1 upd_s.symm p6 p9 (by
    show B01 (upd (A 36) q 1 q)
    rw [upd_s]; exact Or.inr rfl)
  have nak : ∀ {U : AA}, C_X8_refuse G B R (x + 85 + 17 * q) (B (x + 3 + 2 * tk) 2) 2 U → ∀ {A2 : AA} {pk2 : Int32}, EMR A A2 pk pk2 (peerT p) 6 (A 43 24) 0 2 (-1) 0 (fun _ => 0) → SIM x t0 t1 t2 U R A2 pk2 := fun {U} hr {A2 pk2} hE => by
    have hEC := e_refuse (c := fun _ => 0) hS hq hnp h24 hr
    rw [eto, y2] at hEC
    exact (h.em hV hEC hE ⟨y7, by omega, fun e => by omega, fun _ => by omega, fun e => by omega, fun e => by omega⟩).1
  -- the row of the first receive
  have hrow : ∀ {rr : Nat}, C_X5_at G (uA B (x + 85 + 17 * q) (upd (B (x + 85 + 17 * q)) 5 1)) R (x + 88 + 17 * q) 0 rr → 1 ≤ (A 30 q).toInt → rr = x + 90 + 17 * q + hd4 % 4 ∧ RWV (B rr) A (4 * q) := fun hat hn => by
    have er := e_atV hS hq hat (h := hd4) (by rw [uA_n (by omega)]; exact g2) (k := 0) (by decide)
    rw [Nat.add_zero] at er
    have w := g5 0 (by omega)
    rw [Nat.add_zero, Nat.add_zero, ← er] at w
    exact ⟨er, w⟩
  -- cells come
  have came : ∀ {rr : Nat} {room f cm : Int32} {U27 : AA} {to : Int32} {c1 k1 : Int32} {ur : Nat → Int32}, 1 ≤ (A 30 q).toInt → C_X5_at G (uA B (x + 85 + 17 * q) (upd (B (x + 85 + 17 * q)) 5 1)) R (x + 88 + 17 * q) 0 rr → room = B rr 3 - B rr 9 → (B (x + 3 + 2 * tk) 3).toInt ≤ room.toInt → f = B rr 2 + B rr 9 → C_X2_unload G (uA B (x + 85 + 17 * q) (upd (B (x + 85 + 17 * q)) 5 1)) R (x + 3 + 2 * tk) (x + 56 + 10 * (q % 2)) f room U27 → cm = B rr 9 + B (x + 3 + 2 * tk) 3 → to.toInt = 32 * (p.toInt % 2) + (A 32 (4 * q)).toInt + (A 35 (4 * q)).toInt → D_X10_takeCells (uA A 36 (upd (A 36) q 1)) cd pk to (A 44 24) (uA (uA A 36 (upd (A 36) q 1)) 4 ur) c1 k1 → ∀ {n28 : Nat} {x51 : Int32}, n28 = 4 * q → x51 = A 35 n28 + A 44 24 → SIM x t0 t1 t2 (uA U27 rr (upd (U27 rr) 9 cm)) R (uA (uA (uA A 36 (upd (A 36) q 1)) 4 ur) 35 (upd (A 35) n28 x51)) pk ∧ RW (uA (uA (uA A 36 (upd (A 36) q 1)) 4 ur) 35 (upd (A 35) n28 x51)) pk ∧ (uA U27 rr (upd (U27 rr) 9 cm)) (x + 3 + 2 * tk) = B (x + 3 + 2 * tk) := by
    intro rr room f cm U27 to c1 k1 ur hn hat eroom hroom ef hu ecm eto2 htc n28 x51 e28 e51
    subst e28
    obtain ⟨er, w⟩ := hrow hat hn
    obtain ⟨w0, w1, w2, w3, w4⟩ := w
    have roomt : room.toInt = (A 33 (4 * q)).toInt - (A 35 (4 * q)).toInt := by rw [eroom, w3, w4]; exact s_sub (by omega) (by omega)
    have ft : f.toInt = (A 32 (4 * q)).toInt + (A 35 (4 * q)).toInt := by rw [ef, w2, w4]; exact add_t (by omega) (by omega)
    obtain ⟨f0, hf0⟩ : ∃ f0 : Nat, (f0 : Int) = f.toInt := ⟨f.toInt.toNat, by omega⟩
    have h7 := hS.2.2.2.2.2.2.2.2.2 tk htk6
    have eB : uA B (x + 85 + 17 * q) (upd (B (x + 85 + 17 * q)) 5 1) (x + 3 + 2 * tk) = B (x + 3 + 2 * tk) := uA_n (by omega)
    obtain ⟨wn, hw, eU⟩ := e_unload hu (by rw [h7]; omega) (hS.2.1 (q % 2) (by omega)).2.1 (by omega) (by omega) hf0 (by omega) (by rw [eB]; omega) (Or.inr (by omega))
    rw [eB, y3i] at hw
    have hwn : (wn : Int) = (A 44 24).toInt := by
      rcases hw with ⟨-, e⟩ | ⟨-, -, e⟩
      · omega
      · rw [if_pos (by omega)] at e; exact e
    obtain ⟨-, -, eA⟩ := r_take htc (f0 := 32 * (q % 2) + f0) (w := wn) (by omega) hwn (by omega)
    have s27 := s9.cells v9 (nd := q % 2) (f0 := f0) (w := wn) (by omega) (Or.inr (by omega)) (g := (uA B (x + 85 + 17 * q) (upd (B (x + 85 + 17 * q)) 5 1)) (x + 3 + 2 * tk + 1)) (g' := fun k => A 48 (96 + k)) (fun k hk => by
      rw [uA_n (by omega), show x + 3 + 2 * tk + 1 = x + 4 + 2 * tk by omega]
      exact ycs k (by omega) (by omega))
    have eA' : uA (uA A 36 (upd (A 36) q 1)) 4 ur = uA (uA A 36 (upd (A 36) q 1)) 4 (cpy ((uA A 36 (upd (A 36) q 1)) 4) (32 * (q % 2) + f0) wn (fun k => A 48 (96 + k))) := eA
    rw [← eA', ← eU] at s27
    have ecm2 : cm = x51 := by rw [ecm, e51, w4, y3]
    subst ecm2
    have s33 := s27.came (v := cm) (v9.cg rfl rfl rfl) hq (r := rr) (fun hd hh => by
      rw [eU, uA_n (by omega), uA_n (by omega)] at hh
      obtain rfl : hd = hd4 := by omega
      exact er)
    refine ⟨s33.1, s33.2, ?_⟩
    rw [uA_n (by omega), eU, uA_n (by omega), eB]
  rcases hd with ⟨n_1d, hn_1d, x_4d, ex_4d, v_5d, c1d, c2d, c3d, c4d, ur_18d, r_18d, hemitd, c5d, c6d, c7d, c8d, c9d, c10d, rfl, rfl, rfl⟩ | ⟨n_1d, hn_1d, x_4d, ex_4d, v_5d, c1d, c2d, c3d, c4d, ur_18d, r_18d, hemitd, c5d, c6d, c7d, c8d, c9d, c10d, n_22d, hn_22d, g_21d, rfl, rfl, rfl, rfl⟩ | ⟨n_1d, hn_1d, x_4d, ex_4d, v_5d, c1d, c2d, u_10d, c3d, c4d, x_24d, ex_24d, fx_24d, g_25d, rfl, n_28d, hn_28d, x_35d, ex_35d, fx_35d, c5d, x_41d, ex_41d, fx_41d, x_42d, ex_42d, fx_42d, x_44d, ex_44d, fx_44d, x_46d, ex_46d, fx_46d, ur_48d, htakeCellsd, x_51d, ex_51d, fx_51d, g_52d, rfl, ur_53d, hacceptd, ur_55d, hackd, c6d, c7d, c8d, c9d, ur_61d, hcompleted, c10d, g_62d, rfl, ur_65d, hdropReceived, c11d, c12d, rfl, rfl, rfl⟩ | ⟨n_1d, hn_1d, x_4d, ex_4d, v_5d, c1d, c2d, u_10d, c3d, c4d, x_24d, ex_24d, fx_24d, g_25d, rfl, n_28d, hn_28d, x_35d, ex_35d, fx_35d, c5d, x_41d, ex_41d, fx_41d, x_42d, ex_42d, fx_42d, x_44d, ex_44d, fx_44d, x_46d, ex_46d, fx_46d, ur_48d, htakeCellsd, x_51d, ex_51d, fx_51d, g_52d, rfl, ur_53d, hacceptd, ur_55d, hackd, c6d, c7d, c8d, c9d, rfl, rfl, rfl⟩ | ⟨n_1d, hn_1d, x_4d, ex_4d, v_5d, c1d, c2d, u_10d, c3d, c4d, x_24d, ex_24d, fx_24d, g_25d, rfl, n_28d, hn_28d, x_35d, ex_35d, fx_35d, c5d, ur_69d, hrefused, c6d, c7d, c8d, c9d, c10d, rfl, rfl, rfl⟩ | ⟨n_1d, hn_1d, x_4d, ex_4d, v_5d, c1d, c2d, rfl, rfl, rfl⟩
  · obtain rfl : n_1d = q := by omega
    unfold C_X8_takeSend at hc
    rw [hsh.2.2.1, hsh.1] at hc
    rcases hc with ⟨r_2, hisFirst, c1, c2, B_9, rfl, r_12, hat, x_17, ex_17, c3, x_25, ex_25, U_27, hF, hunload, x_32, ex_32, B_33, rfl, r_35, hisLast, c4, U_39, hF_1, hadvance, U_44, hF_2, hacknowledge, eZ, rfl⟩ | ⟨r_2, hisFirst, c1, c2, B_9, rfl, r_12, hat, x_17, ex_17, c3, x_25, ex_25, U_27, hF, hunload, x_32, ex_32, B_33, rfl, r_35, hisLast, c4, U_49, hF_1, hcompleteFirst, B_51, rfl, U_54, hF_2, hadvance, U_59, hF_3, hacknowledge, eZ, rfl⟩ | ⟨r_2, hisFirst, c1, c2, B_9, rfl, r_12, hat, x_17, ex_17, c3, U_63, hF, hrefuse, eZ, rfl⟩ | ⟨r_2, hisFirst, c1, c2, U_66, hF, hrefuse, eZ, rfl⟩ | ⟨r_2, hisFirst, c1, eZ, rfl⟩
    · skip
      have ef : v_5d.toInt = r_2.toInt := fst_t ymk ex_4d c1d (by have k := e_isFirst hisFirst; rw [y4] at k; exact k)
      exfalso; omega
    · skip
      have ef : v_5d.toInt = r_2.toInt := fst_t ymk ex_4d c1d (by have k := e_isFirst hisFirst; rw [y4] at k; exact k)
      exfalso; omega
    · skip
      have ef : v_5d.toInt = r_2.toInt := fst_t ymk ex_4d c1d (by have k := e_isFirst hisFirst; rw [y4] at k; exact k)
      exfalso; omega
    · skip
      have ef : v_5d.toInt = r_2.toInt := fst_t ymk ex_4d c1d (by have k := e_isFirst hisFirst; rw [y4] at k; exact k)
      have hz := (hf.resolve_right (fun e => e.1 i0)).2
      rw [hz, eZ]
      exact nak hrefuse (EMR.gen hemitd hV.2.2 (fun j hj => by rw [uA_n (by omega), uA_n (by omega), uA_n (by omega), uA_n (by omega), uA_n (by omega), uA_n (by omega), uA_n (by omega)]) ⟨rfl, rfl, rfl, rfl, rfl, rfl⟩ (Or.inl ⟨c10d, rfl, rfl⟩))
    · skip
      have ef : v_5d.toInt = r_2.toInt := fst_t ymk ex_4d c1d (by have k := e_isFirst hisFirst; rw [y4] at k; exact k)
      exfalso; omega
  · obtain rfl : n_1d = q := by omega
    unfold C_X8_takeSend at hc
    rw [hsh.2.2.1, hsh.1] at hc
    rcases hc with ⟨r_2, hisFirst, c1, c2, B_9, rfl, r_12, hat, x_17, ex_17, c3, x_25, ex_25, U_27, hF, hunload, x_32, ex_32, B_33, rfl, r_35, hisLast, c4, U_39, hF_1, hadvance, U_44, hF_2, hacknowledge, eZ, rfl⟩ | ⟨r_2, hisFirst, c1, c2, B_9, rfl, r_12, hat, x_17, ex_17, c3, x_25, ex_25, U_27, hF, hunload, x_32, ex_32, B_33, rfl, r_35, hisLast, c4, U_49, hF_1, hcompleteFirst, B_51, rfl, U_54, hF_2, hadvance, U_59, hF_3, hacknowledge, eZ, rfl⟩ | ⟨r_2, hisFirst, c1, c2, B_9, rfl, r_12, hat, x_17, ex_17, c3, U_63, hF, hrefuse, eZ, rfl⟩ | ⟨r_2, hisFirst, c1, c2, U_66, hF, hrefuse, eZ, rfl⟩ | ⟨r_2, hisFirst, c1, eZ, rfl⟩
    · skip
      have ef : v_5d.toInt = r_2.toInt := fst_t ymk ex_4d c1d (by have k := e_isFirst hisFirst; rw [y4] at k; exact k)
      exfalso; omega
    · skip
      have ef : v_5d.toInt = r_2.toInt := fst_t ymk ex_4d c1d (by have k := e_isFirst hisFirst; rw [y4] at k; exact k)
      exfalso; omega
    · skip
      have ef : v_5d.toInt = r_2.toInt := fst_t ymk ex_4d c1d (by have k := e_isFirst hisFirst; rw [y4] at k; exact k)
      exfalso; omega
    · skip
      have ef : v_5d.toInt = r_2.toInt := fst_t ymk ex_4d c1d (by have k := e_isFirst hisFirst; rw [y4] at k; exact k)
      have hz := (hf.resolve_right (fun e => e.1 i0)).2
      rw [hz, eZ]
      exact nak hrefuse (EMR.gen hemitd hV.2.2 (fun j hj => by rw [uA_n (by omega), uA_n (by omega), uA_n (by omega), uA_n (by omega), uA_n (by omega), uA_n (by omega), uA_n (by omega), uA_n (by omega)]) ⟨rfl, rfl, rfl, rfl, rfl, rfl⟩ (Or.inr ⟨n_22d, hn_22d, rfl, fun _ _ => rfl, fun e => by omega⟩))
    · skip
      have ef : v_5d.toInt = r_2.toInt := fst_t ymk ex_4d c1d (by have k := e_isFirst hisFirst; rw [y4] at k; exact k)
      exfalso; omega
  · obtain rfl : n_1d = q := by omega
    unfold C_X8_takeSend at hc
    rw [hsh.2.2.1, hsh.1] at hc
    rcases hc with ⟨r_2, hisFirst, c1, c2, B_9, rfl, r_12, hat, x_17, ex_17, c3, x_25, ex_25, U_27, hF, hunload, x_32, ex_32, B_33, rfl, r_35, hisLast, c4, U_39, hF_1, hadvance, U_44, hF_2, hacknowledge, eZ, rfl⟩ | ⟨r_2, hisFirst, c1, c2, B_9, rfl, r_12, hat, x_17, ex_17, c3, x_25, ex_25, U_27, hF, hunload, x_32, ex_32, B_33, rfl, r_35, hisLast, c4, U_49, hF_1, hcompleteFirst, B_51, rfl, U_54, hF_2, hadvance, U_59, hF_3, hacknowledge, eZ, rfl⟩ | ⟨r_2, hisFirst, c1, c2, B_9, rfl, r_12, hat, x_17, ex_17, c3, U_63, hF, hrefuse, eZ, rfl⟩ | ⟨r_2, hisFirst, c1, c2, U_66, hF, hrefuse, eZ, rfl⟩ | ⟨r_2, hisFirst, c1, eZ, rfl⟩
    · skip
      have ef : v_5d.toInt = r_2.toInt := fst_t ymk ex_4d c1d (by have k := e_isFirst hisFirst; rw [y4] at k; exact k)
      have hz := (hf.resolve_right (fun e => e.1 i0)).2
      rw [hz, eZ]
      obtain ⟨b1, b2, b3⟩ := came (by omega) hat ex_17 c3 ex_25 hunload ex_32 (by rw [fx_46d, fx_44d, fx_42d, fx_41d, show n_28d = 4 * n_1d by omega]) htakeCellsd (n28 := n_28d) (by omega) ex_51d
      have hl := e_isLast hisLast
      rw [b3, y4] at hl
      have hm := (bit1 ymk).2
      obtain ⟨v, ev, e4⟩ := r_accept hacceptd hp p6 (by decide)
      have hEa := r_ack (c := fun _ => 0) hackd b2.2.2
      have m24 : (ur_55d.2.2.2.2.1 24).toInt = (A 45 24).toInt := congrArg Int32.toInt (hEa.r24 45 (by decide) (by decide))
      exfalso; omega
    · skip
      have ef : v_5d.toInt = r_2.toInt := fst_t ymk ex_4d c1d (by have k := e_isFirst hisFirst; rw [y4] at k; exact k)
      have hz := (hf.resolve_right (fun e => e.1 i0)).2
      rw [hz, eZ]
      obtain ⟨b1, b2, b3⟩ := came (by omega) hat ex_17 c3 ex_25 hunload ex_32 (by rw [fx_46d, fx_44d, fx_42d, fx_41d, show n_28d = 4 * n_1d by omega]) htakeCellsd (n28 := n_28d) (by omega) ex_51d
      have hl := e_isLast hisLast
      rw [b3, y4] at hl
      have hm := (bit1 ymk).2
      obtain ⟨v, ev, e4⟩ := r_accept hacceptd hp p6 (by decide)
      have hEa := r_ack (c := fun _ => 0) hackd b2.2.2
      have m24 : (ur_55d.2.2.2.2.1 24).toInt = (A 45 24).toInt := congrArg Int32.toInt (hEa.r24 45 (by decide) (by decide))
      rw [y2] at hacknowledge
      exact s_sendLast b1 b2 hq hst hp c3d y7 hacceptd hackd (by rw [show n_28d = 4 * n_1d by omega]; rfl) (by show x_51d = upd (A 35) n_28d x_51d (4 * n_1d); rw [show 4 * n_1d = n_28d by omega, upd_s]) hcompleted (by first | rfl | (simp only [uA_u]; rfl)) hdropReceived hcompleteFirst hadvance hacknowledge
    · skip
      have ef : v_5d.toInt = r_2.toInt := fst_t ymk ex_4d c1d (by have k := e_isFirst hisFirst; rw [y4] at k; exact k)
      obtain ⟨er, w⟩ := hrow hat (by omega)
      have e35 : x_17.toInt = (A 33 (4 * n_1d)).toInt - (A 35 (4 * n_1d)).toInt := by rw [ex_17, w.2.2.2.1, w.2.2.2.2]; exact s_sub (by omega) (by omega)
      obtain rfl : n_28d = 4 * n_1d := by omega
      exfalso; omega
    · skip
      have ef : v_5d.toInt = r_2.toInt := fst_t ymk ex_4d c1d (by have k := e_isFirst hisFirst; rw [y4] at k; exact k)
      exfalso; omega
    · skip
      have ef : v_5d.toInt = r_2.toInt := fst_t ymk ex_4d c1d (by have k := e_isFirst hisFirst; rw [y4] at k; exact k)
      exfalso; omega
  · obtain rfl : n_1d = q := by omega
    unfold C_X8_takeSend at hc
    rw [hsh.2.2.1, hsh.1] at hc
    rcases hc with ⟨r_2, hisFirst, c1, c2, B_9, rfl, r_12, hat, x_17, ex_17, c3, x_25, ex_25, U_27, hF, hunload, x_32, ex_32, B_33, rfl, r_35, hisLast, c4, U_39, hF_1, hadvance, U_44, hF_2, hacknowledge, eZ, rfl⟩ | ⟨r_2, hisFirst, c1, c2, B_9, rfl, r_12, hat, x_17, ex_17, c3, x_25, ex_25, U_27, hF, hunload, x_32, ex_32, B_33, rfl, r_35, hisLast, c4, U_49, hF_1, hcompleteFirst, B_51, rfl, U_54, hF_2, hadvance, U_59, hF_3, hacknowledge, eZ, rfl⟩ | ⟨r_2, hisFirst, c1, c2, B_9, rfl, r_12, hat, x_17, ex_17, c3, U_63, hF, hrefuse, eZ, rfl⟩ | ⟨r_2, hisFirst, c1, c2, U_66, hF, hrefuse, eZ, rfl⟩ | ⟨r_2, hisFirst, c1, eZ, rfl⟩
    · skip
      have ef : v_5d.toInt = r_2.toInt := fst_t ymk ex_4d c1d (by have k := e_isFirst hisFirst; rw [y4] at k; exact k)
      have hz := (hf.resolve_right (fun e => e.1 i0)).2
      rw [hz, eZ]
      obtain ⟨b1, b2, b3⟩ := came (by omega) hat ex_17 c3 ex_25 hunload ex_32 (by rw [fx_46d, fx_44d, fx_42d, fx_41d, show n_28d = 4 * n_1d by omega]) htakeCellsd (n28 := n_28d) (by omega) ex_51d
      have hl := e_isLast hisLast
      rw [b3, y4] at hl
      have hm := (bit1 ymk).2
      obtain ⟨v, ev, e4⟩ := r_accept hacceptd hp p6 (by decide)
      have hEa := r_ack (c := fun _ => 0) hackd b2.2.2
      have m24 : (ur_55d.2.2.2.2.1 24).toInt = (A 45 24).toInt := congrArg Int32.toInt (hEa.r24 45 (by decide) (by decide))
      obtain ⟨f1, f2, f3⟩ := b1.adv b2 hq hst hadvance (v := v) ev
      rw [← e4] at f1 f2
      obtain ⟨n, hn, h24'⟩ := f1.np f2
      have hCC := (f1.2.2.2.2.2 n_1d hq).1
      have eto2 : U_39 (x + 85 + 17 * n_1d) 0 = peerT p := i32_eq (by rw [hCC.2.2.2.2.1, peer_e hq hp])
      have hEC := e_ack (c := fun _ => 0) f1.1 hq hn h24' hacknowledge
      rw [eto2, y2] at hEC
      exact (f1.em f2 hEC hEa ⟨y7, by omega, fun e => by omega, fun e => by omega, fun e => by omega, fun e => by omega⟩).1
    · skip
      have ef : v_5d.toInt = r_2.toInt := fst_t ymk ex_4d c1d (by have k := e_isFirst hisFirst; rw [y4] at k; exact k)
      have hz := (hf.resolve_right (fun e => e.1 i0)).2
      rw [hz, eZ]
      obtain ⟨b1, b2, b3⟩ := came (by omega) hat ex_17 c3 ex_25 hunload ex_32 (by rw [fx_46d, fx_44d, fx_42d, fx_41d, show n_28d = 4 * n_1d by omega]) htakeCellsd (n28 := n_28d) (by omega) ex_51d
      have hl := e_isLast hisLast
      rw [b3, y4] at hl
      have hm := (bit1 ymk).2
      obtain ⟨v, ev, e4⟩ := r_accept hacceptd hp p6 (by decide)
      have hEa := r_ack (c := fun _ => 0) hackd b2.2.2
      have m24 : (ur_55d.2.2.2.2.1 24).toInt = (A 45 24).toInt := congrArg Int32.toInt (hEa.r24 45 (by decide) (by decide))
      exfalso; omega
    · skip
      have ef : v_5d.toInt = r_2.toInt := fst_t ymk ex_4d c1d (by have k := e_isFirst hisFirst; rw [y4] at k; exact k)
      obtain ⟨er, w⟩ := hrow hat (by omega)
      have e35 : x_17.toInt = (A 33 (4 * n_1d)).toInt - (A 35 (4 * n_1d)).toInt := by rw [ex_17, w.2.2.2.1, w.2.2.2.2]; exact s_sub (by omega) (by omega)
      obtain rfl : n_28d = 4 * n_1d := by omega
      exfalso; omega
    · skip
      have ef : v_5d.toInt = r_2.toInt := fst_t ymk ex_4d c1d (by have k := e_isFirst hisFirst; rw [y4] at k; exact k)
      exfalso; omega
    · skip
      have ef : v_5d.toInt = r_2.toInt := fst_t ymk ex_4d c1d (by have k := e_isFirst hisFirst; rw [y4] at k; exact k)
      exfalso; omega
  · obtain rfl : n_1d = q := by omega
    unfold C_X8_takeSend at hc
    rw [hsh.2.2.1, hsh.1] at hc
    rcases hc with ⟨r_2, hisFirst, c1, c2, B_9, rfl, r_12, hat, x_17, ex_17, c3, x_25, ex_25, U_27, hF, hunload, x_32, ex_32, B_33, rfl, r_35, hisLast, c4, U_39, hF_1, hadvance, U_44, hF_2, hacknowledge, eZ, rfl⟩ | ⟨r_2, hisFirst, c1, c2, B_9, rfl, r_12, hat, x_17, ex_17, c3, x_25, ex_25, U_27, hF, hunload, x_32, ex_32, B_33, rfl, r_35, hisLast, c4, U_49, hF_1, hcompleteFirst, B_51, rfl, U_54, hF_2, hadvance, U_59, hF_3, hacknowledge, eZ, rfl⟩ | ⟨r_2, hisFirst, c1, c2, B_9, rfl, r_12, hat, x_17, ex_17, c3, U_63, hF, hrefuse, eZ, rfl⟩ | ⟨r_2, hisFirst, c1, c2, U_66, hF, hrefuse, eZ, rfl⟩ | ⟨r_2, hisFirst, c1, eZ, rfl⟩
    · skip
      have ef : v_5d.toInt = r_2.toInt := fst_t ymk ex_4d c1d (by have k := e_isFirst hisFirst; rw [y4] at k; exact k)
      obtain ⟨er, w⟩ := hrow hat (by omega)
      have e35 : x_17.toInt = (A 33 (4 * n_1d)).toInt - (A 35 (4 * n_1d)).toInt := by rw [ex_17, w.2.2.2.1, w.2.2.2.2]; exact s_sub (by omega) (by omega)
      obtain rfl : n_28d = 4 * n_1d := by omega
      exfalso; omega
    · skip
      have ef : v_5d.toInt = r_2.toInt := fst_t ymk ex_4d c1d (by have k := e_isFirst hisFirst; rw [y4] at k; exact k)
      obtain ⟨er, w⟩ := hrow hat (by omega)
      have e35 : x_17.toInt = (A 33 (4 * n_1d)).toInt - (A 35 (4 * n_1d)).toInt := by rw [ex_17, w.2.2.2.1, w.2.2.2.2]; exact s_sub (by omega) (by omega)
      obtain rfl : n_28d = 4 * n_1d := by omega
      exfalso; omega
    · skip
      have ef : v_5d.toInt = r_2.toInt := fst_t ymk ex_4d c1d (by have k := e_isFirst hisFirst; rw [y4] at k; exact k)
      obtain ⟨er, w⟩ := hrow hat (by omega)
      obtain ⟨-, hf⟩ := hf.resolve_left (fun e => by omega)
      rw [eZ] at hf
      exact s_refuse s9 v9 hq hp y2 y7 (by decide) (Or.inr ⟨by decide, rfl⟩) hrefuse hf hrefused
    · skip
      have ef : v_5d.toInt = r_2.toInt := fst_t ymk ex_4d c1d (by have k := e_isFirst hisFirst; rw [y4] at k; exact k)
      exfalso; omega
    · skip
      have ef : v_5d.toInt = r_2.toInt := fst_t ymk ex_4d c1d (by have k := e_isFirst hisFirst; rw [y4] at k; exact k)
      exfalso; omega
  · obtain rfl : n_1d = q := by omega
    unfold C_X8_takeSend at hc
    rw [hsh.2.2.1, hsh.1] at hc
    rcases hc with ⟨r_2, hisFirst, c1, c2, B_9, rfl, r_12, hat, x_17, ex_17, c3, x_25, ex_25, U_27, hF, hunload, x_32, ex_32, B_33, rfl, r_35, hisLast, c4, U_39, hF_1, hadvance, U_44, hF_2, hacknowledge, eZ, rfl⟩ | ⟨r_2, hisFirst, c1, c2, B_9, rfl, r_12, hat, x_17, ex_17, c3, x_25, ex_25, U_27, hF, hunload, x_32, ex_32, B_33, rfl, r_35, hisLast, c4, U_49, hF_1, hcompleteFirst, B_51, rfl, U_54, hF_2, hadvance, U_59, hF_3, hacknowledge, eZ, rfl⟩ | ⟨r_2, hisFirst, c1, c2, B_9, rfl, r_12, hat, x_17, ex_17, c3, U_63, hF, hrefuse, eZ, rfl⟩ | ⟨r_2, hisFirst, c1, c2, U_66, hF, hrefuse, eZ, rfl⟩ | ⟨r_2, hisFirst, c1, eZ, rfl⟩
    · skip
      have ef : v_5d.toInt = r_2.toInt := fst_t ymk ex_4d c1d (by have k := e_isFirst hisFirst; rw [y4] at k; exact k)
      exfalso; omega
    · skip
      have ef : v_5d.toInt = r_2.toInt := fst_t ymk ex_4d c1d (by have k := e_isFirst hisFirst; rw [y4] at k; exact k)
      exfalso; omega
    · skip
      have ef : v_5d.toInt = r_2.toInt := fst_t ymk ex_4d c1d (by have k := e_isFirst hisFirst; rw [y4] at k; exact k)
      exfalso; omega
    · skip
      have ef : v_5d.toInt = r_2.toInt := fst_t ymk ex_4d c1d (by have k := e_isFirst hisFirst; rw [y4] at k; exact k)
      exfalso; omega
    · skip
      have ef : v_5d.toInt = r_2.toInt := fst_t ymk ex_4d c1d (by have k := e_isFirst hisFirst; rw [y4] at k; exact k)
      have hz := (hf.resolve_right (fun e => e.1 i0)).2
      rw [hz, eZ]
      exact h
