/-- a pair takes a packet in -/
theorem s_in {x q tk : Nat} {G : Nat → Nat} {t0 t1 t2 : Int32} (ht : 2 ≤ t0.toInt) {B : AA} {R : RR} {A : AA} {pk cd : Int32} (h : SIM x t0 t1 t2 B R A pk) (hI : RIV A pk) (hq : q < 4) {p : Int32} (hp : (q : Int) = p.toInt) (htk : R (x + 1) 2 = x + 3 + 2 * tk) (htk6 : tk < 26) (hT : TKP x tk B A) {Z : AA} (hc : C_X3_takeIn G B R (x + 84 + 17 * q) (x + 3 + 2 * tk) Z) {A' : AA} {pkz : Int32} (hd : (¬ (A 10 q).toInt = 1 ∧ A' = A ∧ pkz = pk) ∨ ((A 10 q).toInt = 1 ∧ ((4 ≤ (A 42 24).toInt ∧ ¬ (A 42 24).toInt = 4 ∧ ¬ (A 42 24).toInt = 5 ∧ ∃ c : Int32, D_X10_refused t0 t1 t2 A cd pk p A' c pkz) ∨ ((A 42 24).toInt = 5 ∧ ∃ k c : Int32, k = (((((A 43) 24) - ((A 12) q)) + 64) - ((((A 43) 24) - ((A 12) q)) + 64) / 64 * 64) + 1 ∧ D_X10_answerSome A cd pk p k A' c pkz) ∨ ((A 42 24).toInt = 4 ∧ ∃ c : Int32, D_X10_replied A cd pk p A' c pkz) ∨ (¬ 4 ≤ (A 42 24).toInt ∧ ∃ c : Int32, D_X10_asked A cd pk p A' c pkz)))) : SIM x t0 t1 t2 Z R A' pkz := by
  have hV := hI.w
  have hh := h
  obtain ⟨hS, -, -, -, -, hPQ⟩ := hh
  obtain ⟨hC, hPS, -, -, -⟩ := hPQ q hq
  have p1i := congrArg Int32.toInt hPS.1
  have hT0 := hT
  obtain ⟨⟨y0, y1, y2, y3, y4, y5, y6⟩, -, ⟨y7, y8, -, y10, -, -⟩⟩ := hT
  have y1i := congrArg Int32.toInt y1
  have hsh := hS.2.2.1 q hq
  unfold C_X3_takeIn at hc
  rw [hsh.2.1, hsh.2.2] at hc
  rcases hd with ⟨d1, rfl, rfl⟩ | ⟨hst, hd⟩
  · rcases hc with ⟨c1, c2, c3, c4, U_10, hF, htakeReply, eZ⟩ | ⟨c1, c2, c3, c4, U_14, hF, htakeAck, eZ⟩ | ⟨c1, c2, c3, r_17, U_18, hF, htakeNak, c4, eZ⟩ | ⟨c1, c2, c3, r_17, U_18, hF, htakeNak, c4, U_22, hF_1, hfail, eZ⟩ | ⟨c1, c2, r_25, U_26, hF, htakeIn, c3, eZ⟩ | ⟨c1, c2, r_25, U_26, hF, htakeIn, c3, U_30, hF_1, hfail, eZ⟩ | ⟨c1, eZ⟩
    · exfalso; omega
    · exfalso; omega
    · exfalso; omega
    · exfalso; omega
    · exfalso; omega
    · exfalso; omega
    · rw [eZ]; exact h
  have hP := (hI.1.2.2.1 q hq).1 hst
  have rg := hP.rng
  obtain ⟨d, hJ⟩ := PJ.jd hP
  have i1 := i_1t
  rcases hd with ⟨d1, d2, d3, c, hr⟩ | ⟨d1, k, c, ek, hs⟩ | ⟨d1, c, hr⟩ | ⟨d1, c, ha⟩
  · have b45 := y10 (by omega)
    have go : ∀ {U Z : AA} {r : Int32}, C_X7_takeNak G B R (x + 77 + 17 * q) (B (x + 3 + 2 * tk) 2) (B (x + 3 + 2 * tk) 4) U r → ((r.toInt = 0 ∧ Z = U) ∨ (¬ r.toInt = 0 ∧ C_X3_fail G U R (x + 84 + 17 * q) r 5 Z)) → SIM x t0 t1 t2 Z R A' pkz := fun a b => by
      obtain ⟨k1, k2⟩ := s_nak ht h hV hq hst hp hJ rg.2.2 y2 y4 y7 b45 a b hr
      rw [k2]; exact k1
    rcases hc with ⟨c1, c2, c3, c4, U_10, hF, htakeReply, eZ⟩ | ⟨c1, c2, c3, c4, U_14, hF, htakeAck, eZ⟩ | ⟨c1, c2, c3, r_17, U_18, hF, htakeNak, c4, eZ⟩ | ⟨c1, c2, c3, r_17, U_18, hF, htakeNak, c4, U_22, hF_1, hfail, eZ⟩ | ⟨c1, c2, r_25, U_26, hF, htakeIn, c3, eZ⟩ | ⟨c1, c2, r_25, U_26, hF, htakeIn, c3, U_30, hF_1, hfail, eZ⟩ | ⟨c1, eZ⟩
    · exfalso; omega
    · exfalso; omega
    · exact go htakeNak (Or.inl ⟨c4, eZ⟩)
    · rw [eZ]; exact go htakeNak (Or.inr ⟨c4, hfail⟩)
    · exfalso; omega
    · exfalso; omega
    · exfalso; omega
  · rcases hc with ⟨c1, c2, c3, c4, U_10, hF, htakeReply, eZ⟩ | ⟨c1, c2, c3, c4, U_14, hF, htakeAck, eZ⟩ | ⟨c1, c2, c3, r_17, U_18, hF, htakeNak, c4, eZ⟩ | ⟨c1, c2, c3, r_17, U_18, hF, htakeNak, c4, U_22, hF_1, hfail, eZ⟩ | ⟨c1, c2, r_25, U_26, hF, htakeIn, c3, eZ⟩ | ⟨c1, c2, r_25, U_26, hF, htakeIn, c3, U_30, hF_1, hfail, eZ⟩ | ⟨c1, eZ⟩
    · exfalso; omega
    · have e1 : ((((A 43) 24) - ((A 12) q)) + 64) - ((((A 43) 24) - ((A 12) q)) + 64) / 64 * 64 = farI (A 12 q) (A 43 24) := rfl
      have e2 := far_m rg.2.1 y7
      obtain ⟨k1, k2, -⟩ := s_ack ht h hV hq hst hp hJ (k := k) (Or.inl (by rw [ek, e1, add_t (by omega) (by omega), e2, i1, y2])) htakeAck hs
      rw [k2, eZ]; exact k1
    · exfalso; omega
    · exfalso; omega
    · exfalso; omega
    · exfalso; omega
    · exfalso; omega
  · rcases hc with ⟨c1, c2, c3, c4, U_10, hF, htakeReply, eZ⟩ | ⟨c1, c2, c3, c4, U_14, hF, htakeAck, eZ⟩ | ⟨c1, c2, c3, r_17, U_18, hF, htakeNak, c4, eZ⟩ | ⟨c1, c2, c3, r_17, U_18, hF, htakeNak, c4, U_22, hF_1, hfail, eZ⟩ | ⟨c1, c2, r_25, U_26, hF, htakeIn, c3, eZ⟩ | ⟨c1, c2, r_25, U_26, hF, htakeIn, c3, U_30, hF_1, hfail, eZ⟩ | ⟨c1, eZ⟩
    · obtain ⟨k1, k2⟩ := s_reply ht h hV hq hst hp hJ rg.2.2 (fun i hi => by
        have h6 := hI.1.2.2.2.2.1 (4 * q + i) (by have := hJ.2.2.2.2.2.2.2.2; omega)
        obtain ⟨_, _, a, _, _, hR, _⟩ := hP
        have hz := hR i hi
        exact ⟨⟨hz.2.1, hz.2.2.1⟩, h6.2.2.1, h6.2.2.2.2.2.1⟩) htk6 hT0 d1 htakeReply hr
      rw [k2, eZ]; exact k1
    · exfalso; omega
    · exfalso; omega
    · exfalso; omega
    · exfalso; omega
    · exfalso; omega
    · exfalso; omega
  · rcases hc with ⟨c1, c2, c3, c4, U_10, hF, htakeReply, eZ⟩ | ⟨c1, c2, c3, c4, U_14, hF, htakeAck, eZ⟩ | ⟨c1, c2, c3, r_17, U_18, hF, htakeNak, c4, eZ⟩ | ⟨c1, c2, c3, r_17, U_18, hF, htakeNak, c4, U_22, hF_1, hfail, eZ⟩ | ⟨c1, c2, r_25, U_26, hF, htakeIn, c3, eZ⟩ | ⟨c1, c2, r_25, U_26, hF, htakeIn, c3, U_30, hF_1, hfail, eZ⟩ | ⟨c1, eZ⟩
    · exfalso; omega
    · exfalso; omega
    · exfalso; omega
    · exfalso; omega
    · exact s_asked h hI hq hst hp htk htk6 hT0 (by omega) htakeIn (Or.inl ⟨c3, eZ⟩) ha
    · rw [eZ]; exact s_asked h hI hq hst hp htk htk6 hT0 (by omega) htakeIn (Or.inr ⟨c3, hfail⟩) ha
    · exfalso; omega
/-- deliver -/
theorem s_deliverC {x : Nat} {G : Nat → Nat} {t0 t1 t2 : Int32} (ht : 2 ≤ t0.toInt) {B : AA} {R : RR} {A : AA} {pk cd p0 : Int32} (h : SIM x t0 t1 t2 B R A pk) (hV : RIV A pk) {Z : AA} {ZR : RR} {r : Int32} (hc : C_X9_deliver G B R x p0 Z ZR r) {A' : AA} {cdz pkz r' : Int32} (hd : D_X10_deliver t0 t1 t2 A cd pk p0 A' cdz pkz r') : SIM x t0 t1 t2 Z ZR A' pkz ∧ r = r' := by
  have hh := h
  obtain ⟨hS, ⟨pm, tk0, hD, hF0⟩, -⟩ := hh
  have hfi := congrArg Int32.toInt hF0.1
  have hpk := hV.2
  have main : ∀ {B11 U : AA} {R12 : RR} {r9 n20 : Nat} {A1 A2 A9 : AA} {c0 c1 c2 c3 k1 pk2 pk9 : Int32}, 0 ≤ p0.toInt → p0.toInt < pk.toInt → C_X0_takeOut G B R (x + 1) p0 B11 R12 r9 → (n20 : Int) = (B r9 0).toInt → C_X3_takeIn G B11 R12 (R12 (R12 x 1) n20) r9 U → D_X10_move1 A c0 pk p0 24 A1 c1 k1 → D_X10_drop A1 c2 pk p0 A2 c3 pk2 → I7 (A2 41) (A2 42) (A2 44) (A2 45) (A2 46) → (∀ (n : Nat), (n : Int) = (A2 41 24).toInt → (∀ j, j < 41 → A2 j = A j) → ((¬ (A2 10 n).toInt = 1 ∧ A9 = A2 ∧ pk9 = pk2) ∨ ((A2 10 n).toInt = 1 ∧ ((4 ≤ (A2 42 24).toInt ∧ ¬ (A2 42 24).toInt = 4 ∧ ¬ (A2 42 24).toInt = 5 ∧ ∃ c : Int32, D_X10_refused t0 t1 t2 A2 0 pk2 (A2 41 24) A9 c pk9) ∨ ((A2 42 24).toInt = 5 ∧ ∃ k c : Int32, k = (((((A2 43) 24) - ((A2 12) n)) + 64) - ((((A2 43) 24) - ((A2 12) n)) + 64) / 64 * 64) + 1 ∧ D_X10_answerSome A2 0 pk2 (A2 41 24) k A9 c pk9) ∨ ((A2 42 24).toInt = 4 ∧ ∃ c : Int32, D_X10_replied A2 0 pk2 (A2 41 24) A9 c pk9) ∨ (¬ 4 ≤ (A2 42 24).toInt ∧ ∃ c : Int32, D_X10_asked A2 0 pk2 (A2 41 24) A9 c pk9))))) → SIM x t0 t1 t2 U R12 A9 pk9 := by
    intro B11 U R12 r9 n20 A1 A2 A9 c0 c1 c2 c3 k1 pk2 pk9 e0 e1 hto hn20 hin hm hdr h7 hrest
    obtain ⟨k, hk⟩ : ∃ k : Nat, (k : Int) = p0.toInt := ⟨p0.toInt.toNat, by omega⟩
    obtain ⟨n, hn⟩ : ∃ n : Nat, (n : Int) = pk.toInt := ⟨pk.toInt.toNat, by omega⟩
    obtain ⟨er, hS2, hD2, c, ec1, ec2, eZ, hY⟩ := e_takeOut hS hD hto hk (n := n) (by omega) (by omega) (by omega)
    obtain ⟨tk, t6, er2, htk, s1, hT, h41, ep1, ep2, -, -⟩ := s_take h hV.w hk (by omega) hto hm hdr
    subst er2
    have hT0 := hT
    have y0 := hT.1.1
    rw [eZ, uA_n (by omega)] at y0
    have i7 := h7 24 (by decide)
    have en : (n20 : Int) = (A2 41 24).toInt := by rw [hn20, y0]
    have hq : n20 < 4 := by omega
    have w := s1.1
    rw [w.1.2.1, (w.2.2.1 n20 hq).1] at hin
    have hI2 : RIV A2 pk2 := by
      obtain ⟨⟨a1, a2, a3, a4, a5, a6, a7⟩, a8⟩ := hV
      refine ⟨⟨?_, ?_, ?_, ?_, ?_, h7, ?_⟩, by omega⟩
      · rw [h41 5 (by omega), h41 6 (by omega)]; exact a1
      · rw [h41 8 (by omega)]; exact a2
      · rw [h41 10 (by omega), h41 20 (by omega), h41 29 (by omega), h41 24 (by omega), h41 11 (by omega), h41 12 (by omega), h41 13 (by omega)]; exact a3
      · rw [h41 32 (by omega), h41 33 (by omega), h41 35 (by omega)]; exact a4
      · rw [h41 22 (by omega), h41 23 (by omega), h41 24 (by omega), h41 25 (by omega), h41 26 (by omega)]; exact a5
      · rw [h41 20 (by omega), h41 30 (by omega), h41 37 (by omega), h41 36 (by omega)]; exact a7
    exact s_in ht s1 hI2 hq en htk t6 hT0 hin (hrest n20 en h41)
  rcases hc with ⟨r_4, hhas, c1, r_9, B_11, R_12, hF, hQ, htakeOut, n_20, hn_20, U_24, hF_1, htakeIn, eZ, eZR, rfl⟩ | ⟨r_4, hhas, c1, eZ, eZR, rfl⟩
  · rw [hS.1.2.2] at hhas htakeOut
    have k := e_has hhas
    rw [eZ, eZR]
    rcases hd with ⟨c1d, rfl, rfl, rfl, rfl⟩ | ⟨c1d, c2d, ur_3d, hmove1d, c3d, ur_4d, hdropd, c4d, c5d, n_10d, hn_10d, c6d, c7d, c8d, c9d, ur_19d, hrefusedd, c10d, c11d, c12d, c13d, c14d, c15d, c16d, c17d, rfl, rfl, rfl, rfl⟩ | ⟨c1d, c2d, ur_3d, hmove1d, c3d, ur_4d, hdropd, c4d, c5d, n_10d, hn_10d, c6d, c7d, c8d, c9d, x_22d, ex_22d, x_23d, ex_23d, ur_24d, hanswerSomed, c10d, c11d, c12d, c13d, rfl, rfl, rfl, rfl⟩ | ⟨c1d, c2d, ur_3d, hmove1d, c3d, ur_4d, hdropd, c4d, c5d, n_10d, hn_10d, c6d, c7d, c8d, ur_25d, hrepliedd, c9d, c10d, c11d, c12d, rfl, rfl, rfl, rfl⟩ | ⟨c1d, c2d, ur_3d, hmove1d, c3d, ur_4d, hdropd, c4d, c5d, n_10d, hn_10d, c6d, c7d, ur_26d, haskedd, c8d, c9d, c10d, c11d, c12d, c13d, c14d, c15d, rfl, rfl, rfl, rfl⟩ | ⟨c1d, c2d, ur_3d, hmove1d, c3d, ur_4d, hdropd, c4d, c5d, n_10d, hn_10d, c6d, rfl, rfl, rfl, rfl⟩ | ⟨c1d, c2d, rfl, rfl, rfl, rfl⟩
    · exfalso; omega
    · exact ⟨main (by omega) (by omega) htakeOut hn_20 htakeIn hmove1d hdropd c4d (fun n en _ => Or.inr ⟨by
        obtain rfl : n_10d = n := Int.ofNat_inj.mp (hn_10d.trans en.symm)
        exact c6d, Or.inl ⟨c7d, c8d, c9d, _, hrefusedd⟩⟩), rfl⟩
    · exact ⟨main (by omega) (by omega) htakeOut hn_20 htakeIn hmove1d hdropd c4d (fun n en _ => Or.inr ⟨by
        obtain rfl : n_10d = n := Int.ofNat_inj.mp (hn_10d.trans en.symm)
        exact c6d, Or.inr (Or.inl ⟨c9d, _, _, by
          obtain rfl : n_10d = n := Int.ofNat_inj.mp (hn_10d.trans en.symm)
          rw [ex_23d, ex_22d]; rfl, hanswerSomed⟩)⟩), rfl⟩
    · exact ⟨main (by omega) (by omega) htakeOut hn_20 htakeIn hmove1d hdropd c4d (fun n en _ => Or.inr ⟨by
        obtain rfl : n_10d = n := Int.ofNat_inj.mp (hn_10d.trans en.symm)
        exact c6d, Or.inr (Or.inr (Or.inl ⟨c8d, _, hrepliedd⟩))⟩), rfl⟩
    · exact ⟨main (by omega) (by omega) htakeOut hn_20 htakeIn hmove1d hdropd c4d (fun n en _ => Or.inr ⟨by
        obtain rfl : n_10d = n := Int.ofNat_inj.mp (hn_10d.trans en.symm)
        exact c6d, Or.inr (Or.inr (Or.inr ⟨c7d, _, haskedd⟩))⟩), rfl⟩
    · exact ⟨main (by omega) (by omega) htakeOut hn_20 htakeIn hmove1d hdropd c4d (fun n en _ => Or.inl ⟨by
        obtain rfl : n_10d = n := Int.ofNat_inj.mp (hn_10d.trans en.symm)
        exact c6d, rfl, rfl⟩), rfl⟩
    · exfalso; omega
  · rw [hS.1.2.2] at hhas
    have k := e_has hhas
    rw [eZ, eZR]
    rcases hd with ⟨c1d, rfl, rfl, rfl, rfl⟩ | ⟨c1d, c2d, ur_3d, hmove1d, c3d, ur_4d, hdropd, c4d, c5d, n_10d, hn_10d, c6d, c7d, c8d, c9d, ur_19d, hrefusedd, c10d, c11d, c12d, c13d, c14d, c15d, c16d, c17d, rfl, rfl, rfl, rfl⟩ | ⟨c1d, c2d, ur_3d, hmove1d, c3d, ur_4d, hdropd, c4d, c5d, n_10d, hn_10d, c6d, c7d, c8d, c9d, x_22d, ex_22d, x_23d, ex_23d, ur_24d, hanswerSomed, c10d, c11d, c12d, c13d, rfl, rfl, rfl, rfl⟩ | ⟨c1d, c2d, ur_3d, hmove1d, c3d, ur_4d, hdropd, c4d, c5d, n_10d, hn_10d, c6d, c7d, c8d, ur_25d, hrepliedd, c9d, c10d, c11d, c12d, rfl, rfl, rfl, rfl⟩ | ⟨c1d, c2d, ur_3d, hmove1d, c3d, ur_4d, hdropd, c4d, c5d, n_10d, hn_10d, c6d, c7d, ur_26d, haskedd, c8d, c9d, c10d, c11d, c12d, c13d, c14d, c15d, rfl, rfl, rfl, rfl⟩ | ⟨c1d, c2d, ur_3d, hmove1d, c3d, ur_4d, hdropd, c4d, c5d, n_10d, hn_10d, c6d, rfl, rfl, rfl, rfl⟩ | ⟨c1d, c2d, rfl, rfl, rfl, rfl⟩
    · exact ⟨h, rfl⟩
    · exfalso; omega
    · exfalso; omega
    · exfalso; omega
    · exfalso; omega
    · exfalso; omega
    · exact ⟨h, rfl⟩
