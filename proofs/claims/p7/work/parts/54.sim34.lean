theorem e_kept {x q : Nat} {G : Nat → Nat} {B : AA} {R : RR} {num r : Int32} (hS : SHX x R) (hq : q < 4) (h : C_X8_keptAdd G B R (x + 85 + 17 * q) num r) : (r.toInt = -1 ∧ (B (x + 86 + 17 * q) 0).toInt ≠ num.toInt ∧ (B (x + 86 + 17 * q) 1).toInt ≠ num.toInt) ∨ (r.toInt = 0 ∧ (B (x + 86 + 17 * q) 0).toInt = num.toInt) ∨ (r.toInt = 1 ∧ (B (x + 86 + 17 * q) 0).toInt ≠ num.toInt ∧ (B (x + 86 + 17 * q) 1).toInt = num.toInt) := by
  unfold C_X8_keptAdd at h
  rw [(hS.2.2.2.2.2.1 q hq).2.2.2.1] at h
  rcases h with ⟨c1, c2, rfl⟩ | ⟨c1, c2, rfl⟩ | ⟨c1, rfl⟩
  · exact Or.inl ⟨by decide, c1, c2⟩
  · exact Or.inr (Or.inr ⟨by decide, c1, c2⟩)
  · exact Or.inr (Or.inl ⟨by decide, c1⟩)
/-- a request that came before -/
theorem s_again {x q tk : Nat} {G : Nat → Nat} {t0 t1 t2 : Int32} {B : AA} {R : RR} {A : AA} {pk cd : Int32} (h : SIM x t0 t1 t2 B R A pk) (hV : RW A pk) (hI2 : I2 (A 5) (A 6)) (hq : q < 4) (hst : (A 10 q).toInt = 1) {p : Int32} (hp : (q : Int) = p.toInt) (htk : R (x + 1) 2 = x + 3 + 2 * tk) (hT : TKP x tk B A) (hk : (A 42 24).toInt ≤ 3) (hmk : (A 42 24).toInt < 1 ∨ (0 ≤ (A 45 24).toInt ∧ (A 45 24).toInt ≤ 5)) (hpl : -1 ≤ (A 46 24).toInt ∧ (A 46 24).toInt ≤ 60) (h37 : 0 ≤ (A 37 q).toInt ∧ (A 37 q).toInt ≤ 2) {Z : AA} (hc : C_X8_answerAgain G B R (x + 85 + 17 * q) (x + 3 + 2 * tk) Z) {A' : AA} {cdz pkz : Int32} (hd : D_X10_again A cd pk p A' cdz pkz) : SIM x t0 t1 t2 Z R A' pkz := by
  have hh := h
  obtain ⟨hS, -, -, -, -, hPQ⟩ := hh
  obtain ⟨hC, hPS, -, -, hAD⟩ := hPQ q hq
  have p6 := hPS.2.2.2.2.2.1
  have p2s := hPS.2.1 hst
  have hT0 := hT
  obtain ⟨⟨y0, y1, y2, y3, y4, y5, y6⟩, yc, ⟨y7, y8, -, -, y11, y12⟩⟩ := hT
  have hsh := hS.2.2.2.2.2.1 q hq
  have y1i := congrArg Int32.toInt y1
  have y2i := congrArg Int32.toInt y2
  have i1 := i_1t
  have i4 := i_4
  have i5 : (5 : Int32).toInt = 5 := by decide
  have im : (-1 : Int32).toInt = -1 := by decide
  have eto : B (x + 85 + 17 * q) 0 = peerT p := i32_eq (by rw [hC.2.2.2.2.1, peer_e hq hp])
  obtain ⟨np, hnp, h24⟩ := h.np hV
  have fin : ∀ {X Y : AA} {w : Int32}, X = Y → SIM x t0 t1 t2 Z R X w → SIM x t0 t1 t2 Z R Y w := fun e k => e ▸ k
  have rep : ∀ {U A2 : AA} {v w c k : Int32}, C_X8_replyOne G B R (x + 85 + 17 * q) (B (x + 3 + 2 * tk) 2) v U → D_X10_replyOld A cd pk p w A2 c k → v = w → SIM x t0 t1 t2 U R A2 k := fun hr hd e => by
    subst e
    have hEC := e_replyOne hS hq hnp h24 hr
    rw [eto, y2] at hEC
    exact (h.em hV hEC (r_replyOld hd hV.2.2) ⟨y7, by omega, fun e => by omega, fun e => by omega, fun _ => by omega, fun e => by omega⟩).1
  have ad0 : 0 < (A 37 q).toInt → B (x + 86 + 17 * q) 0 = A 38 (2 * q) ∧ B (x + 87 + 17 * q) 0 = A 39 (2 * q) := fun e => hAD.1 0 (by omega) (by omega)
  have ad1 : 1 < (A 37 q).toInt → B (x + 86 + 17 * q) 1 = A 38 (2 * q + 1) ∧ B (x + 87 + 17 * q) 1 = A 39 (2 * q + 1) := fun e => hAD.1 1 (by omega) (by omega)
  have an0 : (A 37 q).toInt ≤ 0 → (B (x + 86 + 17 * q) 0).toInt = -1 := fun e => by rw [hAD.2 0 (by omega) (by omega)]; exact im
  have an1 : (A 37 q).toInt ≤ 1 → (B (x + 86 + 17 * q) 1).toInt = -1 := fun e => by rw [hAD.2 1 (by omega) (by omega)]; exact im
  unfold C_X8_answerAgain at hc
  rw [hsh.1, hsh.2.2.2.2] at hc
  rcases hd with ⟨c1d, c2d, n_9d, hn_9d, x_13d, ex_13d, fx_13d, c3d, rfl, rfl, rfl⟩ | ⟨c1d, c2d, n_9d, hn_9d, x_13d, ex_13d, fx_13d, c3d, x_16d, ex_16d, fx_16d, x_17d, ex_17d, fx_17d, n_20d, hn_20d, c4d, x_23d, c5d, fx_23d, c6d, rfl, rfl, rfl⟩ | ⟨c1d, c2d, n_9d, hn_9d, x_13d, ex_13d, fx_13d, c3d, x_16d, ex_16d, fx_16d, x_17d, ex_17d, fx_17d, n_20d, hn_20d, c4d, x_23d, c5d, fx_23d, c6d, x_26d, ex_26d, fx_26d, n_29d, hn_29d, c7d, x_32d, c8d, fx_32d, rfl, rfl, rfl⟩ | ⟨c1d, c2d, n_9d, hn_9d, x_13d, ex_13d, fx_13d, c3d, x_16d, ex_16d, fx_16d, x_17d, ex_17d, fx_17d, n_20d, hn_20d, c4d, x_23d, c5d, fx_23d, c6d, x_26d, ex_26d, fx_26d, n_29d, hn_29d, c7d, x_35d, c8d, fx_35d, ur_39d, hreplyOldd, c9d, c10d, c11d, rfl, rfl, rfl⟩ | ⟨c1d, c2d, n_9d, hn_9d, x_13d, ex_13d, fx_13d, c3d, x_16d, ex_16d, fx_16d, x_17d, ex_17d, fx_17d, n_20d, hn_20d, c4d, x_40d, c5d, fx_40d, c6d, ur_44d, hreplyOldd, c7d, c8d, c9d, rfl, rfl, rfl⟩ | ⟨c1d, c2d, n_9d, hn_9d, x_13d, ex_13d, fx_13d, c3d, x_16d, ex_16d, fx_16d, x_17d, ex_17d, fx_17d, n_20d, hn_20d, c4d, x_40d, c5d, fx_40d, c6d, x_45d, ex_45d, fx_45d, n_48d, hn_48d, c7d, x_51d, c8d, fx_51d, ur_55d, hreplyOldd, c9d, c10d, c11d, rfl, rfl, rfl⟩ | ⟨c1d, c2d, n_9d, hn_9d, x_13d, ex_13d, fx_13d, c3d, x_16d, ex_16d, fx_16d, x_17d, ex_17d, fx_17d, n_20d, hn_20d, c4d, x_40d, c5d, fx_40d, c6d, x_45d, ex_45d, fx_45d, n_48d, hn_48d, c7d, x_56d, c8d, fx_56d, ur_60d, hreplyOldd, c9d, c10d, c11d, rfl, rfl, rfl⟩ | ⟨c1d, c2d, r_68d, hallowsd, er_68d, c3d, rfl, rfl, rfl⟩ | ⟨c1d, c2d, r_68d, hallowsd, er_68d, c3d, ur_70d, hreadsd, c4d, c5d, rfl, rfl, rfl⟩ | ⟨c1d, n_73d, hn_73d, x_74d, ex_74d, x_75d, ex_75d, ur_76d, hackd, c2d, c3d, c4d, rfl, rfl, rfl⟩
  · obtain rfl : n_9d = q := by omega
    have q0 := an0 (by omega)
    have q1 := an1 (by omega)
    rcases hc with ⟨c1, c2, r_5, er_5, U_8, hF, hacknowledge, eZ⟩ | ⟨c1, c2, r_10, hkeptAdd, c3, eZ⟩ | ⟨c1, c2, r_10, hkeptAdd, c3, n_17, hn_17, U_19, hF, hreplyOne, eZ⟩ | ⟨c1, r_22, hisAllowed, c2, eZ⟩ | ⟨c1, r_22, hisAllowed, c2, U_26, hF, hreplyCells, eZ⟩
    · exfalso; omega
    · rw [eZ]; simp only [uA_ii]; exact h
    · have k := e_kept hS hq hkeptAdd; exfalso; omega
    · exfalso; omega
    · exfalso; omega
  · obtain rfl : n_9d = q := by omega
    obtain rfl : n_20d = 2 * n_9d := by omega
    have q0 := congrArg Int32.toInt (ad0 (by omega)).1
    have q1 := an1 (by omega)
    rcases hc with ⟨c1, c2, r_5, er_5, U_8, hF, hacknowledge, eZ⟩ | ⟨c1, c2, r_10, hkeptAdd, c3, eZ⟩ | ⟨c1, c2, r_10, hkeptAdd, c3, n_17, hn_17, U_19, hF, hreplyOne, eZ⟩ | ⟨c1, r_22, hisAllowed, c2, eZ⟩ | ⟨c1, r_22, hisAllowed, c2, U_26, hF, hreplyCells, eZ⟩
    · exfalso; omega
    · rw [eZ]; simp only [uA_ii]; exact h
    · have k := e_kept hS hq hkeptAdd; exfalso; omega
    · exfalso; omega
    · exfalso; omega
  · obtain rfl : n_9d = q := by omega
    obtain rfl : n_20d = 2 * n_9d + 1 := by omega
    obtain rfl : n_29d = 2 * n_9d := by omega
    have q0 := congrArg Int32.toInt (ad0 (by omega)).1
    have q1 := congrArg Int32.toInt (ad1 (by omega)).1
    rcases hc with ⟨c1, c2, r_5, er_5, U_8, hF, hacknowledge, eZ⟩ | ⟨c1, c2, r_10, hkeptAdd, c3, eZ⟩ | ⟨c1, c2, r_10, hkeptAdd, c3, n_17, hn_17, U_19, hF, hreplyOne, eZ⟩ | ⟨c1, r_22, hisAllowed, c2, eZ⟩ | ⟨c1, r_22, hisAllowed, c2, U_26, hF, hreplyCells, eZ⟩
    · exfalso; omega
    · rw [eZ]; simp only [uA_ii]; exact h
    · have k := e_kept hS hq hkeptAdd; exfalso; omega
    · exfalso; omega
    · exfalso; omega
  · obtain rfl : n_9d = q := by omega
    obtain rfl : n_20d = 2 * n_9d + 1 := by omega
    obtain rfl : n_29d = 2 * n_9d := by omega
    have q0 := congrArg Int32.toInt (ad0 (by omega)).1
    have q1 := congrArg Int32.toInt (ad1 (by omega)).1
    rcases hc with ⟨c1, c2, r_5, er_5, U_8, hF, hacknowledge, eZ⟩ | ⟨c1, c2, r_10, hkeptAdd, c3, eZ⟩ | ⟨c1, c2, r_10, hkeptAdd, c3, n_17, hn_17, U_19, hF, hreplyOne, eZ⟩ | ⟨c1, r_22, hisAllowed, c2, eZ⟩ | ⟨c1, r_22, hisAllowed, c2, U_26, hF, hreplyCells, eZ⟩
    · exfalso; omega
    · have k := e_kept hS hq hkeptAdd; exfalso; omega
    · have k := e_kept hS hq hkeptAdd
      obtain rfl : n_17 = 0 := by omega
      rw [eZ]; exact rep hreplyOne hreplyOldd (ad0 (by omega)).2
    · exfalso; omega
    · exfalso; omega
  · obtain rfl : n_9d = q := by omega
    obtain rfl : n_20d = 2 * n_9d := by omega
    have q0 := congrArg Int32.toInt (ad0 (by omega)).1
    have q1 := an1 (by omega)
    rcases hc with ⟨c1, c2, r_5, er_5, U_8, hF, hacknowledge, eZ⟩ | ⟨c1, c2, r_10, hkeptAdd, c3, eZ⟩ | ⟨c1, c2, r_10, hkeptAdd, c3, n_17, hn_17, U_19, hF, hreplyOne, eZ⟩ | ⟨c1, r_22, hisAllowed, c2, eZ⟩ | ⟨c1, r_22, hisAllowed, c2, U_26, hF, hreplyCells, eZ⟩
    · exfalso; omega
    · have k := e_kept hS hq hkeptAdd; exfalso; omega
    · have k := e_kept hS hq hkeptAdd
      obtain rfl : n_17 = 0 := by omega
      rw [eZ]; exact rep hreplyOne hreplyOldd (ad0 (by omega)).2
    · exfalso; omega
    · exfalso; omega
  · obtain rfl : n_9d = q := by omega
    obtain rfl : n_20d = 2 * n_9d + 1 := by omega
    obtain rfl : n_48d = 2 * n_9d := by omega
    have q0 := congrArg Int32.toInt (ad0 (by omega)).1
    have q1 := congrArg Int32.toInt (ad1 (by omega)).1
    rcases hc with ⟨c1, c2, r_5, er_5, U_8, hF, hacknowledge, eZ⟩ | ⟨c1, c2, r_10, hkeptAdd, c3, eZ⟩ | ⟨c1, c2, r_10, hkeptAdd, c3, n_17, hn_17, U_19, hF, hreplyOne, eZ⟩ | ⟨c1, r_22, hisAllowed, c2, eZ⟩ | ⟨c1, r_22, hisAllowed, c2, U_26, hF, hreplyCells, eZ⟩
    · exfalso; omega
    · have k := e_kept hS hq hkeptAdd; exfalso; omega
    · have k := e_kept hS hq hkeptAdd
      obtain rfl : n_17 = 1 := by omega
      rw [eZ]; exact rep hreplyOne hreplyOldd (ad1 (by omega)).2
    · exfalso; omega
    · exfalso; omega
  · obtain rfl : n_9d = q := by omega
    obtain rfl : n_20d = 2 * n_9d + 1 := by omega
    obtain rfl : n_48d = 2 * n_9d := by omega
    have q0 := congrArg Int32.toInt (ad0 (by omega)).1
    have q1 := congrArg Int32.toInt (ad1 (by omega)).1
    rcases hc with ⟨c1, c2, r_5, er_5, U_8, hF, hacknowledge, eZ⟩ | ⟨c1, c2, r_10, hkeptAdd, c3, eZ⟩ | ⟨c1, c2, r_10, hkeptAdd, c3, n_17, hn_17, U_19, hF, hreplyOne, eZ⟩ | ⟨c1, r_22, hisAllowed, c2, eZ⟩ | ⟨c1, r_22, hisAllowed, c2, U_26, hF, hreplyCells, eZ⟩
    · exfalso; omega
    · have k := e_kept hS hq hkeptAdd; exfalso; omega
    · have k := e_kept hS hq hkeptAdd
      obtain rfl : n_17 = 0 := by omega
      rw [eZ]; exact rep hreplyOne hreplyOldd (ad0 (by omega)).2
    · exfalso; omega
    · exfalso; omega
  · have sz := y12 c2d
    rcases hc with ⟨c1, c2, r_5, er_5, U_8, hF, hacknowledge, eZ⟩ | ⟨c1, c2, r_10, hkeptAdd, c3, eZ⟩ | ⟨c1, c2, r_10, hkeptAdd, c3, n_17, hn_17, U_19, hF, hreplyOne, eZ⟩ | ⟨c1, r_22, hisAllowed, c2, eZ⟩ | ⟨c1, r_22, hisAllowed, c2, U_26, hF, hreplyCells, eZ⟩
    · exfalso; omega
    · exfalso; omega
    · exfalso; omega
    · rw [eZ]; simp only [uA_ii]; exact h
    · rcases e_isAllowed hisAllowed with ⟨k, -⟩ | ⟨k, ka⟩ | ⟨-, k, -⟩
      · exfalso; omega
      · rw [y3, y4, y5] at ka
        have k2 := s_allows h hI2 hq hp (by omega) hpl sz (Or.inr (Or.inl rfl)) ka hallowsd
        exfalso; omega
      · exfalso; omega
  · have sz := y12 c2d
    rcases hc with ⟨c1, c2, r_5, er_5, U_8, hF, hacknowledge, eZ⟩ | ⟨c1, c2, r_10, hkeptAdd, c3, eZ⟩ | ⟨c1, c2, r_10, hkeptAdd, c3, n_17, hn_17, U_19, hF, hreplyOne, eZ⟩ | ⟨c1, r_22, hisAllowed, c2, eZ⟩ | ⟨c1, r_22, hisAllowed, c2, U_26, hF, hreplyCells, eZ⟩
    · exfalso; omega
    · exfalso; omega
    · exfalso; omega
    · rcases e_isAllowed hisAllowed with ⟨k, -⟩ | ⟨k, ka⟩ | ⟨-, k, -⟩
      · exfalso; omega
      · rw [y3, y4, y5] at ka
        have k2 := s_allows h hI2 hq hp (by omega) hpl sz (Or.inr (Or.inl rfl)) ka hallowsd
        exfalso; omega
      · exfalso; omega
    · rcases e_isAllowed hisAllowed with ⟨k, -⟩ | ⟨k, ka⟩ | ⟨-, k, -⟩
      · exfalso; omega
      · rw [y3, y4, y5] at ka
        have k2 := s_allows h hI2 hq hp (by omega) hpl sz (Or.inr (Or.inl rfl)) ka hallowsd
        rw [eZ]
        exact (s_reads h hV hq hp htk hT0 sz.2 (by omega) hreplyCells hreadsd).1
      · exfalso; omega
  · obtain rfl : n_73d = q := by omega
    rcases hc with ⟨c1, c2, r_5, er_5, U_8, hF, hacknowledge, eZ⟩ | ⟨c1, c2, r_10, hkeptAdd, c3, eZ⟩ | ⟨c1, c2, r_10, hkeptAdd, c3, n_17, hn_17, U_19, hF, hreplyOne, eZ⟩ | ⟨c1, r_22, hisAllowed, c2, eZ⟩ | ⟨c1, r_22, hisAllowed, c2, U_26, hF, hreplyCells, eZ⟩
    · have hEC := e_ack (c := fun _ => 0) hS hq hnp h24 hacknowledge
      have i63 : (63 : Int32).toInt = 63 := by decide
      have e75 : x_75d.toInt = ((A 14 n_73d).toInt + 63) % 64 := by
        have k := mod64 (y := x_75d) (k := 63) p6 (by decide) (by rw [ex_75d, ex_74d])
        rw [i63] at k
        exact k
      have enm : r_5 = x_75d := i32_eq (by rw [er_5, bef, p2s.2.2.2, e75]; omega)
      rw [eto, enm] at hEC
      have hE := r_ack (c := fun _ => 0) hackd hV.2.2
      have m1 := (h.em hV hEC hE ⟨by rw [e75]; omega, by omega, fun e => by omega, fun e => by omega, fun e => by omega, fun e => by omega⟩).1
      rw [eZ]
      rw [eZ] at fin
      exact fin (uA_i rfl).symm m1
    · exfalso; omega
    · exfalso; omega
    · exfalso; omega
    · exfalso; omega
/-- that the sequence was told -/
theorem SIM.told {x q : Nat} {t0 t1 t2 : Int32} {B : AA} {R : RR} {A : AA} {pk v : Int32} (h : SIM x t0 t1 t2 B R A pk) (hV : RW A pk) (hq : q < 4) (hst : (A 10 q).toInt = 1) (hv : v = 1) : SIM x t0 t1 t2 (uA B (x + 85 + 17 * q) (upd (B (x + 85 + 17 * q)) 6 1)) R (uA A 19 (upd (A 19) q v)) pk := by
  obtain ⟨p1, p2, p3, p4, p5, p6, p7, p8, p9, p10⟩ := (h.2.2.2.2.2 q hq).2.1
  have p2s := p2 hst
  subst hv
  exact (h.rs (A' := uA A 19 (upd (A 19) q 1)) (f := upd (B (x + 85 + 17 * q)) 6 1) hV hq rfl (fun j hj => by rw [uA_n (by omega)]) (fun j k hk => by
    by_cases e : j = 19
    · subst e; exact upd_n hk
    · rw [uA_n e]) p2s.2.2.2 upd_s.symm p5.2 p6 (by
    show B01 (upd (A 19) q 1 q)
    rw [upd_s]; exact Or.inr rfl) p10).1
theorem r_fresh0 {A : AA} {cd pk p : Int32} {A' : AA} {cdz pkz : Int32} (h : D_X10_fresh A cd pk p A' cdz pkz) (h0 : (A 42 24).toInt = 0) : D_X10_freshSend A cd pk p A' cdz pkz := by
  rcases h with ⟨c1, c2, c3, c4, r_16, hallows, er_16, c5, ur_20, hfreshAdd, c6, c7, c8, rfl, rfl, rfl⟩ | ⟨c1, c2, c3, c4, r_16, hallows, er_16, c5, ur_21, hrefuse, c6, c7, c8, c9, c10, rfl, rfl, rfl⟩ | ⟨c1, c2, c3, c4, r_22, hallows, er_22, c5, c6, ur_26, hfreshAdd, c7, c8, c9, rfl, rfl, rfl⟩ | ⟨c1, c2, c3, c4, r_22, hallows, er_22, c5, c6, ur_27, hreads, c7, c8, x_28, ex_28, fx_28, x_29, ex_29, fx_29, ur_30, haccept, rfl, rfl, rfl⟩ | ⟨c1, c2, c3, c4, r_22, hallows, er_22, c5, ur_31, hrefuse, c6, c7, c8, c9, c10, rfl, rfl, rfl⟩ | ⟨c1, c2, c3, r_32, hallows, er_32, c4, c5, ur_36, hfreshAdd, c6, c7, c8, rfl, rfl, rfl⟩ | ⟨c1, c2, c3, r_32, hallows, er_32, c4, c5, x_37, ex_37, fx_37, x_38, ex_38, fx_38, x_40, ex_40, fx_40, ur_41, htakeCells, ur_42, haccept, ur_44, hack, c6, c7, c8, rfl, rfl, rfl⟩ | ⟨c1, c2, c3, r_32, hallows, er_32, c4, ur_45, hrefuse, c5, c6, c7, c8, c9, rfl, rfl, rfl⟩ | ⟨c1, c2, r_52, hallows, er_52, c3, ur_56, hfreshAdd, c4, c5, c6, rfl, rfl, rfl⟩ | ⟨c1, c2, r_52, hallows, er_52, c3, ur_57, hrefuse, c4, c5, c6, c7, c8, rfl, rfl, rfl⟩ | ⟨c1, ur_58, hfreshSend, c2, c3, c4, c5, c6, c7, c8, c9, rfl, rfl, rfl⟩
  · exact absurd h0 c1
  · exact absurd h0 c1
  · exact absurd h0 c1
  · exact absurd h0 c1
  · exact absurd h0 c1
  · exact absurd h0 c1
  · exact absurd h0 c1
  · exact absurd h0 c1
  · exact absurd h0 c1
  · exact absurd h0 c1
  · exact hfreshSend
/-- a request's packet -/
theorem s_asked {x q tk : Nat} {G : Nat → Nat} {t0 t1 t2 : Int32} {B : AA} {R : RR} {A : AA} {pk cd : Int32} (h : SIM x t0 t1 t2 B R A pk) (hI : RIV A pk) (hq : q < 4) (hst : (A 10 q).toInt = 1) {p : Int32} (hp : (q : Int) = p.toInt) (htk : R (x + 1) 2 = x + 3 + 2 * tk) (htk6 : tk < 26) (hT : TKP x tk B A) (hk : (A 42 24).toInt ≤ 3) {U : AA} {r : Int32} (hc : C_X8_takeIn G B R (x + 85 + 17 * q) (x + 3 + 2 * tk) U r) {Z : AA} (hf : (r.toInt = 0 ∧ Z = U) ∨ (¬ r.toInt = 0 ∧ C_X3_fail G U R (x + 84 + 17 * q) 5 r Z)) {A' : AA} {cdz pkz : Int32} (hd : D_X10_asked A cd pk p A' cdz pkz) : SIM x t0 t1 t2 Z R A' pkz := by
  have hV := hI.w
  have hh := h
  obtain ⟨hS, -, -, -, -, hPQ⟩ := hh
  obtain ⟨hC, hPS, -, -, -⟩ := hPQ q hq
  obtain ⟨p1, p2, p3, p4, p5, p6, p7, p8, p9, p10⟩ := hPS
  have p2s := p2 hst
  have hT0 := hT
  obtain ⟨⟨y0, y1, y2, y3, y4, y5, y6⟩, yc, ⟨y7, y8, -, -, y11, y12⟩⟩ := hT
  have y1i := congrArg Int32.toInt y1
  have i7 := hI.1.2.2.2.2.2.1 24 (by decide)
  have i8 := hI.1.2.2.2.2.2.2 q hq
  have i0 := i_0
  have i1 := i_1t
  have i6 : (6 : Int32).toInt = 6 := by decide
  have e3 : ∀ {v : Int32}, v = ((B (x + 3 + 2 * tk) 2) - (B (x + 85 + 17 * q) 4)) &&& 63 → v.toInt = ((A 43 24).toInt - (A 14 q).toInt) % 64 := fun e => by rw [e, dst, y2, p2s.2.2.2]
  have e5 : ∀ {v : Int32}, v = ((((A 43) 24) - ((A 14) q)) + 64) - ((((A 43) 24) - ((A 14) q)) + 64) / 64 * 64 → v.toInt = ((A 43 24).toInt - (A 14 q).toInt) % 64 := fun e => by rw [e]; exact far_m p6 y7
  have p5i := congrArg Int32.toInt p5.1
  rcases hd with ⟨n_3d, hn_3d, x_5d, ex_5d, c1d, c2d, c3d, rfl, rfl, rfl⟩ | ⟨n_3d, hn_3d, x_5d, ex_5d, c1d, c2d, c3d, ur_11d, r_11d, hemitd, c4d, c5d, c6d, c7d, c8d, v_12d, c9d, g_14d, rfl, rfl, rfl, rfl⟩ | ⟨n_3d, hn_3d, x_5d, ex_5d, c1d, c2d, ur_15d, hagaind, c3d, c4d, rfl, rfl, rfl⟩ | ⟨n_3d, hn_3d, x_5d, ex_5d, fx_5d, ur_16d, hfreshd, c1d, c2d, c3d, c4d, c5d, c6d, c7d, c8d, rfl, rfl, rfl⟩
  · obtain rfl : n_3d = q := by omega
    have h5 := e5 ex_5d
    rcases hc with ⟨x_3, ex_3, c1, c2, c3, r_7, U_8, hF, htakeReach, eZ, rfl⟩ | ⟨x_3, ex_3, c1, c2, c3, r_9, U_10, hF, htakeSend, eZ, rfl⟩ | ⟨x_3, ex_3, c1, c2, U_12, hF, htellSequence, eZ, rfl⟩ | ⟨x_3, ex_3, c1, U_14, hF, hanswerAgain, eZ, rfl⟩
    · have := e3 ex_3; exfalso; omega
    · have := e3 ex_3; exfalso; omega
    · have hz := (hf.resolve_right (fun e => e.1 i0)).2
      rw [hz, eZ]
      rcases htellSequence with ⟨c1s, eZs⟩ | ⟨c1s, U_4s, hFs, hrefuses, B_6s, rfl, eZs⟩
      · rw [eZs]; exact h
      · exfalso; omega
    · have := e3 ex_3; exfalso; omega
  · obtain rfl : n_3d = q := by omega
    have h5 := e5 ex_5d
    rcases hc with ⟨x_3, ex_3, c1, c2, c3, r_7, U_8, hF, htakeReach, eZ, rfl⟩ | ⟨x_3, ex_3, c1, c2, c3, r_9, U_10, hF, htakeSend, eZ, rfl⟩ | ⟨x_3, ex_3, c1, c2, U_12, hF, htellSequence, eZ, rfl⟩ | ⟨x_3, ex_3, c1, U_14, hF, hanswerAgain, eZ, rfl⟩
    · have := e3 ex_3; exfalso; omega
    · have := e3 ex_3; exfalso; omega
    · have hz := (hf.resolve_right (fun e => e.1 i0)).2
      rw [hz, eZ]
      rcases htellSequence with ⟨c1s, eZs⟩ | ⟨c1s, U_4s, hFs, hrefuses, B_6s, rfl, eZs⟩
      · exfalso; omega
      · rw [eZs]
        obtain ⟨np, hnp, h24⟩ := h.np hV
        have eto : B (x + 85 + 17 * n_3d) 0 = peerT p := i32_eq (by rw [hC.2.2.2.2.1, peer_e hq hp])
        have hEC := e_refuse (c := fun _ => 0) hS hq hnp h24 hrefuses
        rw [eto, p2s.2.2.2] at hEC
        obtain ⟨m1, m2, m3, m4, m5, m6⟩ := h.em hV hEC (EMR.none (c := fun _ => 0) hemitd hV.2.2) ⟨p6, by omega, fun e => by omega, fun _ => by omega, fun e => by omega, fun e => by omega⟩
        have eS := m4 (x + 85 + 17 * n_3d) (by omega)
        exact m1.told m2 hq (by rw [m5 10 (by omega)]; exact hst) (by rw [c9d]; rfl)
    · have := e3 ex_3; exfalso; omega
  · obtain rfl : n_3d = q := by omega
    have h5 := e5 ex_5d
    rcases hc with ⟨x_3, ex_3, c1, c2, c3, r_7, U_8, hF, htakeReach, eZ, rfl⟩ | ⟨x_3, ex_3, c1, c2, c3, r_9, U_10, hF, htakeSend, eZ, rfl⟩ | ⟨x_3, ex_3, c1, c2, U_12, hF, htellSequence, eZ, rfl⟩ | ⟨x_3, ex_3, c1, U_14, hF, hanswerAgain, eZ, rfl⟩
    · have := e3 ex_3; exfalso; omega
    · have := e3 ex_3; exfalso; omega
    · have := e3 ex_3; exfalso; omega
    · have hz := (hf.resolve_right (fun e => e.1 i0)).2
      rw [hz, eZ]
      exact s_again h hV hI.1.1 hq hst hp htk hT0 hk (by omega) (by omega) (by omega) hanswerAgain hagaind
  · obtain rfl : n_3d = q := by omega
    have h5 := e5 ex_5d
    rcases hc with ⟨x_3, ex_3, c1, c2, c3, r_7, U_8, hF, htakeReach, eZ, rfl⟩ | ⟨x_3, ex_3, c1, c2, c3, r_9, U_10, hF, htakeSend, eZ, rfl⟩ | ⟨x_3, ex_3, c1, c2, U_12, hF, htellSequence, eZ, rfl⟩ | ⟨x_3, ex_3, c1, U_14, hF, hanswerAgain, eZ, rfl⟩
    · rw [eZ] at hf
      exact s_takeReach h hV hI.1.1 hq hst hp htk htk6 hT0 (by omega) (by omega) (by omega) (by omega) htakeReach hf hfreshd
    · rw [eZ] at hf
      exact s_takeSend h hV hq hst hp htk htk6 hT0 (by omega) (by omega) (hI.1.2.2.2.1 (4 * n_3d) (by omega)) htakeSend hf (r_fresh0 hfreshd (by omega))
    · have := e3 ex_3; exfalso; omega
    · have := e3 ex_3; exfalso; omega
