/-- spoil -/
theorem s_spoilC {x : Nat} {G : Nat → Nat} {t0 t1 t2 : Int32} {B : AA} {R : RR} {A : AA} {pk cd p0 p1 : Int32} (h : SIM x t0 t1 t2 B R A pk) (hV : RIV A pk) {Z : AA} {ZR : RR} {r : Int32} (hc : C_X9_spoil G B R x p0 p1 Z ZR r) {A' : AA} {cdz pkz r' : Int32} (hd : D_X10_spoil A cd pk p0 p1 A' cdz pkz r') : SIM x t0 t1 t2 Z ZR A' pkz ∧ r = r' := by
  have hh := h
  obtain ⟨hS, ⟨pm, tk, hD, hF0⟩, -⟩ := hh
  have hf := hF0.1
  have hfi := congrArg Int32.toInt hf
  have hpk := hV.2
  have hpm := hD.2.2.2.2.1
  obtain ⟨n, hn⟩ : ∃ n : Nat, (n : Int) = pk.toInt := ⟨_, Int.toNat_of_nonneg hpk.1⟩
  have hdrop : ∀ {Z : AA} {ZR : RR} {r : Nat} {A' : AA} {cdz pkz : Int32}, 0 ≤ p0.toInt → p0.toInt < pk.toInt → C_X0_takeOut G B R (x + 1) p0 Z ZR r → D_X10_drop A 0 pk p0 A' cdz pkz → SIM x t0 t1 t2 Z ZR A' pkz := by
    intro Z ZR r A' cdz pkz k0 k1 ht hdr
    obtain ⟨k, hk⟩ : ∃ k : Nat, (k : Int) = p0.toInt := ⟨_, Int.toNat_of_nonneg k0⟩
    obtain ⟨er, hS2, hD2, c, ec1, ec2, eZ, hY⟩ := e_takeOut hS hD ht hk (n := n) (by omega) (by omega) (by omega)
    obtain ⟨-, d1, d2, d3, d4, d5⟩ := r_drop hdr hk hn (by omega)
    have ec : c = pkz := by rw [ec1, d1, hf]
    subst ec
    exact h.fbw hV.w hS2 ⟨_, _, hD2, hF0.drop (tk := tk) hn (by omega) (by omega) (fun i hi => (hpm i hi).1) d1 d2 eZ d3 d4⟩ (fun a ha => by rw [eZ, uA_n (by omega)]) (fun j hj => d5 j (Or.inl hj))
  have hcopy : ∀ {Z : AA} {A' : AA} {c1 k1 x1 : Int32}, 0 ≤ p0.toInt → p0.toInt < pk.toInt → pk.toInt ≠ 24 → C_X0_copyToEnd G B R (x + 1) p0 Z → D_X10_move1 A 0 pk p0 pk A' c1 k1 → x1 = pk + 1 → x1.toInt = pk.toInt + 1 → SIM x t0 t1 t2 Z R A' x1 := by
    intro Z A' c1 k1 x1 k0 k2 k3 hcp hmv ex fx
    obtain ⟨k, hk⟩ : ∃ k : Nat, (k : Int) = p0.toInt := ⟨_, Int.toNat_of_nonneg k0⟩
    obtain ⟨-, -, m1, m2, m3, m4⟩ := r_move1 hmv hk hn (by omega)
    rcases hcp with ⟨n_6, hn_6, n_9, hn_9, U_13, hF, hbecomeLike, x_16, ex_16, fx_16, B_18, rfl, rfl⟩
    obtain rfl : n_6 = n := by omega
    obtain rfl : n_9 = k := by omega
    have hpn := hpm n_6 (by omega)
    have hpk9 := hpm n_9 (by omega)
    have hne : pm n_9 ≠ pm n_6 := fun e => by
      have := hD.2.2.2.2.2 n_9 n_6 (by omega) (by omega) e
      omega
    rw [hS.2.2.2.2.2.2.2.1, hD.2.1 n_6 (by omega), hD.2.1 n_9 (by omega)] at hbecomeLike
    have h7 := hS.2.2.2.2.2.2.2.2.2
    obtain ⟨l1, l2, l3⟩ := e_like hbecomeLike (by rw [h7 _ hpn.1]; omega) (by rw [h7 _ hpk9.1]; omega) (by omega) (by omega) (by omega)
    refine h.fbw hV.w hS ⟨pm, tk, hD, ?_, fun i hi => ?_⟩ (fun a ha => by rw [uA_n (by omega), l3 a (by omega) (by omega)]) (fun j hj => m4 j (Or.inl hj))
    · rw [uA_s, upd_s, ex_16, ex, hf]
    · rw [fx] at hi
      have hpi := hpm i (by omega)
      by_cases e : i = n_6
      · subst e
        refine (hF0.2 n_9 (by omega)).cg2 (fun j hj => ?_) (fun c hc => ?_) (fun j a b => by rw [m1 j a b, upd_s]) (fun c hc => m2 c hc)
        · rw [uA_n (by omega), l1 j hj]
        · rw [uA_n (by omega), show x + 4 + 2 * pm i = x + 3 + 2 * pm i + 1 by omega, show x + 4 + 2 * pm n_9 = x + 3 + 2 * pm n_9 + 1 by omega]; exact l2 c hc
      · have hni : pm i ≠ pm n_6 := fun k => e (hD.2.2.2.2.2 i n_6 (by omega) (by omega) k)
        exact (hF0.2 i (by omega)).cg (by rw [uA_n (by omega), l3 _ (by omega) (by omega)]) (by rw [uA_n (by omega), l3 _ (by omega) (by omega)]) (fun j a b => by rw [m1 j a b, upd_n e]) (fun c hc => m3 _ (by omega))
  rcases hc with ⟨r_4, hhas, c1, rfl, rfl, rfl⟩ | ⟨r_4, hhas, c1, c2, c3, r_11, B_13, R_14, hF, hQ, htakeOut, rfl, rfl, rfl⟩ | ⟨r_4, hhas, c1, c2, c3, U_19, hF, hcopyToEnd, rfl, rfl, rfl⟩ | ⟨r_4, hhas, c1, c2, r_22, hisFull, c3, c4, r_28, B_30, R_31, hF, hQ, htakeOut, rfl, rfl, rfl⟩ | ⟨r_4, hhas, c1, c2, r_22, hisFull, c3, c4, U_36, hF, hcopyToEnd, rfl, rfl, rfl⟩ | ⟨r_4, hhas, c1, c2, r_22, hisFull, c3, rfl, rfl, rfl⟩
  · rw [hS.1.2.2] at hhas
    have k := e_has hhas
    rcases hd with ⟨c1d, rfl, rfl, rfl, rfl⟩ | ⟨c1d, c2d, rfl, rfl, rfl, rfl⟩ | ⟨c1d, c2d, c3d, c4d, ur_5d, hdropd, c5d, c6d, rfl, rfl, rfl, rfl⟩ | ⟨c1d, c2d, c3d, c4d, ur_6d, hmove1d, c5d, x_7d, ex_7d, fx_7d, rfl, rfl, rfl, rfl⟩ | ⟨c1d, c2d, c3d, c4d, c5d, ur_10d, hdropd, c6d, c7d, rfl, rfl, rfl, rfl⟩ | ⟨c1d, c2d, c3d, c4d, c5d, ur_11d, hmove1d, c6d, x_12d, ex_12d, fx_12d, rfl, rfl, rfl, rfl⟩ | ⟨c1d, c2d, c3d, c4d, rfl, rfl, rfl, rfl⟩
    · exact ⟨by simp only [uA_ii]; exact h, rfl⟩
    · exact ⟨by simp only [uA_ii]; exact h, rfl⟩
    · exfalso; omega
    · exfalso; omega
    · exfalso; omega
    · exfalso; omega
    · exfalso; omega
  · rw [hS.1.2.2] at hhas htakeOut
    have k := e_has hhas
    rcases hd with ⟨c1d, rfl, rfl, rfl, rfl⟩ | ⟨c1d, c2d, rfl, rfl, rfl, rfl⟩ | ⟨c1d, c2d, c3d, c4d, ur_5d, hdropd, c5d, c6d, rfl, rfl, rfl, rfl⟩ | ⟨c1d, c2d, c3d, c4d, ur_6d, hmove1d, c5d, x_7d, ex_7d, fx_7d, rfl, rfl, rfl, rfl⟩ | ⟨c1d, c2d, c3d, c4d, c5d, ur_10d, hdropd, c6d, c7d, rfl, rfl, rfl, rfl⟩ | ⟨c1d, c2d, c3d, c4d, c5d, ur_11d, hmove1d, c6d, x_12d, ex_12d, fx_12d, rfl, rfl, rfl, rfl⟩ | ⟨c1d, c2d, c3d, c4d, rfl, rfl, rfl, rfl⟩
    · exfalso; omega
    · exfalso; omega
    · exact ⟨hdrop (by omega) (by omega) htakeOut hdropd, rfl⟩
    · exfalso; omega
    · exfalso; omega
    · exfalso; omega
    · exfalso; omega
  · exfalso; omega
  · exfalso; omega
  · rw [hS.1.2.2] at hhas hisFull hcopyToEnd
    have k := e_has hhas
    have kf : pk.toInt ≠ 24 := by
      rcases hisFull with ⟨c1f, rfl⟩ | ⟨c1f, rfl⟩
      · omega
      · exact absurd c3 (by decide)
    rcases hd with ⟨c1d, rfl, rfl, rfl, rfl⟩ | ⟨c1d, c2d, rfl, rfl, rfl, rfl⟩ | ⟨c1d, c2d, c3d, c4d, ur_5d, hdropd, c5d, c6d, rfl, rfl, rfl, rfl⟩ | ⟨c1d, c2d, c3d, c4d, ur_6d, hmove1d, c5d, x_7d, ex_7d, fx_7d, rfl, rfl, rfl, rfl⟩ | ⟨c1d, c2d, c3d, c4d, c5d, ur_10d, hdropd, c6d, c7d, rfl, rfl, rfl, rfl⟩ | ⟨c1d, c2d, c3d, c4d, c5d, ur_11d, hmove1d, c6d, x_12d, ex_12d, fx_12d, rfl, rfl, rfl, rfl⟩ | ⟨c1d, c2d, c3d, c4d, rfl, rfl, rfl, rfl⟩
    · exfalso; omega
    · exfalso; omega
    · exfalso; omega
    · exfalso; omega
    · exfalso; omega
    · exact ⟨hcopy (by omega) (by omega) (by omega) hcopyToEnd hmove1d ex_12d fx_12d, rfl⟩
    · exfalso; omega
  · rw [hS.1.2.2] at hhas hisFull
    have k := e_has hhas
    have kf : pk.toInt = 24 := by
      rcases hisFull with ⟨c1f, rfl⟩ | ⟨c1f, rfl⟩
      · exact absurd i_0 c3
      · omega
    rcases hd with ⟨c1d, rfl, rfl, rfl, rfl⟩ | ⟨c1d, c2d, rfl, rfl, rfl, rfl⟩ | ⟨c1d, c2d, c3d, c4d, ur_5d, hdropd, c5d, c6d, rfl, rfl, rfl, rfl⟩ | ⟨c1d, c2d, c3d, c4d, ur_6d, hmove1d, c5d, x_7d, ex_7d, fx_7d, rfl, rfl, rfl, rfl⟩ | ⟨c1d, c2d, c3d, c4d, c5d, ur_10d, hdropd, c6d, c7d, rfl, rfl, rfl, rfl⟩ | ⟨c1d, c2d, c3d, c4d, c5d, ur_11d, hmove1d, c6d, x_12d, ex_12d, fx_12d, rfl, rfl, rfl, rfl⟩ | ⟨c1d, c2d, c3d, c4d, rfl, rfl, rfl, rfl⟩
    · exfalso; omega
    · exfalso; omega
    · exfalso; omega
    · exfalso; omega
    · exfalso; omega
    · exfalso; omega
    · exact ⟨by simp only [uA_ii]; exact h, rfl⟩
