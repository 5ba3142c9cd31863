theorem PS.mk2 {x q : Nat} {t0 : Int32} {B Z A A' : AA} (h : PS x q t0 B A) {f : Nat → Int32} (z84 : Z (x + 84 + 17 * q) = B (x + 84 + 17 * q)) (z77 : Z (x + 77 + 17 * q) = B (x + 77 + 17 * q)) (z85 : Z (x + 85 + 17 * q) = f) (ha : ∀ j, (10 ≤ j ∧ j ≤ 13) ∨ (15 ≤ j ∧ j ≤ 18) → A' j q = A j q) (n4 : f 4 = A' 14 q) (n6 : f 6 = A' 19 q) (n5 : f 5 = A' 36 q) (b14 : 0 ≤ (A' 14 q).toInt ∧ (A' 14 q).toInt ≤ 63) (b19 : B01 (A' 19 q)) (b36 : B01 (A' 36 q)) : PS x q t0 Z A' := by
  obtain ⟨p1, p2, p3, p4, p5, p6, p7, p8, p9, p10⟩ := h
  unfold PS
  rw [z84, z77, z85, ha 10 (by omega), ha 11 (by omega), ha 12 (by omega), ha 13 (by omega), ha 15 (by omega), ha 16 (by omega), ha 17 (by omega), ha 18 (by omega)]
  exact ⟨p1, fun e => ⟨(p2 e).1, (p2 e).2.1, (p2 e).2.2.1, n4⟩, p3, p4, ⟨n6, n5⟩, b14, p7, p8, b19, b36⟩
/-- the responder's number and marks are changed -/
theorem SIM.rs {x q : Nat} {t0 t1 t2 : Int32} {B : AA} {R : RR} {A A' : AA} {pk : Int32} (h : SIM x t0 t1 t2 B R A pk) (hV : RW A pk) (hq : q < 4) {f : Nat → Int32} (hf : f 0 = B (x + 85 + 17 * q) 0) (hA : ∀ j, ¬ (j = 14 ∨ j = 19 ∨ j = 36) → A' j = A j) (hk : ∀ j k, k ≠ q → A' j k = A j k) (n4 : f 4 = A' 14 q) (n6 : f 6 = A' 19 q) (n5 : f 5 = A' 36 q) (b14 : 0 ≤ (A' 14 q).toInt ∧ (A' 14 q).toInt ≤ 63) (b19 : B01 (A' 19 q)) (b36 : B01 (A' 36 q)) : SIM x t0 t1 t2 (uA B (x + 85 + 17 * q) f) R A' pk ∧ RW A' pk :=
  ⟨h.sc hV hq (fun a k1 k2 k3 => uA_n k3) (fun j hj => by rw [uA_n (by omega)]) (by rw [uA_s]; exact hf) (fun j hj => hA j (by omega)) hk (PS.mk2 (h.2.2.2.2.2 q hq).2.1 (uA_n (by omega)) (uA_n (by omega)) uA_s (fun j hj => by rw [hA j (by omega)]) n4 n6 n5 b14 b19 b36), hV.cg (hA 8 (by omega)) (hA 20 (by omega)) (hA 30 (by omega))⟩
theorem e_advance {G : Nat → Nat} {B : AA} {R : RR} {S : Nat} {k : Int32} {Z : AA} (h : C_X8_advance G B R S k Z) : ∃ v : Int32, v.toInt = ((B S 4).toInt + k.toInt) % 64 ∧ Z = uA B S (upd (upd (B S) 4 v) 6 0) := by
  rcases h with ⟨x_2, ex_2, B_3, rfl, B_5, rfl, rfl⟩
  exact ⟨x_2, by rw [ex_2, aft], by simp only [uA_u, uA_s]⟩
theorem r_accept {A : AA} {cd pk p k : Int32} {A' : AA} {cdz pkz : Int32} {q : Nat} (h : D_X10_accept A cd pk p k A' cdz pkz) (hq : (q : Int) = p.toInt) (h14 : 0 ≤ (A 14 q).toInt ∧ (A 14 q).toInt ≤ 63) (hk : 0 ≤ k.toInt ∧ k.toInt ≤ 64) : ∃ v : Int32, v.toInt = ((A 14 q).toInt + k.toInt) % 64 ∧ A' = uA (uA A 14 (upd (A 14) q v)) 19 (upd (A 19) q 0) := by
  rcases h with ⟨n_3, hn_3, x_4, ex_4, x_5, ex_5, g_6, rfl, g_7, rfl, rfl, rfl, rfl⟩
  obtain rfl : n_3 = q := by omega
  exact ⟨x_5, mod64 h14 hk (by rw [ex_5, ex_4]), rfl⟩
/-- the expected number goes on -/
theorem SIM.adv {x q : Nat} {G : Nat → Nat} {t0 t1 t2 : Int32} {B : AA} {R : RR} {A : AA} {pk : Int32} (h : SIM x t0 t1 t2 B R A pk) (hV : RW A pk) (hq : q < 4) (hst : (A 10 q).toInt = 1) {k v : Int32} {Z : AA} (hc : C_X8_advance G B R (x + 85 + 17 * q) k Z) (hv : v.toInt = ((A 14 q).toInt + k.toInt) % 64) : SIM x t0 t1 t2 Z R (uA (uA A 14 (upd (A 14) q v)) 19 (upd (A 19) q 0)) pk ∧ RW (uA (uA A 14 (upd (A 14) q v)) 19 (upd (A 19) q 0)) pk ∧ ∀ a, a ≠ x + 85 + 17 * q → Z a = B a := by
  obtain ⟨p1, p2, p3, p4, p5, p6, p7, p8, p9, p10⟩ := (h.2.2.2.2.2 q hq).2.1
  have p2s := p2 hst
  obtain ⟨w, e1, rfl⟩ := e_advance hc
  obtain rfl : w = v := i32_eq (by rw [e1, hv, p2s.2.2.2])
  obtain ⟨a, b⟩ := h.rs (A' := uA (uA A 14 (upd (A 14) q w)) 19 (upd (A 19) q 0)) (f := upd (upd (B (x + 85 + 17 * q)) 4 w) 6 0) hV hq rfl (fun j hj => by rw [uA_n (by omega), uA_n (by omega)]) (fun j k hk => by
    by_cases e1 : j = 19
    · subst e1; exact upd_n hk
    by_cases e2 : j = 14
    · subst e2; exact upd_n hk
    rw [uA_n e1, uA_n e2]) upd_s.symm upd_s.symm p5.2 (by
    show 0 ≤ (upd (A 14) q w q).toInt ∧ (upd (A 14) q w q).toInt ≤ 63
    rw [upd_s]; omega) (by
    show B01 (upd (A 19) q 0 q)
    rw [upd_s]; exact Or.inl rfl) p10
  exact ⟨a, b, fun a ha => uA_n ha⟩
theorem rt_ok {v t : Int32} (h0 : 0 ≤ v.toInt) (h7 : v.toInt ≤ 7) (ht : t = 1 ∨ t = 2 ∨ t = 4) : ((v &&& t).toInt = 0) ↔ ¬ (v / t - v / t / 2 * 2).toInt = 1 := by
  obtain ⟨j, hj, rfl⟩ := vp_in_of (x := v) (n := 8) (vp_in_iff.mpr ⟨h0, by omega⟩) (by decide)
  rcases ht with rfl | rfl | rfl <;> rcases (show j = 0 ∨ j = 1 ∨ j = 2 ∨ j = 3 ∨ j = 4 ∨ j = 5 ∨ j = 6 ∨ j = 7 by omega) with rfl | rfl | rfl | rfl | rfl | rfl | rfl | rfl <;> decide
theorem s_allows {x q : Nat} {G : Nat → Nat} {t0 t1 t2 : Int32} {B : AA} {R : RR} {A : AA} {pk cd : Int32} (h : SIM x t0 t1 t2 B R A pk) (hI : I2 (A 5) (A 6)) (hq : q < 4) {p rg pl n t r r' : Int32} (hp : (q : Int) = p.toInt) (hrg : 0 ≤ rg.toInt ∧ rg.toInt ≤ 5) (hpl : -1 ≤ pl.toInt ∧ pl.toInt ≤ 60) (hn : 1 ≤ n.toInt ∧ n.toInt ≤ 12) (ht : t = 1 ∨ t = 2 ∨ t = 4) (hc : C_X1_allows G B R (x + 56 + 10 * (q % 2)) rg pl n t r) (hd : D_X10_allows A cd pk p rg pl n t r') : (r.toInt = 0 ∧ r'.toInt = 0) ∨ (¬ r.toInt = 0 ∧ ¬ r'.toInt = 0 ∧ 0 ≤ pl.toInt ∧ pl.toInt + n.toInt ≤ 32) := by
  have hS := h.1
  obtain ⟨k, hk⟩ : ∃ k : Nat, (k : Int) = rg.toInt := ⟨rg.toInt.toNat, by omega⟩
  have hG := h.2.2.2.1 (q % 2) (by omega) k (by omega)
  obtain ⟨g0, g1, g2, g3, g4⟩ := hG
  have i2 := hI (6 * (q % 2) + k) (by omega)
  have g0i := congrArg Int32.toInt g0
  have g1i := congrArg Int32.toInt g1
  have hr : (r'.toInt = 0 ∧ ¬ ((A 7 (6 * (q % 2) + k) / t - A 7 (6 * (q % 2) + k) / t / 2 * 2).toInt = 1 ∧ (A 5 (6 * (q % 2) + k)).toInt ≤ pl.toInt ∧ pl.toInt + n.toInt ≤ (A 5 (6 * (q % 2) + k)).toInt + (A 6 (6 * (q % 2) + k)).toInt)) ∨ (r'.toInt = 1 ∧ (A 7 (6 * (q % 2) + k) / t - A 7 (6 * (q % 2) + k) / t / 2 * 2).toInt = 1 ∧ (A 5 (6 * (q % 2) + k)).toInt ≤ pl.toInt ∧ pl.toInt + n.toInt ≤ (A 5 (6 * (q % 2) + k)).toInt + (A 6 (6 * (q % 2) + k)).toInt) := by
    rcases hd with ⟨x_1, ex_1, fx_1, x_2, ex_2, fx_2, x_3, ex_3, fx_3, n_6, hn_6, x_7, ex_7, x_8, ex_8, c1, rfl⟩ | ⟨x_1, ex_1, fx_1, x_2, ex_2, fx_2, x_3, ex_3, fx_3, n_6, hn_6, x_7, ex_7, x_8, ex_8, fx_8, c1, rfl⟩ | ⟨x_1, ex_1, fx_1, x_2, ex_2, fx_2, x_3, ex_3, fx_3, n_6, hn_6, x_7, ex_7, x_8, ex_8, fx_8, c1, x_17, ex_17, fx_17, x_21, ex_21, fx_21, c2, rfl⟩ | ⟨x_1, ex_1, fx_1, x_2, ex_2, fx_2, x_3, ex_3, fx_3, n_6, hn_6, x_7, ex_7, x_8, ex_8, fx_8, c1, x_17, ex_17, fx_17, x_21, ex_21, fx_21, c2, rfl⟩
    all_goals
      obtain rfl : n_6 = 6 * (q % 2) + k := by omega
      rw [ex_7] at ex_8
    · rw [ex_8] at c1
      exact Or.inl ⟨by decide, fun e => c1 e.1⟩
    · exact Or.inl ⟨by decide, fun e => by omega⟩
    · exact Or.inl ⟨by decide, fun e => by omega⟩
    · rw [ex_8] at fx_8
      exact Or.inr ⟨by decide, fx_8, by omega, by omega⟩
  have hrt := rt_ok g3 g4 ht
  rcases hc with ⟨c1, rfl⟩ | ⟨c1, n_6, hn_6, r_9, hallows, c2, rfl⟩ | ⟨c1, n_6, hn_6, r_9, hallows, c2, rfl⟩
  · exfalso; omega
  · obtain rfl : n_6 = k := by omega
    rw [(hS.2.1 (q % 2) (by omega)).2.2.1, (hS.2.1 (q % 2) (by omega)).2.2.2.2 n_6 (by omega)] at hallows
    have hcl : ¬ ((A 7 (6 * (q % 2) + n_6) / t - A 7 (6 * (q % 2) + n_6) / t / 2 * 2).toInt = 1 ∧ (A 5 (6 * (q % 2) + n_6)).toInt ≤ pl.toInt ∧ pl.toInt + n.toInt ≤ (A 5 (6 * (q % 2) + n_6)).toInt + (A 6 (6 * (q % 2) + n_6)).toInt) := by
      rcases hallows with ⟨c1a, rfl⟩ | ⟨c1a, c2a, rfl⟩ | ⟨c1a, c2a, x_4a, ex_4a, x_5a, ex_5a, c3a, rfl⟩ | ⟨c1a, c2a, x_4a, ex_4a, x_5a, ex_5a, c3a, x_7a, ex_7a, fx_7a, rfl⟩ | ⟨c1a, c2a, x_4a, ex_4a, x_5a, ex_5a, c3a, x_7a, ex_7a, c4a, rfl⟩
      · omega
      · omega
      · have e4 : x_4a.toInt = pl.toInt + n.toInt := by rw [ex_4a]; exact add_t (by omega) (by omega)
        have e5 : x_5a.toInt = (A 5 (6 * (q % 2) + n_6)).toInt + (A 6 (6 * (q % 2) + n_6)).toInt := by rw [ex_5a, g0, g1]; exact add_t (by omega) (by omega)
        omega
      · rw [ex_7a, g2] at fx_7a
        exact fun e => (hrt.mp fx_7a) e.1
      · exact absurd c2 (by decide)
    left
    refine ⟨by decide, ?_⟩
    rcases hr with ⟨e, -⟩ | ⟨-, e⟩
    · exact e
    · exact absurd e hcl
  · obtain rfl : n_6 = k := by omega
    rw [(hS.2.1 (q % 2) (by omega)).2.2.1, (hS.2.1 (q % 2) (by omega)).2.2.2.2 n_6 (by omega)] at hallows
    have hcl : (A 7 (6 * (q % 2) + n_6) / t - A 7 (6 * (q % 2) + n_6) / t / 2 * 2).toInt = 1 ∧ (A 5 (6 * (q % 2) + n_6)).toInt ≤ pl.toInt ∧ pl.toInt + n.toInt ≤ (A 5 (6 * (q % 2) + n_6)).toInt + (A 6 (6 * (q % 2) + n_6)).toInt := by
      rcases hallows with ⟨c1a, rfl⟩ | ⟨c1a, c2a, rfl⟩ | ⟨c1a, c2a, x_4a, ex_4a, x_5a, ex_5a, c3a, rfl⟩ | ⟨c1a, c2a, x_4a, ex_4a, x_5a, ex_5a, c3a, x_7a, ex_7a, fx_7a, rfl⟩ | ⟨c1a, c2a, x_4a, ex_4a, x_5a, ex_5a, c3a, x_7a, ex_7a, c4a, rfl⟩
      · exact absurd i_0 c2
      · exact absurd i_0 c2
      · exact absurd i_0 c2
      · exact absurd i_0 c2
      · have e4 : x_4a.toInt = pl.toInt + n.toInt := by rw [ex_4a]; exact add_t (by omega) (by omega)
        have e5 : x_5a.toInt = (A 5 (6 * (q % 2) + n_6)).toInt + (A 6 (6 * (q % 2) + n_6)).toInt := by rw [ex_5a, g0, g1]; exact add_t (by omega) (by omega)
        rw [ex_7a, g2] at c4a
        refine ⟨?_, by omega, by omega⟩
        by_cases e : (A 7 (6 * (q % 2) + n_6) / t - A 7 (6 * (q % 2) + n_6) / t / 2 * 2).toInt = 1
        · exact e
        · exact absurd (hrt.mpr e) c4a
    right
    rcases hr with ⟨-, e⟩ | ⟨e, -⟩
    · exact absurd hcl e
    · exact ⟨by decide, by omega, by omega, by omega⟩
theorem e_isAllowed {G : Nat → Nat} {B : AA} {R : RR} {a N : Nat} {r : Int32} (h : C_X2_isAllowed G B R a N r) : ((B a 1).toInt = 1 ∧ C_X1_allows G B R N (B a 4) (B a 5) (B a 3) 1 r) ∨ ((B a 1).toInt = 2 ∧ C_X1_allows G B R N (B a 4) (B a 5) (B a 3) 2 r) ∨ ((B a 1).toInt ≠ 1 ∧ (B a 1).toInt ≠ 2 ∧ C_X1_allows G B R N (B a 4) (B a 5) 1 4 r) := by
  rcases h with ⟨c1, r_5, hallows, er_5, rfl⟩ | ⟨c1, r_5, hallows, er_5, rfl⟩ | ⟨c1, r_8, hallows, er_8, rfl⟩ | ⟨c1, r_8, hallows, er_8, rfl⟩ | ⟨c1, c2, r_10, hallows, er_10, rfl⟩ | ⟨c1, c2, r_10, hallows, er_10, rfl⟩
  · rw [er_5] at hallows; exact Or.inl ⟨c1, hallows⟩
  · rw [er_5] at hallows; exact Or.inl ⟨c1, hallows⟩
  · rw [er_8] at hallows; exact Or.inr (Or.inl ⟨c1, hallows⟩)
  · rw [er_8] at hallows; exact Or.inr (Or.inl ⟨c1, hallows⟩)
  · rw [er_10] at hallows; exact Or.inr (Or.inr ⟨c1, c2, hallows⟩)
  · rw [er_10] at hallows; exact Or.inr (Or.inr ⟨c1, c2, hallows⟩)
theorem r_refuse {A : AA} {cd pk p rs : Int32} {A' : AA} {cdz pkz : Int32} {c : Nat → Int32} (h : D_X10_refuse A cd pk p rs A' cdz pkz) (hpk : 0 ≤ pk.toInt ∧ pk.toInt ≤ 24) : ∃ (A1 : AA) (v : Int32), EMR A A1 pk pkz (peerT p) 6 (A 43 24) 0 rs (-1) 0 c ∧ ((¬ rs.toInt = 4 ∧ v = 0) ∨ (rs.toInt = 4 ∧ v = 4)) ∧ D_X10_failPair A1 cd pkz p 0 v A' cd pkz := by
  rcases h with ⟨ur_2, r_2, hemit, c1, c2, c3, c4, c5, v_3, c6, ur_6, hfailPair, c7, c8, c9, rfl, rfl, rfl⟩
  exact ⟨_, _, EMR.none hemit hpk, c6, hfailPair⟩
/-- a request is refused, and the pair fails -/
theorem s_refuse {x q : Nat} {G : Nat → Nat} {t0 t1 t2 : Int32} {B : AA} {R : RR} {A : AA} {pk cd : Int32} (h : SIM x t0 t1 t2 B R A pk) (hV : RW A pk) (hq : q < 4) {p nm rs c2 : Int32} (hp : (q : Int) = p.toInt) (enm : nm = A 43 24) (bnm : 0 ≤ (A 43 24).toInt ∧ (A 43 24).toInt ≤ 63) (hrs : 1 ≤ rs.toInt ∧ rs.toInt ≤ 4) (hc2 : (¬ rs.toInt = 4 ∧ c2 = 5) ∨ (rs.toInt = 4 ∧ c2 = 4)) {U Z : AA} (hc : C_X8_refuse G B R (x + 85 + 17 * q) nm rs U) (hf : C_X3_fail G U R (x + 84 + 17 * q) 5 c2 Z) {A' : AA} {cdz pkz : Int32} (hd : D_X10_refuse A cd pk p rs A' cdz pkz) : SIM x t0 t1 t2 Z R A' pkz := by
  obtain ⟨A1, v, d1, d2, d3⟩ := r_refuse (c := fun _ => 0) hd hV.2.2
  obtain ⟨n, hn, h24⟩ := h.np hV
  have hC := (h.2.2.2.2.2 q hq).1
  have eto : B (x + 85 + 17 * q) 0 = peerT p := i32_eq (by rw [hC.2.2.2.2.1, peer_e hq hp])
  have hE := e_refuse (c := fun _ => 0) h.1 hq hn h24 hc
  rw [eto, enm] at hE
  have i6 : (6 : Int32).toInt = 6 := by decide
  obtain ⟨m1, m2, -, -, -, -⟩ := h.em hV hE d1 ⟨bnm, by omega, fun e => by omega, fun _ => hrs, fun e => by omega, fun e => by omega⟩
  refine (m1.fail (st := 0) (rs := v) m2 hq hp (by decide) ?_ hf d3).2.2.1
  rcases d2 with ⟨e1, rfl⟩ | ⟨e1, rfl⟩
  · rcases hc2 with ⟨-, rfl⟩ | ⟨e2, -⟩
    · decide
    · exact absurd e2 e1
  · rcases hc2 with ⟨e2, -⟩ | ⟨-, rfl⟩
    · exact absurd e1 e2
    · decide
