theorem s_pushC {x : Nat} {G : Nat → Nat} {t0 t1 t2 : Int32} (ht : 2 ≤ t0.toInt) {B : AA} {R : RR} {A : AA} {pk cd p0 : Int32} (h : SIM x t0 t1 t2 B R A pk) (hV : RIV A pk) {Z : AA} {r : Int32} (hc : C_X9_push G B R x p0 Z r) {A' : AA} {cdz pkz r' : Int32} (hd : D_X10_push A cd pk p0 A' cdz pkz r') : SIM x t0 t1 t2 Z R A' pkz ∧ r = r' := by
  have hh := h
  obtain ⟨hS, ⟨pm, tk, hD, hF0⟩, hM, -, -, hPQ⟩ := hh
  have hr0 := r_push hd hV (fun n hn i hi => by
    obtain ⟨_, _, _, _, _, g5⟩ := (hPQ n hn).2.2.1
    exact (g5 i hi).2.2.2.2.2.2.2.2.2.1)
  clear hd
  have main : 0 ≤ p0.toInt → p0.toInt < 4 → ∃ q : Nat, (q : Int) = p0.toInt ∧ q < 4 := fun a b => ⟨p0.toInt.toNat, by omega, by omega⟩
  by_cases hv : 0 ≤ p0.toInt ∧ p0.toInt < 4
  · obtain ⟨q, hp, hq⟩ := main hv.1 hv.2
    obtain ⟨hC, hPS, hRQ, -, -⟩ := hPQ q hq
    obtain ⟨p1, p2, p3, p4, p5, p6, p7, p8, p9, p10⟩ := hPS
    obtain ⟨hd4, g1, g2, g3, g4, g5⟩ := hRQ
    have k1 := congrArg Int32.toInt p1
    rcases hr0 with hr | ⟨qq, hqq, -, hr⟩
    · exact absurd hv hr.1
    obtain rfl : qq = q := by omega
    rcases hc with ⟨c1, eZ, rfl⟩ | ⟨c1, n_6, hn_6, c2, eZ, rfl⟩ | ⟨c1, n_6, hn_6, c2, r_12, U_13, hF, hsendNext, eZ, rfl⟩
    · exact absurd hv c1
    · obtain rfl : n_6 = qq := by omega
      rw [hS.1.2.1, (hS.2.2.1 _ hq).1] at c2
      rcases hr with ⟨rfl, rfl, rfl, -⟩ | ⟨d1, -⟩
      · rw [eZ]; exact ⟨h, rfl⟩
      · exfalso; omega
    · obtain rfl : n_6 = qq := by omega
      rw [hS.1.2.1, (hS.2.2.1 _ hq).1] at c2 hsendNext
      rw [(hS.2.2.1 _ hq).2.1] at hsendNext
      have hst : (A 10 n_6).toInt = 1 := by omega
      have p2s := p2 hst
      have p4s := p4 (by omega)
      have hP := (hV.1.2.2.1 n_6 hq).1 hst
      have rg := hP.rng
      have c4 := hV.c4 hq
      obtain ⟨n, hn⟩ : ∃ n : Nat, (n : Int) = (A 20 n_6).toInt := ⟨_, Int.toNat_of_nonneg c4.1.1⟩
      have g3i := congrArg Int32.toInt g3
      obtain ⟨np, hnp⟩ : ∃ n : Nat, (n : Int) = pk.toInt := ⟨_, Int.toNat_of_nonneg hV.2.1⟩
      have hfi := congrArg Int32.toInt hF0.1
      have z1 : ∀ i, i < n → 1 ≤ (A 24 (4 * n_6 + i)).toInt ∧ (A 24 (4 * n_6 + i)).toInt ≤ 12 := fun i hi => by
        obtain ⟨_, _, a, _, _, hR, _⟩ := hP
        have := hR i (by omega)
        exact ⟨this.2.1, this.2.2.1⟩
      have hs := e_sendNext hS hq hD (np := np) (by omega) (by have := hV.2.2; omega) g2 (n := n) (by omega) (by omega) (fun i hi => g5 i (by omega)) (fun i hi => by
        have h6 := hV.1.2.2.2.2.1 (4 * n_6 + i) (by omega)
        exact ⟨z1 i hi, ⟨h6.2.2.1, h6.2.2.2.2.2.1⟩, h6.2.2.2.2.2.2.2⟩) (by rw [p2s.2.2.1]; exact rg.2.2) hsendNext
      rw [p2s.2.1, p2s.2.2.1, p4s.1] at hs
      clear hsendNext
      rcases hs with ⟨s1, s2, s3⟩ | ⟨s1, i, s2, s3, s4, s5, U, sz, mk, pl, va, cu', f0, s6, s7, s8, s9, s10⟩
      · rcases hr with ⟨rfl, rfl, rfl, -⟩ | ⟨d1, d2, i', d3, d4, d5, -⟩
        · rw [eZ, s1, s2]; exact ⟨h, rfl⟩
        · exfalso
          rcases s3 with s3 | s3 | ⟨i, e1, e2, e3⟩
          · exact s3 d2
          · have a := s3 i' (by omega)
            have b := d4.2
            omega
          · obtain rfl := e2.uniq d4
            exact e3 d5
      · rcases hr with ⟨-, -, -, d1⟩ | ⟨d1, d2, i', d3, d4, d5, d6, A2, u, sz', mk', pl', va', cu2, f0', d7, d8, d9, d10, d11, d12, d13, d14, d15⟩
        · exfalso
          rcases d1 with d1 | d1 | d1 | ⟨i', e1, e2, e3⟩
          · exact d1 hst
          · have a := hP.none d1.2 i (by omega)
            have b := s3.2
            omega
          · exact d1 s1
          · obtain rfl := s3.uniq e2
            exact e3 s4
        · obtain rfl := s3.uniq d4
          obtain rfl : f0 = f0' := by omega
          obtain ⟨rfl, rfl, rfl, rfl⟩ := s8.uniq d10
          obtain rfl : cu' = cu2 := i32_eq (by rw [s9, d11])
          have h6 := hV.1.2.2.2.2.1 (4 * n_6 + i) (by omega)
          have zz := z1 i s2
          have eto : B (x + 77 + 17 * n_6) 0 = peerT p0 := i32_eq (by rw [hC.1, peer_e hq hp])
          rw [eto] at s7
          have hk0 : 0 ≤ ((A 13 n_6).toInt - (A 29 (4 * n_6 + i)).toInt) % 64 ∧ ((A 13 n_6).toInt - (A 29 (4 * n_6 + i)).toInt) % 64 < NB (A 24) (4 * n_6 + i) := ⟨by omega, s3.2⟩
          have hpv := s8.pkv (nm := A 13 n_6) ⟨h6.1, h6.2.1⟩ zz.2 hk0 rg.2.2
          have hsz : (A 22 (4 * n_6 + i)).toInt = 0 ∨ (A 22 (4 * n_6 + i)).toInt = 1 ∨ (A 22 (4 * n_6 + i)).toInt = 4 → sz.toInt ≤ (A 24 (4 * n_6 + i)).toInt - 4 * (((A 13 n_6).toInt - (A 29 (4 * n_6 + i)).toInt) % 64) := fun e => by
            rw [s8.2.2.2.2.2 (by omega) (by omega)]
            split <;> omega
          have s7' := s7.cgc (c' := fun c => A 4 (32 * (n_6 % 2) + f0 + c)) (fun e k k4 ks => by
            have := hsz e
            show B (x + 57 + 10 * (n_6 % 2)) (f0 + k) = A 4 (32 * (n_6 % 2) + f0 + k)
            rw [hM (n_6 % 2) (by omega) (f0 + k) (by omega), Nat.add_assoc])
          obtain ⟨m1, m2, -, m4⟩ := h.emit hV.w (A0 := uA A 15 u) (fun j a b => uA_n (by omega)) (fun pm' tk' hD' => by
            have e : ∀ i, i < 24 → pm' i = pm i := fun i hi => by
              have a := hD'.2.1 i hi
              have b := hD.2.1 i hi
              omega
            rcases s7' with q1 | ⟨n', q1, q2, q3⟩
            · exact Or.inl q1
            · exact Or.inr ⟨n', q1, q2, by rw [e n' q2]; exact q3⟩) d9 hpv
          have eH : U (x + 77 + 17 * n_6) = B (x + 77 + 17 * n_6) := m4 _ (by omega)
          rw [eZ, s10, s5, d6, eH]
          refine ⟨?_, rfl⟩
          have m15 : A' 15 n_6 = if (A 13 n_6).toInt = (A 12 n_6).toInt then 0 else A 15 n_6 := by
            rw [d14, d7]; split
            · exact upd_s
            · rfl
          have hA15 : ∀ k, k ≠ n_6 → A' 15 k = A 15 k := fun k hk => by
            rw [d14, d7]; split
            · exact upd_n hk
            · rfl
          have oth : ∀ j, j ≠ 13 → j ≠ 15 → A' j = mixF A A2 j := fun j a b => by
            by_cases e : 41 ≤ j ∧ j ≤ 48
            · rw [mixF_i e]; exact d12 j e.1 e.2
            · rw [mixF_o e]; exact d15 j a b (by omega)
          have ei : ∀ {j : Nat}, j ≠ 13 → j ≠ 15 → j < 41 → A' j n_6 = A j n_6 := fun a b c => by rw [d15 _ a b (Or.inl c)]
          refine m1.rq m2 hq (by rw [mixF_o (by omega)]; exact hst) (fun j hj => ?_) (fun j hj => oth j (by omega) (by omega)) (fun j k hk => ?_) ?_ ?_ ?_ ?_ ?_ ?_ ?_ ?_ ?_
          · rw [upd_n (by omega), eH]; split
            · rw [upd_n (by omega)]
            · rfl
          · by_cases e1 : j = 13
            · subst e1; rw [d13, mixF_o (by omega), upd_n hk]
            by_cases e2 : j = 15
            · subst e2; rw [mixF_o (by omega), hA15 k hk]
            rw [oth j e1 e2]
          · rw [upd_n (by decide), mixF_o (by omega)]; split
            · exact p2s.1
            · exact p2s.1
          · rw [upd_n (by decide), ei (by decide) (by decide) (by decide)]; split
            · exact p2s.2.1
            · exact p2s.2.1
          · rw [upd_s, d13, upd_s]
          · rw [upd_n (by decide), m15]; split
            · exact upd_s
            · exact p3.1
          · rw [upd_n (by decide), ei (by decide) (by decide) (by decide)]; split
            · exact p3.2.1
            · exact p3.2.1
          · rw [upd_n (by decide), ei (by decide) (by decide) (by decide)]; split
            · exact p3.2.2
            · exact p3.2.2
          · rw [upd_n (by decide), ei (by decide) (by decide) (by decide)]; split
            · exact p4s.1
            · exact p4s.1
          · rw [ei (by decide) (by decide) (by decide), m15]
            have t := p4s.2
            have iz := i_0
            split
            · exact ⟨fun _ => by omega, fun e => by omega⟩
            · exact t
          · rw [ei (by decide) (by decide) (by decide)]; exact p8
  · obtain ⟨-, rfl, rfl, rfl⟩ : ¬ (0 ≤ p0.toInt ∧ p0.toInt < 4) ∧ A' = A ∧ pkz = pk ∧ r' = -1 := hr0.resolve_right (fun ⟨n, e1, e2, _⟩ => hv (by omega))
    rcases hc with ⟨c1, rfl, rfl⟩ | ⟨c1, n_6, hn_6, c2, rfl, rfl⟩ | ⟨c1, n_6, hn_6, c2, r_12, U_13, hF, hsendNext, rfl, rfl⟩
    · exact ⟨h, rfl⟩
    · exact absurd c1 hv
    · exact absurd c1 hv
