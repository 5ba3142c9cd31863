theorem s_tickPair {x q : Nat} {G : Nat → Nat} {t0 t1 t2 : Int32} {B : AA} {R : RR} {A : AA} {pk cd p : Int32} (t0_2 : 2 ≤ t0.toInt) (h : SIM x t0 t1 t2 B R A pk) (hV : RW A pk) (hq : q < 4) (hp : (q : Int) = p.toInt) {Z : AA} {r : Int32} (hc : C_X3_failsByTime G B R (x + 84 + 17 * q) Z r) {A' : AA} {cdz pkz r' : Int32} (hd : D_X10_tickPair t0 t1 t2 A cd pk p A' cdz pkz r') : SIM x t0 t1 t2 Z R A' pk ∧ r = r' := by
  have hh := h
  obtain ⟨hS, -, -, -, hN, hPQ⟩ := hh
  obtain ⟨hC, hPS, -, -, -⟩ := hPQ q hq
  obtain ⟨p1, p2, p3, p4, p5, p6, p7, p8, p9, p10⟩ := hPS
  have k1 := congrArg Int32.toInt p1
  obtain ⟨-, -, hd⟩ := r_tickPair hd hp
  rcases hd with ⟨d1, rfl, rfl⟩ | ⟨hst, hd⟩
  · rcases hc with ⟨c1, rfl, rfl⟩ | ⟨c1, r_5, U_6, hF, hwaitsTooLong, c2, U_10, hF_1, hfail, rfl, rfl⟩ | ⟨c1, r_5, U_6, hF, hwaitsTooLong, c2, rfl, rfl⟩
    · exact ⟨h, rfl⟩
    · exfalso; omega
    · exfalso; omega
  have p2s := p2 hst
  have p4s := p4 (by omega)
  have b18 : (A 18 q).toInt = 0 ∨ (A 18 q).toInt = 1 := by
    rcases p8 with e | e
    · rw [e]; exact Or.inl i_0
    · rw [e]; exact Or.inr i_1t
  have ec : (A 15 q + 1).toInt = (A 15 q).toInt + 1 := by
    rcases b18 with e | e
    · exact inc_t (p4s.2.1 e).1 (p4s.2.1 e).2
    · exact inc_t (t := 3) (p4s.2.2 e).1 (by rw [i_3t]; exact (p4s.2.2 e).2)
  have t0a := p4s.2.1
  have t0b := p4s.2.2
  have wt : ∀ {U : AA} {v : Int32}, C_X7_waitsTooLong G B R (R (x + 84 + 17 * q) 0) U v → ((A 13 q).toInt = (A 12 q).toInt ∧ (A 18 q).toInt = 0 ∧ U = B ∧ v.toInt = 0) ∨ (¬ ((A 13 q).toInt = (A 12 q).toInt ∧ (A 18 q).toInt = 0) ∧ (((A 18 q).toInt = 0 ∧ ¬ t0.toInt ≤ (A 15 q + 1).toInt ∧ U = uA B (x + 77 + 17 * q) (upd (B (x + 77 + 17 * q)) 10 (A 15 q + 1)) ∧ v.toInt = 0) ∨ ((A 18 q).toInt = 0 ∧ t0.toInt ≤ (A 15 q + 1).toInt ∧ (A 16 q + 1).toInt ≤ t1.toInt ∧ U = uA B (x + 77 + 17 * q) (upd (upd (upd (B (x + 77 + 17 * q)) 10 0) 11 (A 16 q + 1)) 9 (A 12 q)) ∧ v.toInt = 0) ∨ ((A 18 q).toInt = 0 ∧ t0.toInt ≤ (A 15 q + 1).toInt ∧ ¬ (A 16 q + 1).toInt ≤ t1.toInt ∧ U = uA B (x + 77 + 17 * q) (upd (upd (B (x + 77 + 17 * q)) 10 0) 11 (A 16 q + 1)) ∧ v.toInt = 1) ∨ (¬ (A 18 q).toInt = 0 ∧ ¬ 3 ≤ (A 15 q + 1).toInt ∧ U = uA B (x + 77 + 17 * q) (upd (B (x + 77 + 17 * q)) 10 (A 15 q + 1)) ∧ v.toInt = 0) ∨ (¬ (A 18 q).toInt = 0 ∧ 3 ≤ (A 15 q + 1).toInt ∧ U = uA B (x + 77 + 17 * q) (upd (upd (B (x + 77 + 17 * q)) 10 0) 13 0) ∧ v.toInt = 0))) := fun hw => by
    rw [(hS.2.2.1 q hq).2.1] at hw
    have hw := e_wait hw
    rw [hC.2.1, hC.2.2.1, p2s.2.1, p2s.2.2.1, p3.1, p3.2.1, p4s.1] at hw
    exact hw
  have hfA : ∀ j, j < 7 → j ≠ 10 := fun j hj => by omega
  have iz := i_0
  rw [ec] at wt
  unfold TPD at hd
  rw [ec] at hd
  rcases hd with ⟨d1, d2, rfl, rfl⟩ | ⟨d0, hd⟩
  · rcases hc with ⟨c1, rfl, rfl⟩ | ⟨c1, r_5, U_6, hF, hwaitsTooLong, c2, U_10, hF_1, hfail, rfl, rfl⟩ | ⟨c1, r_5, U_6, hF, hwaitsTooLong, c2, rfl, rfl⟩
    · exfalso; omega
    · have := wt hwaitsTooLong; exfalso; omega
    · rcases wt hwaitsTooLong with ⟨w1, w2, rfl, w4⟩ | ⟨w1, w2⟩
      · exact ⟨h, rfl⟩
      · exact absurd ⟨d1, d2⟩ w1
  rcases hd with ⟨d1, d2, rfl, rfl⟩ | ⟨d1, d2, d3, rfl, rfl⟩ | ⟨d1, d2, d3, ⟨A1, d4, rfl⟩, rfl⟩ | ⟨d1, d2, rfl, rfl⟩ | ⟨d1, d2, rfl, rfl⟩
  · rcases hc with ⟨c1, rfl, rfl⟩ | ⟨c1, r_5, U_6, hF, hwaitsTooLong, c2, U_10, hF_1, hfail, rfl, rfl⟩ | ⟨c1, r_5, U_6, hF, hwaitsTooLong, c2, rfl, rfl⟩
    · exfalso; omega
    · rcases wt hwaitsTooLong with ⟨w1, w2, w3, w4⟩ | ⟨w1, ⟨w1, w2, w3, w4⟩ | ⟨w1, w2, w5, w3, w4⟩ | ⟨w1, w2, w5, w3, w4⟩ | ⟨w1, w2, w3, w4⟩ | ⟨w1, w2, w3, w4⟩⟩
      · exact absurd ⟨w1, w2⟩ d0
      · exfalso; first | omega | (have := t0a d1; omega)
      · exfalso; first | omega | (have := t0a d1; omega)
      · exfalso; first | omega | (have := t0a d1; omega)
      · exfalso; first | omega | (have := t0a d1; omega)
      · exfalso; first | omega | (have := t0a d1; omega)
    · rcases wt hwaitsTooLong with ⟨w1, w2, w3, w4⟩ | ⟨w1, ⟨w1, w2, w3, w4⟩ | ⟨w1, w2, w5, w3, w4⟩ | ⟨w1, w2, w5, w3, w4⟩ | ⟨w1, w2, w3, w4⟩ | ⟨w1, w2, w3, w4⟩⟩
      · exact absurd ⟨w1, w2⟩ d0
      · subst w3
        exact ⟨h.rq hV hq hst (fun j hj => by rw [upd_n (by omega)]) (fun j hj => by rw [uA_n (by omega)]) (fun j k hk => by
          by_cases a0 : j = 15
          · subst a0; exact upd_n hk
          rw [uA_n a0]) p2s.1 p2s.2.1 p2s.2.2.1 (by
          show _ = upd (A 15) q (A 15 q + 1) q
          exact upd_s.symm) p3.2.1 p3.2.2 p4s.1 (by
          show TIM t0 (A 18 q) (upd (A 15) q (A 15 q + 1) q)
          rw [upd_s]
          exact ⟨fun e9 => by have q1 := t0a e9; rw [ec]; omega, fun e9 => by have q1 := t0b e9; rw [ec]; omega⟩) p8, rfl⟩
      · exfalso; first | omega | (have := t0a d1; omega)
      · exfalso; first | omega | (have := t0a d1; omega)
      · exfalso; first | omega | (have := t0a d1; omega)
      · exfalso; first | omega | (have := t0a d1; omega)
  · rcases hc with ⟨c1, rfl, rfl⟩ | ⟨c1, r_5, U_6, hF, hwaitsTooLong, c2, U_10, hF_1, hfail, rfl, rfl⟩ | ⟨c1, r_5, U_6, hF, hwaitsTooLong, c2, rfl, rfl⟩
    · exfalso; omega
    · rcases wt hwaitsTooLong with ⟨w1, w2, w3, w4⟩ | ⟨w1, ⟨w1, w2, w3, w4⟩ | ⟨w1, w2, w5, w3, w4⟩ | ⟨w1, w2, w5, w3, w4⟩ | ⟨w1, w2, w3, w4⟩ | ⟨w1, w2, w3, w4⟩⟩
      · exact absurd ⟨w1, w2⟩ d0
      · exfalso; first | omega | (have := t0a d1; omega)
      · exfalso; first | omega | (have := t0a d1; omega)
      · exfalso; first | omega | (have := t0a d1; omega)
      · exfalso; first | omega | (have := t0a d1; omega)
      · exfalso; first | omega | (have := t0a d1; omega)
    · rcases wt hwaitsTooLong with ⟨w1, w2, w3, w4⟩ | ⟨w1, ⟨w1, w2, w3, w4⟩ | ⟨w1, w2, w5, w3, w4⟩ | ⟨w1, w2, w5, w3, w4⟩ | ⟨w1, w2, w3, w4⟩ | ⟨w1, w2, w3, w4⟩⟩
      · exact absurd ⟨w1, w2⟩ d0
      · exfalso; first | omega | (have := t0a d1; omega)
      · subst w3
        exact ⟨h.rq hV hq hst (fun j hj => by rw [upd_n (by omega), upd_n (by omega), upd_n (by omega)]) (fun j hj => by rw [uA_n (by omega), uA_n (by omega), uA_n (by omega)]) (fun j k hk => by
          by_cases a0 : j = 16
          · subst a0; exact upd_n hk
          by_cases a1 : j = 15
          · subst a1; exact upd_n hk
          by_cases a2 : j = 13
          · subst a2; exact upd_n hk
          rw [uA_n a0, uA_n a1, uA_n a2]) p2s.1 p2s.2.1 (by
          show _ = upd (A 13) q (A 12 q) q
          exact upd_s.symm) (by
          show _ = upd (A 15) q 0 q
          exact upd_s.symm) (by
          show _ = upd (A 16) q (A 16 q + 1) q
          exact upd_s.symm) p3.2.2 p4s.1 (by
          show TIM t0 (A 18 q) (upd (A 15) q 0 q)
          rw [upd_s]
          exact ⟨fun _ => by rw [i_0]; omega, fun _ => by rw [i_0]; omega⟩) p8, rfl⟩
      · exfalso; first | omega | (have := t0a d1; omega)
      · exfalso; first | omega | (have := t0a d1; omega)
      · exfalso; first | omega | (have := t0a d1; omega)
  · rcases hc with ⟨c1, rfl, rfl⟩ | ⟨c1, r_5, U_6, hF, hwaitsTooLong, c2, U_10, hF_1, hfail, rfl, rfl⟩ | ⟨c1, r_5, U_6, hF, hwaitsTooLong, c2, rfl, rfl⟩
    · exfalso; omega
    · rcases wt hwaitsTooLong with ⟨w1, w2, w3, w4⟩ | ⟨w1, ⟨w1, w2, w3, w4⟩ | ⟨w1, w2, w5, w3, w4⟩ | ⟨w1, w2, w5, w3, w4⟩ | ⟨w1, w2, w3, w4⟩ | ⟨w1, w2, w3, w4⟩⟩
      · exact absurd ⟨w1, w2⟩ d0
      · exfalso; first | omega | (have := t0a d1; omega)
      · exfalso; first | omega | (have := t0a d1; omega)
      · subst w3
        have h1 := h.rq (A' := uA (uA A 15 (upd (A 15) q 0)) 16 (upd (A 16) q (A 16 q + 1))) hV hq hst (f := upd (upd (B (x + 77 + 17 * q)) 10 0) 11 (A 16 q + 1)) (fun j hj => by rw [upd_n (by omega), upd_n (by omega)]) (fun j hj => by rw [uA_n (by omega), uA_n (by omega)]) (fun j k hk => by
          by_cases a0 : j = 16
          · subst a0; exact upd_n hk
          by_cases a1 : j = 15
          · subst a1; exact upd_n hk
          rw [uA_n a0, uA_n a1]) p2s.1 p2s.2.1 p2s.2.2.1 (by
          show _ = upd (A 15) q 0 q
          exact upd_s.symm) (by
          show _ = upd (A 16) q (A 16 q + 1) q
          exact upd_s.symm) p3.2.2 p4s.1 (by
          show TIM t0 (A 18 q) (upd (A 15) q 0 q)
          rw [upd_s]
          exact ⟨fun _ => by rw [i_0]; omega, fun _ => by rw [i_0]; omega⟩) p8
        obtain ⟨-, -, a3, -, -⟩ := h1.fail (st := 1) (rs := 0) (hV.cg rfl rfl rfl) hq hp (by decide) (by decide) hfail d4
        exact ⟨a3, rfl⟩
      · exfalso; first | omega | (have := t0a d1; omega)
      · exfalso; first | omega | (have := t0a d1; omega)
    · rcases wt hwaitsTooLong with ⟨w1, w2, w3, w4⟩ | ⟨w1, ⟨w1, w2, w3, w4⟩ | ⟨w1, w2, w5, w3, w4⟩ | ⟨w1, w2, w5, w3, w4⟩ | ⟨w1, w2, w3, w4⟩ | ⟨w1, w2, w3, w4⟩⟩
      · exact absurd ⟨w1, w2⟩ d0
      · exfalso; first | omega | (have := t0a d1; omega)
      · exfalso; first | omega | (have := t0a d1; omega)
      · exfalso; first | omega | (have := t0a d1; omega)
      · exfalso; first | omega | (have := t0a d1; omega)
      · exfalso; first | omega | (have := t0a d1; omega)
  · rcases hc with ⟨c1, rfl, rfl⟩ | ⟨c1, r_5, U_6, hF, hwaitsTooLong, c2, U_10, hF_1, hfail, rfl, rfl⟩ | ⟨c1, r_5, U_6, hF, hwaitsTooLong, c2, rfl, rfl⟩
    · exfalso; omega
    · rcases wt hwaitsTooLong with ⟨w1, w2, w3, w4⟩ | ⟨w1, ⟨w1, w2, w3, w4⟩ | ⟨w1, w2, w5, w3, w4⟩ | ⟨w1, w2, w5, w3, w4⟩ | ⟨w1, w2, w3, w4⟩ | ⟨w1, w2, w3, w4⟩⟩
      · exact absurd ⟨w1, w2⟩ d0
      · exfalso; first | omega | (have := t0a d1; omega)
      · exfalso; first | omega | (have := t0a d1; omega)
      · exfalso; first | omega | (have := t0a d1; omega)
      · exfalso; first | omega | (have := t0a d1; omega)
      · exfalso; first | omega | (have := t0a d1; omega)
    · rcases wt hwaitsTooLong with ⟨w1, w2, w3, w4⟩ | ⟨w1, ⟨w1, w2, w3, w4⟩ | ⟨w1, w2, w5, w3, w4⟩ | ⟨w1, w2, w5, w3, w4⟩ | ⟨w1, w2, w3, w4⟩ | ⟨w1, w2, w3, w4⟩⟩
      · exact absurd ⟨w1, w2⟩ d0
      · exfalso; first | omega | (have := t0a d1; omega)
      · exfalso; first | omega | (have := t0a d1; omega)
      · exfalso; first | omega | (have := t0a d1; omega)
      · subst w3
        exact ⟨h.rq hV hq hst (fun j hj => by rw [upd_n (by omega)]) (fun j hj => by rw [uA_n (by omega)]) (fun j k hk => by
          by_cases a0 : j = 15
          · subst a0; exact upd_n hk
          rw [uA_n a0]) p2s.1 p2s.2.1 p2s.2.2.1 (by
          show _ = upd (A 15) q (A 15 q + 1) q
          exact upd_s.symm) p3.2.1 p3.2.2 p4s.1 (by
          show TIM t0 (A 18 q) (upd (A 15) q (A 15 q + 1) q)
          rw [upd_s]
          exact ⟨fun e9 => by have q1 := t0a e9; rw [ec]; omega, fun e9 => by have q1 := t0b e9; rw [ec]; omega⟩) p8, rfl⟩
      · exfalso; first | omega | (have := t0a d1; omega)
  · rcases hc with ⟨c1, rfl, rfl⟩ | ⟨c1, r_5, U_6, hF, hwaitsTooLong, c2, U_10, hF_1, hfail, rfl, rfl⟩ | ⟨c1, r_5, U_6, hF, hwaitsTooLong, c2, rfl, rfl⟩
    · exfalso; omega
    · rcases wt hwaitsTooLong with ⟨w1, w2, w3, w4⟩ | ⟨w1, ⟨w1, w2, w3, w4⟩ | ⟨w1, w2, w5, w3, w4⟩ | ⟨w1, w2, w5, w3, w4⟩ | ⟨w1, w2, w3, w4⟩ | ⟨w1, w2, w3, w4⟩⟩
      · exact absurd ⟨w1, w2⟩ d0
      · exfalso; first | omega | (have := t0a d1; omega)
      · exfalso; first | omega | (have := t0a d1; omega)
      · exfalso; first | omega | (have := t0a d1; omega)
      · exfalso; first | omega | (have := t0a d1; omega)
      · exfalso; first | omega | (have := t0a d1; omega)
    · rcases wt hwaitsTooLong with ⟨w1, w2, w3, w4⟩ | ⟨w1, ⟨w1, w2, w3, w4⟩ | ⟨w1, w2, w5, w3, w4⟩ | ⟨w1, w2, w5, w3, w4⟩ | ⟨w1, w2, w3, w4⟩ | ⟨w1, w2, w3, w4⟩⟩
      · exact absurd ⟨w1, w2⟩ d0
      · exfalso; first | omega | (have := t0a d1; omega)
      · exfalso; first | omega | (have := t0a d1; omega)
      · exfalso; first | omega | (have := t0a d1; omega)
      · exfalso; first | omega | (have := t0a d1; omega)
      · subst w3
        exact ⟨h.rq hV hq hst (fun j hj => by rw [upd_n (by omega), upd_n (by omega)]) (fun j hj => by rw [uA_n (by omega), uA_n (by omega)]) (fun j k hk => by
          by_cases a0 : j = 18
          · subst a0; exact upd_n hk
          by_cases a1 : j = 15
          · subst a1; exact upd_n hk
          rw [uA_n a0, uA_n a1]) p2s.1 p2s.2.1 p2s.2.2.1 (by
          show _ = upd (A 15) q 0 q
          exact upd_s.symm) p3.2.1 p3.2.2 (by
          show _ = upd (A 18) q 0 q
          exact upd_s.symm) (by
          show TIM t0 (upd (A 18) q 0 q) (upd (A 15) q 0 q)
          rw [upd_s, upd_s]
          exact ⟨fun _ => by rw [i_0]; omega, fun _ => by rw [i_0]; omega⟩) (by
          show B01 (upd (A 18) q 0 q)
          rw [upd_s]; exact Or.inl rfl), rfl⟩
