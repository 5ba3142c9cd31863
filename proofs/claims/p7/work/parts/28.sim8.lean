theorem r_receive {A : AA} {cd pk p0 p1 p2 : Int32} {A' : AA} {cdz pkz r : Int32} (h : D_X10_receive A cd pk p0 p1 p2 A' cdz pkz r) : pkz = pk ∧ ((¬ (0 ≤ p0.toInt ∧ p0.toInt ≤ 3 ∧ 1 ≤ p2.toInt ∧ p2.toInt ≤ 12 ∧ 0 ≤ p1.toInt ∧ p1.toInt ≤ 32 - p2.toInt) ∧ cdz = 1 ∧ A' = A) ∨ ((0 ≤ p0.toInt ∧ p0.toInt ≤ 3 ∧ 1 ≤ p2.toInt ∧ p2.toInt ≤ 12 ∧ 0 ≤ p1.toInt ∧ p1.toInt ≤ 32 - p2.toInt) ∧ ∃ n : Nat, (n : Int) = p0.toInt ∧ ((¬ ((A 10 n).toInt ≠ 2 ∧ (A 30 n).toInt ≠ 4) ∧ cdz = 2 ∧ A' = A) ∨ ((A 10 n).toInt ≠ 2 ∧ (A 30 n).toInt ≠ 4 ∧ cdz = 0 ∧ r = A 31 n ∧ ∃ (m : Nat) (c : Int32), (m : Int) = 4 * (n : Int) + (A 30 n).toInt ∧ c = A 30 n + 1 ∧ c.toInt = (A 30 n).toInt + 1 ∧ A' = uA (uA (uA (uA (uA (uA A 30 (upd (A 30) n c)) 31 (upd (A 31) n (A 31 n + 1))) 32 (upd (A 32) m p1)) 33 (upd (A 33) m p2)) 34 (upd (A 34) m (A 31 n))) 35 (upd (A 35) m 0))))) := by
  rcases h with ⟨r_1, hcellsGood, er_1, c1, n_5, hn_5, c2, ur_7, r_7, hfail, eur_7, rfl, rfl, rfl, rfl⟩ | ⟨r_1, hcellsGood, er_1, c1, n_5, hn_5, c2, c3, x_13, ex_13, fx_13, x_15, ex_15, fx_15, n_18, hn_18, g_17, rfl, g_19, rfl, g_21, rfl, g_22, rfl, x_24, ex_24, fx_24, g_25, rfl, x_27, ex_27, g_28, rfl, x_30, ex_30, rfl, rfl, rfl, rfl⟩ | ⟨r_1, hcellsGood, er_1, c1, n_5, hn_5, c2, c3, ur_33, r_33, hfail, eur_33, rfl, rfl, rfl, rfl⟩ | ⟨r_1, hcellsGood, er_1, c1, ur_34, r_34, hfail, eur_34, rfl, rfl, rfl, rfl⟩
  all_goals
    refine ⟨rfl, ?_⟩
    have kc := r_cells hcellsGood
  · right; exact ⟨by omega, n_5, hn_5, Or.inl ⟨by omega, r_fail hfail, by simp only [uA_ii]⟩⟩
  · right
    subst ex_27
    refine ⟨by omega, n_5, hn_5, Or.inr ⟨by omega, by omega, rfl, by rw [ex_30, inc_dec], n_18, x_24, by omega, ex_24, fx_24, rfl⟩⟩
  · right; exact ⟨by omega, n_5, hn_5, Or.inl ⟨by omega, r_fail hfail, by simp only [uA_ii]⟩⟩
  · left; exact ⟨by omega, r_fail hfail, by simp only [uA_ii]⟩
theorem s_receiveC {x : Nat} {G : Nat → Nat} {t0 t1 t2 : Int32} {B : AA} {R : RR} {A : AA} {pk cd p0 p1 p2 : Int32} (h : SIM x t0 t1 t2 B R A pk) (hV : RIV A pk) {Z : AA} {r : Int32} (hc : C_X9_receive G B R x p0 p1 p2 Z r) {A' : AA} {cdz pkz r' : Int32} (hd : D_X10_receive A cd pk p0 p1 p2 A' cdz pkz r') : SIM x t0 t1 t2 Z R A' pk ∧ pkz = pk ∧ cdz = 0 ∧ r = r' := by
  have hh := h
  obtain ⟨hS, -, -, -, -, hP⟩ := hh
  obtain ⟨e1, e2⟩ := r_receive hd
  rcases hc with ⟨c1, c2, n_10, hn_10, r_13, htakesReceives, c3, r_23, U_24, hF, happend, rfl, rfl⟩
  have hq : n_10 < 4 := by omega
  rw [hS.1.2.1, (hS.2.2.1 _ hq).1] at htakesReceives happend
  rw [(hS.2.2.1 _ hq).2.2, (hS.2.2.2.2.2.1 _ hq).2.2.1] at happend
  have kt := e_takesV hS hq htakesReceives
  obtain ⟨hC, hPS, hRQ, hRV, hAD⟩ := hP _ hq
  have k1 := congrArg Int32.toInt hPS.1
  obtain ⟨hd4, g1, g2, g3, g4, g5⟩ := hRV
  have k3 := congrArg Int32.toInt g3
  have hc4 := (hV.c4 hq).2
  rcases e2 with ⟨e3, -⟩ | ⟨e3, n, hn, ⟨e4, -⟩ | ⟨e4, e5, e6, e7, m, c, b1, b2, b3, rfl⟩⟩
  · exact absurd (by omega) e3
  · obtain rfl : n = n_10 := by omega
    exact absurd (by omega) e4
  · obtain rfl : n = n_10 := by omega
    obtain ⟨i0, hi0⟩ : ∃ i0 : Nat, (i0 : Int) = (A 30 n).toInt := ⟨_, Int.toNat_of_nonneg hc4.1⟩
    obtain rfl : m = 4 * n + i0 := by omega
    have hat : ∀ r, C_X5_at G B R (x + 88 + 17 * n) (B (x + 88 + 17 * n) 4) r → r = x + 90 + 17 * n + (hd4 + i0) % 4 := fun r hr => e_atV hS hq hr g2 (by omega)
    obtain ⟨a1, s', c', a2, a3, a4, a5, a6, a7⟩ := e_append happend (fun r hr => by rw [hat r hr]; omega)
    have er := hat _ a1
    subst er
    refine ⟨h.pr0 hV hq (fun a k => a7 a (by omega) (by omega)) ⟨?_, ?_, ?_, ?_, ?_⟩ (fun q' hne => agr1 hne (fun j k1 k2 => ?_)) (fun j k => ?_), e1, e6, ?_⟩
    · refine hC.cg (fun j hj => by rw [a7 _ (by omega) (by omega)]) (by rw [a7 _ (by omega) (by omega)]) (by rw [a7 _ (by omega) (by omega)]) ?_
      rw [a5, upd_n (by decide), upd_n (by decide)]
    · exact hPS.cg (a7 _ (by omega) (by omega)) (a7 _ (by omega) (by omega)) (a7 _ (by omega) (by omega)) (fun j hj => by rw [uA_n (by omega), uA_n (by omega), uA_n (by omega), uA_n (by omega), uA_n (by omega), uA_n (by omega)])
    · exact hRQ.cg (a7 _ (by omega) (by omega)) (fun i _ => a7 _ (by omega) (by omega)) rfl rfl (fun j k1 k2 i hi => by rw [uA_n (by omega), uA_n (by omega), uA_n (by omega), uA_n (by omega), uA_n (by omega), uA_n (by omega)]) (hV.c4 hq).1.2
    · refine ⟨hd4, g1, ?_, ?_, ?_, fun i hi => ?_⟩
      · rw [a5, upd_n (by decide), upd_n (by decide)]; exact g2
      · show _ = upd (A 30) n c n
        rw [a5, upd_s, upd_s, a3, b2, g3]
      · show _ = upd (A 31) n (A 31 n + 1) n
        rw [a5, upd_n (by decide), upd_s, upd_s, a2, g4]
      · have hi : (i : Int) < (upd (A 30) n c n).toInt := hi
        rw [upd_s] at hi
        by_cases e : i = i0
        · subst e
          rw [a6]
          refine ⟨?_, ?_, ?_, ?_, ?_⟩
          · simp [upd]
          · show _ = upd (A 34) _ (A 31 n) _
            rw [upd_s, ← g4]; simp [upd]
          · show _ = upd (A 32) _ p1 _
            simp [upd]
          · show _ = upd (A 33) _ p2 _
            simp [upd]
          · show _ = upd (A 35) _ 0 _
            simp [upd]
        · refine (g5 i (by omega)).cg (a7 _ (by omega) (by omega)) (fun j k1 k2 => ?_)
          rcases (show j = 32 ∨ j = 33 ∨ j = 34 ∨ j = 35 by omega) with rfl | rfl | rfl | rfl <;> exact upd_n (by omega)
    · exact hAD.cg (a7 _ (by omega) (by omega)) (a7 _ (by omega) (by omega)) rfl (fun _ _ => rfl) (fun _ _ => rfl)
    · by_cases b1 : j = 30
      · subst b1; exact Or.inr (Or.inl ⟨fun k hk => upd_n hk, by omega, by omega, by omega⟩)
      by_cases b2 : j = 31
      · subst b2; exact Or.inr (Or.inl ⟨fun k hk => upd_n hk, by omega, by omega, by omega⟩)
      by_cases b4 : 32 ≤ j ∧ j ≤ 35
      · refine Or.inr (Or.inr (Or.inl ⟨fun k hk => ?_, Or.inr b4⟩))
        rcases (show j = 32 ∨ j = 33 ∨ j = 34 ∨ j = 35 by omega) with rfl | rfl | rfl | rfl <;> exact upd_n (by omega)
      · refine Or.inl ?_
        rw [uA_n (by omega), uA_n (by omega), uA_n (by omega), uA_n (by omega), uA_n b2, uA_n b1]
    · rw [uA_n (by omega), uA_n (by omega), uA_n (by omega), uA_n (by omega), uA_n (by omega), uA_n (by omega)]
    · rw [a6, e7, ← g4]; simp [upd]
theorem sx_receiveC {x : Nat} {G : Nat → Nat} {t0 t1 t2 : Int32} {B : AA} {R : RR} {A : AA} {pk cd p0 p1 p2 : Int32} (h : SIM x t0 t1 t2 B R A pk) {En : String} (hc : X_X9_receive G B R x p0 p1 p2 En) {A' : AA} {cdz pkz r' : Int32} (hd : D_X10_receive A cd pk p0 p1 p2 A' cdz pkz r') : SIM x t0 t1 t2 B R A' pk ∧ pkz = pk ∧ ((En = IAE ∧ cdz = 1) ∨ (En = ISE ∧ cdz = 2)) := by
  have hh := h
  obtain ⟨hS, -, -, -, -, hP⟩ := hh
  obtain ⟨e1, e2⟩ := r_receive hd
  rcases hc with ⟨c1, rfl⟩ | ⟨c1, c2, rfl⟩ | ⟨c1, c2, n_10, hn_10, r_13, htakesReceives, c3, rfl⟩
  all_goals first
    | (rcases e2 with ⟨e3, e4, rfl⟩ | ⟨e3, _⟩
       · exact ⟨h, e1, Or.inl ⟨rfl, e4⟩⟩
       · exfalso; omega)
    | (have hq : n_10 < 4 := by omega
       rw [hS.1.2.1, (hS.2.2.1 _ hq).1] at htakesReceives
       have kt := e_takesV hS hq htakesReceives
       have k1 := congrArg Int32.toInt (hP _ hq).2.1.1
       obtain ⟨_, _, _, k3, _⟩ := (hP _ hq).2.2.2.1
       have k3 := congrArg Int32.toInt k3
       rcases e2 with ⟨e3, -⟩ | ⟨e3, n, hn, ⟨e4, e5, rfl⟩ | ⟨e4, e5, e6, e7⟩⟩
       · exact absurd (by omega) e3
       · exact ⟨h, e1, Or.inr ⟨rfl, e5⟩⟩
       · obtain rfl : n = n_10 := by omega
         exfalso; omega)
/-- ready -/
theorem s_readyC {x : Nat} {G : Nat → Nat} {t0 t1 t2 : Int32} {B : AA} {R : RR} {A : AA} {pk cd p0 p1 p2 : Int32} (h : SIM x t0 t1 t2 B R A pk) (hV : RIV A pk) {Z : AA} (hc : C_X9_ready G B R x p0 p1 p2 Z) {A' : AA} {cdz pkz : Int32} (hd : D_X10_ready A cd pk p0 p1 p2 A' cdz pkz) : SIM x t0 t1 t2 Z R A' pk ∧ pkz = pk ∧ cdz = 0 := by
  have hh := h
  obtain ⟨hS, -, -, -, -, hP⟩ := hh
  have i3 := i_3t
  have i63 := i_63t
  rcases hc with ⟨c1, c2, c3, n_12, hn_12, c4, U_22, hF, hstart, eZ⟩
  have hq : n_12 < 4 := by omega
  rw [hS.1.2.1, (hS.2.2.1 _ hq).1] at hstart c4
  rcases hstart with ⟨B_2a, rfl, U_7a, hFa, hstarta, B_11a, rfl, rfl⟩
  rw [(hS.2.2.1 _ hq).2.1] at hstarta
  rw [(hS.2.2.1 _ hq).2.2] at eZ
  rcases hstarta with ⟨B_2b, rfl, B_4b, rfl, B_6b, rfl, rfl⟩
  obtain ⟨hC, hPS, hRQ, hRV, hAD⟩ := hP _ hq
  have k1 := congrArg Int32.toInt hPS.1
  rcases hd with ⟨c1d, rfl, rfl, rfl⟩ | ⟨c1d, c2d, rfl, rfl, rfl⟩ | ⟨c1d, c2d, c3d, n_8d, hn_8d, c4d, g_11d, rfl, g_12d, rfl, g_13d, rfl, g_14d, rfl, g_15d, rfl, rfl, rfl, rfl⟩ | ⟨c1d, c2d, c3d, n_8d, hn_8d, c4d, rfl, rfl, rfl⟩ | ⟨c1d, c2d, c3d, rfl, rfl, rfl⟩
  · omega
  · omega
  · obtain rfl : n_8d = n_12 := by omega
    simp only [uA_u, uA_s] at eZ
    have zO : ∀ a, a ≠ x + 84 + 17 * n_8d → a ≠ x + 77 + 17 * n_8d → a ≠ x + 85 + 17 * n_8d → Z a = B a := fun a k1 k2 k3 => by rw [eZ, uA_n k3, uA_n k2, uA_n k1]
    have zP : Z (x + 84 + 17 * n_8d) = upd (B (x + 84 + 17 * n_8d)) 2 1 := by rw [eZ, uA_n (by omega), uA_n (by omega), uA_s]
    have zH : Z (x + 77 + 17 * n_8d) = upd (upd (upd (B (x + 77 + 17 * n_8d)) 7 p1) 8 p1) 9 p1 := by rw [eZ, uA_n (by omega), uA_s, uA_n (by omega)]
    have zS : Z (x + 85 + 17 * n_8d) = upd (B (x + 85 + 17 * n_8d)) 4 p2 := by rw [eZ, uA_s, uA_n (by omega), uA_n (by omega)]
    clear eZ
    obtain ⟨p1', p2', p3, p4, p5, p6, p7, p8, p9, p10⟩ := hPS
    refine ⟨h.pr0 hV hq (fun a k => zO a (by omega) (by omega) (by omega)) ⟨?_, ?_, ?_, ?_, ?_⟩ (fun q' hne => agr1 hne (fun j k1 k2 => ?_)) (fun j k => ?_), rfl, rfl⟩
    · refine hC.cg (fun j hj => by rw [zH, upd_n (by omega), upd_n (by omega), upd_n (by omega)]) (by rw [zS, upd_n (by decide)]) (by rw [zO _ (by omega) (by omega) (by omega)]) (by rw [zO _ (by omega) (by omega) (by omega)])
    · unfold PS
      rw [zP, zH, zS]
      refine ⟨?_, fun _ => ⟨?_, ?_, ?_, ?_⟩, ?_, fun _ => ?_, ?_, ?_, ?_, p8, p9, p10⟩
      · show _ = upd (A 10) n_8d 1 n_8d
        rw [upd_s, upd_s]
      · show _ = upd (A 11) n_8d p1 n_8d
        simp [upd]
      · show _ = upd (A 12) n_8d p1 n_8d
        simp [upd]
      · show _ = upd (A 13) n_8d p1 n_8d
        simp [upd]
      · show _ = upd (A 14) n_8d p2 n_8d
        simp [upd]
      · refine ⟨?_, ?_, ?_⟩
        · rw [upd_n (by decide), upd_n (by decide), upd_n (by decide)]; exact p3.1
        · rw [upd_n (by decide), upd_n (by decide), upd_n (by decide)]; exact p3.2.1
        · rw [upd_n (by decide), upd_n (by decide), upd_n (by decide)]; exact p3.2.2
      · rw [upd_n (by decide), upd_n (by decide), upd_n (by decide)]; exact p4 (by omega)
      · rw [upd_n (by decide), upd_n (by decide)]; exact p5
      · show 0 ≤ (upd (A 14) n_8d p2 n_8d).toInt ∧ (upd (A 14) n_8d p2 n_8d).toInt ≤ 63
        rw [upd_s]; omega
      · show 0 ≤ (upd (A 10) n_8d 1 n_8d).toInt ∧ (upd (A 10) n_8d 1 n_8d).toInt ≤ 2
        rw [upd_s]; decide
    · exact hRQ.cg (zO _ (by omega) (by omega) (by omega)) (fun i _ => zO _ (by omega) (by omega) (by omega)) rfl rfl (fun j k1 k2 i hi => by rw [uA_n (by omega), uA_n (by omega), uA_n (by omega), uA_n (by omega), uA_n (by omega)]) (hV.c4 hq).1.2
    · exact hRV.cg (zO _ (by omega) (by omega) (by omega)) (fun i _ => zO _ (by omega) (by omega) (by omega)) rfl rfl (fun j k1 k2 i hi => by rw [uA_n (by omega), uA_n (by omega), uA_n (by omega), uA_n (by omega), uA_n (by omega)]) (hV.c4 hq).2.2
    · exact hAD.cg (zO _ (by omega) (by omega) (by omega)) (zO _ (by omega) (by omega) (by omega)) rfl (fun _ _ => rfl) (fun _ _ => rfl)
    · by_cases b : 10 ≤ j ∧ j ≤ 14
      · refine Or.inr (Or.inl ⟨fun k hk => ?_, by omega, by omega, by omega⟩)
        rcases (show j = 10 ∨ j = 11 ∨ j = 12 ∨ j = 13 ∨ j = 14 by omega) with rfl | rfl | rfl | rfl | rfl <;> exact upd_n hk
      · refine Or.inl ?_
        rw [uA_n (by omega), uA_n (by omega), uA_n (by omega), uA_n (by omega), uA_n (by omega)]
    · rw [uA_n (by omega), uA_n (by omega), uA_n (by omega), uA_n (by omega), uA_n (by omega)]
  · obtain rfl : n_8d = n_12 := by omega
    omega
  · omega
theorem sx_readyC {x : Nat} {G : Nat → Nat} {t0 t1 t2 : Int32} {B : AA} {R : RR} {A : AA} {pk cd p0 p1 p2 : Int32} (h : SIM x t0 t1 t2 B R A pk) {En : String} (hc : X_X9_ready G B R x p0 p1 p2 En) {A' : AA} {cdz pkz : Int32} (hd : D_X10_ready A cd pk p0 p1 p2 A' cdz pkz) : SIM x t0 t1 t2 B R A' pk ∧ pkz = pk ∧ ((En = IAE ∧ cdz = 1) ∨ (En = ISE ∧ cdz = 2)) := by
  have hh := h
  obtain ⟨hS, -, -, -, -, hP⟩ := hh
  have i3 := i_3t
  have i63 := i_63t
  have e : (A' = A ∧ pkz = pk ∧ ((cdz = 1 ∧ ¬ (0 ≤ p0.toInt ∧ p0.toInt ≤ 3 ∧ 0 ≤ p1.toInt ∧ p1.toInt ≤ 63 ∧ 0 ≤ p2.toInt ∧ p2.toInt ≤ 63)) ∨ (cdz = 2 ∧ (0 ≤ p0.toInt ∧ p0.toInt ≤ 3 ∧ 0 ≤ p1.toInt ∧ p1.toInt ≤ 63 ∧ 0 ≤ p2.toInt ∧ p2.toInt ≤ 63)))) ∨ ((0 ≤ p0.toInt ∧ p0.toInt ≤ 3 ∧ 0 ≤ p1.toInt ∧ p1.toInt ≤ 63 ∧ 0 ≤ p2.toInt ∧ p2.toInt ≤ 63) ∧ ∃ n : Nat, (n : Int) = p0.toInt ∧ (A 10 n).toInt = 0) := by
    rcases hd with ⟨c1d, rfl, rfl, rfl⟩ | ⟨c1d, c2d, rfl, rfl, rfl⟩ | ⟨c1d, c2d, c3d, n_8d, hn_8d, c4d, g_11d, rfl, g_12d, rfl, g_13d, rfl, g_14d, rfl, g_15d, rfl, rfl, rfl, rfl⟩ | ⟨c1d, c2d, c3d, n_8d, hn_8d, c4d, rfl, rfl, rfl⟩ | ⟨c1d, c2d, c3d, rfl, rfl, rfl⟩
    · exact Or.inl ⟨by simp only [uA_ii], rfl, Or.inl ⟨rfl, by omega⟩⟩
    · exact Or.inl ⟨by simp only [uA_ii], rfl, Or.inl ⟨rfl, by omega⟩⟩
    · exact Or.inr ⟨by omega, n_8d, hn_8d, c4d⟩
    · exact Or.inl ⟨by simp only [uA_ii], rfl, Or.inr ⟨rfl, by omega⟩⟩
    · exact Or.inl ⟨by simp only [uA_ii], rfl, Or.inl ⟨rfl, by omega⟩⟩
  rcases hc with ⟨c1, rfl⟩ | ⟨c1, c2, rfl⟩ | ⟨c1, c2, c3, rfl⟩ | ⟨c1, c2, c3, n_12, hn_12, c4, rfl⟩
  · rcases e with ⟨rfl, rfl, ⟨e1, e2⟩ | ⟨e1, e2⟩⟩ | ⟨e1, e2⟩
    · exact ⟨h, rfl, Or.inl ⟨rfl, e1⟩⟩
    · exfalso; omega
    · exfalso; omega
  · rcases e with ⟨rfl, rfl, ⟨e1, e2⟩ | ⟨e1, e2⟩⟩ | ⟨e1, e2⟩
    · exact ⟨h, rfl, Or.inl ⟨rfl, e1⟩⟩
    · exfalso; omega
    · exfalso; omega
  · rcases e with ⟨rfl, rfl, ⟨e1, e2⟩ | ⟨e1, e2⟩⟩ | ⟨e1, e2⟩
    · exact ⟨h, rfl, Or.inl ⟨rfl, e1⟩⟩
    · exfalso; omega
    · exfalso; omega
  · have hq : n_12 < 4 := by omega
    rw [hS.1.2.1, (hS.2.2.1 _ hq).1] at c4
    have k1 := congrArg Int32.toInt (hP _ hq).2.1.1
    rcases e with ⟨rfl, rfl, ⟨e1, e2⟩ | ⟨e1, e2⟩⟩ | ⟨e1, n, hn, e2⟩
    · exfalso; omega
    · exact ⟨h, rfl, Or.inr ⟨rfl, e1⟩⟩
    · obtain rfl : n = n_12 := by omega
      exfalso; omega
