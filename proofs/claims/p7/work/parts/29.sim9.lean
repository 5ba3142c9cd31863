theorem e_clearQ {G : Nat → Nat} {B : AA} {R : RR} {K : Nat} {Z : AA} (h : C_X5_clear G B R K Z) : Z = uA B K (upd (upd (upd (B K) 3 0) 4 0) 5 0) := by
  rcases h with ⟨B_3, rfl, B_6, rfl, B_8, rfl, rfl⟩
  simp only [uA_u, uA_s]
theorem e_start {G : Nat → Nat} {B : AA} {R : RR} {K : Nat} {p : Int32} {Z : AA} (h : C_X7_start G B R K p Z) : Z = uA B K (upd (upd (upd (B K) 7 p) 8 p) 9 p) := by
  rcases h with ⟨B_2, rfl, B_4, rfl, B_6, rfl, rfl⟩
  simp only [uA_u, uA_s]
theorem e_forget {G : Nat → Nat} {B : AA} {R : RR} {K : Nat} {Z : AA} (h : C_X8_forgetAdds G B R K Z) (hne : R K 7 ≠ R K 8) : Z (R K 7) = upd (upd (B (R K 7)) 0 (-1)) 1 (-1) ∧ ∀ a, a ≠ R K 7 → a ≠ R K 8 → Z a = B a := by
  rcases h with ⟨B_5, rfl, B_9, rfl, B_13, rfl, B_16, rfl, rfl⟩
  refine ⟨?_, fun a h1 h2 => ?_⟩
  · simp only [uA_u, uA_s, uA_n hne]
  · simp only [uA_n h1, uA_n h2]
/-- reset -/
theorem s_resetC {x : Nat} {G : Nat → Nat} {t0 t1 t2 : Int32} (ht : 2 ≤ t0.toInt) {B : AA} {R : RR} {A : AA} {pk cd p0 : Int32} (h : SIM x t0 t1 t2 B R A pk) (hV : RIV A pk) {Z : AA} {r : Int32} (hc : C_X9_reset G B R x p0 Z r) {A' : AA} {cdz pkz r' : Int32} (hd : D_X10_reset A cd pk p0 A' cdz pkz r') : SIM x t0 t1 t2 Z R A' pk ∧ pkz = pk ∧ r = r' := by
  have hh := h
  obtain ⟨hS, -, -, -, -, hP⟩ := hh
  have i3 := i_3t
  have i0 := i_0
  rcases hc with ⟨c1, n_6, hn_6, U_10, hF, hclear, eZ, rfl⟩ | ⟨c1, eZ, rfl⟩
  · have hq : n_6 < 4 := by omega
    rw [hS.1.2.1, (hS.2.2.1 _ hq).1] at hclear
    rcases hclear with ⟨B_2a, rfl, U_7a, hFa, hcleara, U_12a, hFa_1, hcleara_1, rfl⟩
    rw [(hS.2.2.1 _ hq).2.1] at hcleara
    rw [(hS.2.2.1 _ hq).2.2] at hcleara_1
    rcases hcleara with ⟨U_5b, hFb, hclearb, U_8b, hFb_1, hstartb, B_10b, rfl, B_12b, rfl, B_14b, rfl, B_16b, rfl, rfl⟩
    rcases hcleara_1 with ⟨U_5c, hFc, hclearc, B_7c, rfl, B_9c, rfl, B_11c, rfl, U_14c, hFc_1, hforgetAddsc, rfl⟩
    have b1 := e_clearQ hclearb
    have b2 := e_start hstartb
    rw [(hS.2.2.2.1 _ hq).2.2] at b1
    have c1' := e_clearQ hclearc
    rw [(hS.2.2.2.2.2.1 _ hq).2.2.1] at c1'
    have s8 := (hS.2.2.2.2.2.1 _ hq).2.2.2
    obtain ⟨f1, f2⟩ := e_forget hforgetAddsc (by rw [s8.1, s8.2]; omega)
    rw [s8.1, s8.2] at f2
    rw [s8.1] at f1
    subst b1 b2 c1'
    obtain ⟨hC, hPS, hRQ, hRV, hAD⟩ := hP _ hq
    rcases hd with ⟨c1d, n_4d, hn_4d, g_3d, rfl, g_5d, rfl, g_6d, rfl, g_7d, rfl, g_8d, rfl, g_9d, rfl, g_10d, rfl, g_11d, rfl, g_12d, rfl, g_13d, rfl, g_14d, rfl, g_15d, rfl, rfl, rfl, rfl, rfl⟩ | ⟨c1d, rfl, rfl, rfl, rfl⟩
    · obtain rfl : n_4d = n_6 := by omega
      have zO : ∀ a, a ≠ x + 84 + 17 * n_4d → a ≠ x + 77 + 17 * n_4d → a ≠ x + 78 + 17 * n_4d → a ≠ x + 85 + 17 * n_4d → a ≠ x + 86 + 17 * n_4d → a ≠ x + 87 + 17 * n_4d → a ≠ x + 88 + 17 * n_4d → Z a = B a := fun a k1 k2 k3 k4 k5 k6 k7 => by rw [eZ, f2 a k5 k6]; simp only [uA_u]; rw [uA_n k4, uA_n k7, uA_n k2, uA_n k3, uA_n k1]
      have zP : Z (x + 84 + 17 * n_4d) = upd (B (x + 84 + 17 * n_4d)) 2 0 := by rw [eZ, f2 _ (by omega) (by omega)]; simp only [uA_u]; rw [uA_n (by omega), uA_n (by omega), uA_n (by omega), uA_n (by omega), uA_s]
      have zH : Z (x + 77 + 17 * n_4d) = upd (upd (upd (upd (upd (upd (upd (B (x + 77 + 17 * n_4d)) 7 0) 8 0) 9 0) 10 0) 11 0) 12 0) 13 0 := by rw [eZ, f2 _ (by omega) (by omega)]; simp only [uA_u, uA_s]; rw [uA_n (by omega), uA_n (by omega), uA_s, uA_n (by omega), uA_n (by omega)]
      have zK : Z (x + 78 + 17 * n_4d) = upd (upd (upd (B (x + 78 + 17 * n_4d)) 3 0) 4 0) 5 0 := by rw [eZ, f2 _ (by omega) (by omega)]; simp only [uA_u]; rw [uA_n (by omega), uA_n (by omega), uA_n (by omega), uA_s, uA_n (by omega)]
      have zS : Z (x + 85 + 17 * n_4d) = upd (upd (upd (B (x + 85 + 17 * n_4d)) 4 0) 5 0) 6 0 := by rw [eZ, f2 _ (by omega) (by omega)]; simp only [uA_u, uA_s]; rw [uA_n (by omega), uA_n (by omega), uA_n (by omega), uA_n (by omega)]
      have zV : Z (x + 88 + 17 * n_4d) = upd (upd (upd (B (x + 88 + 17 * n_4d)) 3 0) 4 0) 5 0 := by rw [eZ, f2 _ (by omega) (by omega)]; simp only [uA_u]; rw [uA_n (by omega), uA_s, uA_n (by omega), uA_n (by omega), uA_n (by omega)]
      have z86 : ∀ i, i < 2 → Z (x + 86 + 17 * n_4d) i = -1 := fun i hi => by
        rw [eZ, f1]
        rcases (show i = 0 ∨ i = 1 by omega) with rfl | rfl
        · rw [upd_n (by decide), upd_s]
        · rw [upd_s]
      clear eZ f1 f2
      obtain ⟨p1', p2', p3, p4, p5, p6, p7, p8, p9, p10⟩ := hPS
      refine ⟨h.pr0 hV hq (fun a k => zO a (by omega) (by omega) (by omega) (by omega) (by omega) (by omega) (by omega)) ⟨?_, ?_, ?_, ?_, ?_⟩ (fun q' hne => agr1 hne (fun j k1 k2 => ?_)) (fun j k => ?_), rfl, rfl⟩
      · refine hC.cg (fun j hj => by rw [zH, upd_n (by omega), upd_n (by omega), upd_n (by omega), upd_n (by omega), upd_n (by omega), upd_n (by omega), upd_n (by omega)]) (by rw [zS, upd_n (by decide), upd_n (by decide), upd_n (by decide)]) (by rw [zK, upd_n (by decide), upd_n (by decide), upd_n (by decide)]) (by rw [zV, upd_n (by decide), upd_n (by decide), upd_n (by decide)])
      · unfold PS
        rw [zP, zH, zS]
        refine ⟨?_, fun k => ?_, ⟨?_, ?_, ?_⟩, fun _ => ⟨?_, ?_⟩, ⟨?_, ?_⟩, p6, ?_, ?_, ?_, ?_⟩
        · show _ = upd (A 10) n_4d 0 n_4d
          rw [upd_s, upd_s]
        · have k : (upd (A 10) n_4d 0 n_4d).toInt = 1 := k
          rw [upd_s] at k
          exact absurd k (by decide)
        · show _ = upd (A 15) n_4d 0 n_4d
          simp [upd]
        · show _ = upd (A 16) n_4d 0 n_4d
          simp [upd]
        · show _ = upd (A 17) n_4d 0 n_4d
          simp [upd]
        · show _ = upd (A 18) n_4d 0 n_4d
          simp [upd]
        · show TIM t0 (upd (A 18) n_4d 0 n_4d) (upd (A 15) n_4d 0 n_4d)
          rw [upd_s, upd_s]
          exact ⟨fun _ => by omega, fun _ => by omega⟩
        · show _ = upd (A 19) n_4d 0 n_4d
          simp [upd]
        · show _ = upd (A 36) n_4d 0 n_4d
          simp [upd]
        · show 0 ≤ (upd (A 10) n_4d 0 n_4d).toInt ∧ (upd (A 10) n_4d 0 n_4d).toInt ≤ 2
          rw [upd_s]; decide
        · show B01 (upd (A 18) n_4d 0 n_4d)
          rw [upd_s]; exact Or.inl rfl
        · show B01 (upd (A 19) n_4d 0 n_4d)
          rw [upd_s]; exact Or.inl rfl
        · show B01 (upd (A 36) n_4d 0 n_4d)
          rw [upd_s]; exact Or.inl rfl
      · refine ⟨0, by omega, ?_, ?_, ?_, fun i hi => ?_⟩
        · rw [zK, upd_n (by decide), upd_n (by decide), upd_s]; decide
        · show _ = upd (A 20) n_4d 0 n_4d
          rw [zK, upd_n (by decide), upd_s, upd_s]
        · show _ = upd (A 21) n_4d 0 n_4d
          rw [zK, upd_s, upd_s]
        · have hi : (i : Int) < (upd (A 20) n_4d 0 n_4d).toInt := hi
          rw [upd_s] at hi
          omega
      · refine ⟨0, by omega, ?_, ?_, ?_, fun i hi => ?_⟩
        · rw [zV, upd_n (by decide), upd_n (by decide), upd_s]; decide
        · show _ = upd (A 30) n_4d 0 n_4d
          rw [zV, upd_n (by decide), upd_s, upd_s]
        · show _ = upd (A 31) n_4d 0 n_4d
          rw [zV, upd_s, upd_s]
        · have hi : (i : Int) < (upd (A 30) n_4d 0 n_4d).toInt := hi
          rw [upd_s] at hi
          omega
      · refine ⟨fun i hi hl => ?_, fun i hi _ => z86 i hi⟩
        have hl : (i : Int) < (upd (A 37) n_4d 0 n_4d).toInt := hl
        rw [upd_s] at hl
        omega
      · by_cases b : j = 10 ∨ j = 15 ∨ j = 16 ∨ j = 17 ∨ j = 18 ∨ j = 19 ∨ j = 20 ∨ j = 21 ∨ j = 30 ∨ j = 31 ∨ j = 36 ∨ j = 37
        · refine Or.inr (Or.inl ⟨fun k hk => ?_, by omega, by omega, by omega⟩)
          rcases b with rfl | rfl | rfl | rfl | rfl | rfl | rfl | rfl | rfl | rfl | rfl | rfl <;> exact upd_n hk
        · refine Or.inl ?_
          rw [uA_n (by omega), uA_n (by omega), uA_n (by omega), uA_n (by omega), uA_n (by omega), uA_n (by omega), uA_n (by omega), uA_n (by omega), uA_n (by omega), uA_n (by omega), uA_n (by omega), uA_n (by omega)]
      · rw [uA_n (by omega), uA_n (by omega), uA_n (by omega), uA_n (by omega), uA_n (by omega), uA_n (by omega), uA_n (by omega), uA_n (by omega), uA_n (by omega), uA_n (by omega), uA_n (by omega), uA_n (by omega)]
    · omega
  · subst eZ
    rcases hd with ⟨c1d, n_4d, hn_4d, g_3d, rfl, g_5d, rfl, g_6d, rfl, g_7d, rfl, g_8d, rfl, g_9d, rfl, g_10d, rfl, g_11d, rfl, g_12d, rfl, g_13d, rfl, g_14d, rfl, g_15d, rfl, rfl, rfl, rfl, rfl⟩ | ⟨c1d, rfl, rfl, rfl, rfl⟩
    · omega
    · refine ⟨?_, rfl, rfl⟩
      simp only [uA_ii]
      exact h
/-- poll -/
theorem r_poll {A : AA} {cd pk p0 p1 : Int32} {A' : AA} {cdz pkz r : Int32} (h : D_X10_poll A cd pk p0 p1 A' cdz pkz r) : pkz = pk ∧ ((¬ (0 ≤ p0.toInt ∧ p0.toInt ≤ 1 ∧ -1 ≤ p1.toInt ∧ p1.toInt ≤ 4) ∧ cdz = 1 ∧ A' = A) ∨ ((0 ≤ p0.toInt ∧ p0.toInt ≤ 1 ∧ -1 ≤ p1.toInt ∧ p1.toInt ≤ 4) ∧ ∃ n : Nat, (n : Int) = p0.toInt ∧ (((A 8 n).toInt = 0 ∧ cdz = 2 ∧ A' = A) ∨ ((A 8 n).toInt ≠ 0 ∧ cdz = 0 ∧ ((0 ≤ p1.toInt ∧ A' = A ∧ ∃ k : Nat, (k : Int) = p1.toInt ∧ r = A 9 (80 * n + k)) ∨ (p1.toInt < 0 ∧ ∃ c0 c1 k1 : Int32, D_X10_dropEnd A c0 pk p0 A' c1 k1 r)))))) := by
  have i1 := i_1t
  rcases h with ⟨c1, ur_2, r_2, hfail, eur_2, rfl, rfl, rfl, rfl⟩ | ⟨c1, c2, ur_4, r_4, hfail, eur_4, rfl, rfl, rfl, rfl⟩ | ⟨c1, c2, c3, n_8, hn_8, c4, c5, x_14, ex_14, fx_14, x_15, ex_15, fx_15, n_18, hn_18, rfl, rfl, rfl, rfl⟩ | ⟨c1, c2, c3, n_8, hn_8, c4, c5, ur_19, r_19, hdropEnd, c6, rfl, rfl, rfl, rfl⟩ | ⟨c1, c2, c3, n_8, hn_8, c4, ur_20, r_20, hfail, eur_20, rfl, rfl, rfl, rfl⟩ | ⟨c1, c2, c3, ur_21, r_21, hfail, eur_21, rfl, rfl, rfl, rfl⟩
  · exact ⟨rfl, Or.inl ⟨by omega, r_fail hfail, uu_id⟩⟩
  · exact ⟨rfl, Or.inl ⟨by omega, r_fail hfail, uu_id⟩⟩
  · exact ⟨rfl, Or.inr ⟨by omega, n_8, hn_8, Or.inr ⟨c4, rfl, Or.inl ⟨c5, uu_id, n_18 - 80 * n_8, by omega, by congr 1; omega⟩⟩⟩⟩
  · exact ⟨rfl, Or.inr ⟨by omega, n_8, hn_8, Or.inr ⟨c4, rfl, Or.inr ⟨by omega, _, _, _, hdropEnd⟩⟩⟩⟩
  · exact ⟨rfl, Or.inr ⟨by omega, n_8, hn_8, Or.inl ⟨c4, r_fail hfail, uu_id⟩⟩⟩
  · exact ⟨rfl, Or.inl ⟨by omega, r_fail hfail, uu_id⟩⟩
theorem s_pollC {x : Nat} {G : Nat → Nat} {t0 t1 t2 : Int32} {B : AA} {R : RR} {A : AA} {pk cd p0 p1 : Int32} (h : SIM x t0 t1 t2 B R A pk) (hV : RIV A pk) {Z : AA} {r : Int32} (hc : C_X9_poll G B R x p0 p1 Z r) {A' : AA} {cdz pkz r' : Int32} (hd : D_X10_poll A cd pk p0 p1 A' cdz pkz r') : SIM x t0 t1 t2 Z R A' pk ∧ pkz = pk ∧ cdz = 0 ∧ r = r' := by
  have hh := h
  obtain ⟨hS, -, hM, hG, hN, -⟩ := hh
  obtain ⟨e1, e2⟩ := r_poll hd
  rcases hc with ⟨c1, c2, c3, n_12, hn_12, c4, c5, U_19, hF, hdropFirst, rfl, rfl⟩ | ⟨c1, c2, c3, n_12, hn_12, c4, c5, r_20, htellFirst, rfl, rfl⟩
  · have hn2 : n_12 < 2 := by omega
    rw [hS.1.1, (hS.2.1 _ hn2).1] at c4 hdropFirst
    obtain ⟨h0, b1, b2, b3, b4⟩ := hN _ hn2
    have k3 := congrArg Int32.toInt b3
    have hI := hV.1.2.1 _ hn2
    rcases e2 with ⟨e3, -⟩ | ⟨e3, n, hn, ⟨e4, -⟩ | ⟨e4, e5, ⟨e6, -⟩ | ⟨e6, c0, c1', k1', e7⟩⟩⟩
    · exact absurd (by omega) e3
    · obtain rfl : n = n_12 := by omega
      exact absurd (by omega) c4
    · omega
    · obtain rfl : n = n_12 := by omega
      rcases hdropFirst with ⟨x_3a, ex_3a, fx_3a, x_4a, ex_4a, fx_4a, B_6a, rfl, x_10a, ex_10a, fx_10a, B_12a, rfl, eZa⟩
      simp only [uA_u, uA_s] at eZa
      rcases e7 with ⟨n_1d, hn_1d, x_7d, ex_7d, fx_7d, g_8d, rfl, x_9d, ex_9d, fx_9d, ix_10d, u_10d, c1d, c2d, x_13d, ex_13d, fx_13d, x_14d, ex_14d, fx_14d, c3d, rfl, rfl, rfl, rfl⟩
      obtain rfl : n_1d = n := by omega
      obtain ⟨b, hb, hsh⟩ := c2d
      have zO : ∀ a, a ≠ x + 56 + 10 * n_1d → Z a = B a := fun a k => by rw [eZa, uA_n k]
      have zN : Z (x + 56 + 10 * n_1d) = upd (upd (B (x + 56 + 10 * n_1d)) 3 x_4a) 4 x_10a := by rw [eZa, uA_s]
      refine ⟨h.nd hV (fun a k => zO a (by omega)) (hM.cg (fun m hm => zO _ (by omega))) (hG.cg (fun m hm j hj => zO _ (by omega))) (fun m hm => ?_) (fun j hj => by rw [uA_n (by omega), uA_n (by omega)]), e1, e5, rfl⟩
      by_cases e : m = n_1d
      · subst e
        refine ⟨(h0 + 1) % 16, by omega, ?_, ?_, fun i p hi hp => ?_⟩
        · rw [zN, upd_n (by decide), upd_s]; omega
        · show _ = upd (A 8) m x_7d m
          rw [zN, upd_s, upd_s, ex_10a, ex_7d, b3]
        · have hi : (i : Int) < (upd (A 8) m x_7d m).toInt := hi
          rw [upd_s] at hi
          rw [zO _ (by omega)]
          show _ = u_10d (80 * m + 5 * i + p)
          rw [hsh, if_pos (by omega), show 80 * m + 5 * i + p + 5 = 80 * m + 5 * (i + 1) + p by omega, ← b4 (i + 1) p (by omega) hp]
          congr 1
          omega
      · exact (hN m hm).cg (zO _ (by omega)) (zO _ (by omega)) (upd_n e) (fun k k1 k2 => by
          show u_10d k = A 9 k
          rw [hsh, if_neg (by omega)]) (hV.1.2.1 m hm).2
  · have hn2 : n_12 < 2 := by omega
    rw [hS.1.1, (hS.2.1 _ hn2).1] at c4 htellFirst
    obtain ⟨h0, b1, b2, b3, b4⟩ := hN _ hn2
    have k3 := congrArg Int32.toInt b3
    have hI := hV.1.2.1 _ hn2
    rcases e2 with ⟨e3, -⟩ | ⟨e3, n, hn, ⟨e4, -⟩ | ⟨e4, e5, ⟨e6, rfl, k, hk, e7⟩ | ⟨e6, -⟩⟩⟩
    · exact absurd (by omega) e3
    · obtain rfl : n = n_12 := by omega
      exact absurd (by omega) c4
    · obtain rfl : n = n_12 := by omega
      rcases htellFirst with ⟨x_4a, ex_4a, fx_4a, x_5a, ex_5a, fx_5a, n_8a, hn_8a, rfl⟩
      refine ⟨h, e1, e5, ?_⟩
      rw [e7, (hS.2.1 _ hn2).2.2.2.1, show 80 * n + k = 80 * n + 5 * 0 + k by omega, ← b4 0 k (by omega) (by omega)]
      congr 1
      omega
    · omega
theorem sx_pollC {x : Nat} {G : Nat → Nat} {t0 t1 t2 : Int32} {B : AA} {R : RR} {A : AA} {pk cd p0 p1 : Int32} (h : SIM x t0 t1 t2 B R A pk) {En : String} (hc : X_X9_poll G B R x p0 p1 En) {A' : AA} {cdz pkz r' : Int32} (hd : D_X10_poll A cd pk p0 p1 A' cdz pkz r') : SIM x t0 t1 t2 B R A' pk ∧ pkz = pk ∧ ((En = IAE ∧ cdz = 1) ∨ (En = NSE ∧ cdz = 2)) := by
  have hh := h
  obtain ⟨hS, -, -, -, hN, -⟩ := hh
  obtain ⟨e1, e2⟩ := r_poll hd
  rcases hc with ⟨c1, rfl⟩ | ⟨c1, c2, rfl⟩ | ⟨c1, c2, c3, rfl⟩ | ⟨c1, c2, c3, n_12, hn_12, c4, rfl⟩
  all_goals first
    | (rcases e2 with ⟨e3, e4, rfl⟩ | ⟨e3, _⟩
       · exact ⟨h, e1, Or.inl ⟨rfl, e4⟩⟩
       · exfalso; omega)
    | (have hq : n_12 < 2 := by omega
       rw [hS.1.1, (hS.2.1 _ hq).1] at c4
       obtain ⟨_, _, _, k3, _⟩ := hN _ hq
       have k3 := congrArg Int32.toInt k3
       rcases e2 with ⟨e3, -⟩ | ⟨e3, n, hn, ⟨e4, e5, rfl⟩ | ⟨e4, e5, e6⟩⟩
       · exact absurd (by omega) e3
       · exact ⟨h, e1, Or.inr ⟨rfl, e5⟩⟩
       · obtain rfl : n = n_12 := by omega
         exfalso; omega)
