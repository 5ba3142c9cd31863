/-- an ADD is kept -/
theorem SIM.kept {x q : Nat} {t0 t1 t2 : Int32} {B Z : AA} {R : RR} {A A' : AA} {pk : Int32} (h : SIM x t0 t1 t2 B R A pk) (hV : RW A pk) (hq : q < 4) (hZ : ∀ a, a ≠ x + 86 + 17 * q → a ≠ x + 87 + 17 * q → Z a = B a) (hA : ∀ j, ¬ (37 ≤ j ∧ j ≤ 39) → A' j = A j) (h37 : ∀ k, k ≠ q → A' 37 k = A 37 k) (h38 : ∀ j, j = 38 ∨ j = 39 → ∀ k, ¬ (2 * q ≤ k ∧ k < 2 * q + 2) → A' j k = A j k) (hAD : AD x q Z A') : SIM x t0 t1 t2 Z R A' pk ∧ RW A' pk := by
  have hh := h
  obtain ⟨-, -, -, -, hN, hPQ⟩ := hh
  obtain ⟨hC, hPS, hRQ, hRV, -⟩ := hPQ q hq
  have c4 := hV.2.1 q hq
  refine ⟨h.prw hV hq (n := 0) (by omega) (fun a k1 k2 k3 => hZ a (by omega) (by omega)) (fun m hm => (hN m hm).cg (hZ _ (by omega) (by omega)) (hZ _ (by omega) (by omega)) (by rw [hA 8 (by omega)]) (fun _ _ _ => by rw [hA 9 (by omega)]) (hV.1 m hm).2) ⟨?_, ?_, ?_, ?_, hAD⟩ (fun q' hne => ⟨fun j k1 k2 => ?_, fun j hj i hi => by rw [hA j (by omega)], fun j hj i hi => h38 j hj _ (by omega)⟩) (fun j k1 k2 k3 => hA j (by omega)), hV.cg (hA 8 (by omega)) (hA 20 (by omega)) (hA 30 (by omega))⟩
  · exact hC.cg (fun j _ => by rw [hZ _ (by omega) (by omega)]) (by rw [hZ _ (by omega) (by omega)]) (by rw [hZ _ (by omega) (by omega)]) (by rw [hZ _ (by omega) (by omega)])
  · exact hPS.cg (hZ _ (by omega) (by omega)) (hZ _ (by omega) (by omega)) (hZ _ (by omega) (by omega)) (fun j hj => by rw [hA j (by omega)])
  · exact hRQ.cg (hZ _ (by omega) (by omega)) (fun i _ => hZ _ (by omega) (by omega)) (by rw [hA 20 (by omega)]) (by rw [hA 21 (by omega)]) (fun j k1 k2 i hi => by rw [hA j (by omega)]) c4.1.2
  · exact hRV.cg (hZ _ (by omega) (by omega)) (fun i _ => hZ _ (by omega) (by omega)) (by rw [hA 30 (by omega)]) (by rw [hA 31 (by omega)]) (fun j k1 k2 i hi => by rw [hA j (by omega)]) c4.2.2
  · by_cases e : j = 37
    · subst e; exact Or.inl (h37 q' hne)
    · exact Or.inl (by rw [hA j (by omega)])
theorem cpy_1 {g : Nat → Int32} {n : Nat} {v : Int32} : upd g n v = cpy g n 1 (fun _ => v) := cpy1 rfl rfl
/-- an ADD that is expected -/
theorem s_freshAdd {x q tk : Nat} {G : Nat → Nat} {t0 t1 t2 : Int32} {B : AA} {R : RR} {A : AA} {pk cd : Int32} (h : SIM x t0 t1 t2 B R A pk) (hV : RW A pk) (hq : q < 4) (hst : (A 10 q).toInt = 1) {p : Int32} (hp : (q : Int) = p.toInt) (htk : R (x + 1) 2 = x + 3 + 2 * tk) (htk6 : tk < 26) (hT : TKP x tk B A) (h46 : 0 ≤ (A 46 24).toInt ∧ (A 46 24).toInt ≤ 31) (h37 : 0 ≤ (A 37 q).toInt ∧ (A 37 q).toInt ≤ 2) {U V Z : AA} {r : Int32} (hg : C_X8_growCell G B R (x + 85 + 17 * q) (x + 3 + 2 * tk) U r) (hr : C_X8_replyOne G U R (x + 85 + 17 * q) (B (x + 3 + 2 * tk) 2) r V) (hadv : C_X8_advance G V R (x + 85 + 17 * q) 1 Z) {A' : AA} {cdz pkz : Int32} (hd : D_X10_freshAdd A cd pk p A' cdz pkz) : SIM x t0 t1 t2 Z R A' pkz := by
  have hh := h
  obtain ⟨hS, -, hM, -, -, hPQ⟩ := hh
  obtain ⟨hC, hPS, -, -, hAD⟩ := hPQ q hq
  have p6 := hPS.2.2.2.2.2.1
  obtain ⟨⟨y0, y1, y2, y3, y4, y5, y6⟩, -, ⟨y7, -⟩⟩ := hT
  have hsh := hS.2.2.2.2.2.1 q hq
  have y5i := congrArg Int32.toInt y5
  have i1 := i_1t
  have i2 := i_2
  have i4 := i_4
  obtain ⟨c0, hc0⟩ : ∃ c0 : Nat, (c0 : Int) = (A 46 24).toInt := ⟨(A 46 24).toInt.toNat, by omega⟩
  rcases hg with ⟨r_5, hat, x_8, ex_8, U_11, hF, hput, B_17, rfl, B_22, rfl, B_28, rfl, B_31, rfl, eZ, rfl⟩
  rw [hsh.1] at hat hput
  have hMn := (hS.2.1 (q % 2) (by omega)).2.1
  have e5 := e_at hat hMn (k := c0) (by omega) (by omega)
  have eU := e_put hput hMn (k := c0) (by omega) (by omega)
  rw [hM (q % 2) (by omega) c0 (by omega)] at e5
  rw [hsh.2.2.2.1, hsh.2.2.2.2] at eZ
  rcases hd with ⟨n_1d, hn_1d, x_2d, ex_2d, fx_2d, x_3d, ex_3d, fx_3d, x_7d, ex_7d, fx_7d, n_10d, hn_10d, x_11d, ex_11d, fx_11d, x_12d, ex_12d, fx_12d, n_15d, hn_15d, n_18d, hn_18d, g_17d, rfl, g_20d, rfl, g_22d, rfl, g_23d, rfl, v_24d, c1d, g_34d, rfl, x_36d, ex_36d, g_37d, rfl, ur_38d, hreplyOldd, c2d, c3d, c4d, ur_39d, hacceptd, rfl, rfl, rfl⟩
  obtain rfl : n_1d = q := by omega
  obtain rfl : n_10d = 32 * (n_1d % 2) + c0 := by omega
  obtain rfl : n_15d = 2 * n_1d := by omega
  obtain rfl : n_18d = 2 * n_1d + 1 := by omega
  -- the cell
  have s1 := h.cells hV (nd := n_1d % 2) (f0 := c0) (w := 1) (by omega) (Or.inr (by omega)) (g := fun _ => x_8) (g' := fun _ => x_36d) (fun k _ => by
    show x_8 = x_36d
    rw [ex_8, ex_36d, e5, y6])
  rw [← cpy_1, ← cpy_1, ← eU] at s1
  -- the kept ones
  have hv24 : v_24d.toInt = if 2 ≤ (A 37 n_1d).toInt then 2 else (A 37 n_1d).toInt + 1 := by
    rcases c1d with ⟨a, b⟩ | ⟨a, x32, b1, b2, b3⟩
    · rw [if_pos a, b]; exact i_2
    · rw [if_neg a, b3, b2]
  obtain ⟨s2, v2⟩ := s1.kept (Z := U) (A' := uA (uA (uA (uA A 4 (upd (A 4) (32 * (n_1d % 2) + c0) x_36d)) 38 (upd (upd (A 38) (2 * n_1d + 1) (A 38 (2 * n_1d))) (2 * n_1d) (A 43 24))) 39 (upd (upd (A 39) (2 * n_1d + 1) (A 39 (2 * n_1d))) (2 * n_1d) (A 4 (32 * (n_1d % 2) + c0)))) 37 (upd (A 37) n_1d v_24d)) (hV.cg rfl rfl rfl) hq (fun a k1 k2 => by rw [eZ]; simp only [uA_n k1, uA_n k2]) (fun j hj => by rw [uA_n (by omega), uA_n (by omega), uA_n (by omega)]) (fun k hk => upd_n hk) (fun j hj k hk => by
    rcases hj with rfl | rfl
    · show upd (upd (A 38) _ _) _ _ k = _
      rw [upd_n (by omega), upd_n (by omega)]; rfl
    · show upd (upd (A 39) _ _) _ _ k = _
      rw [upd_n (by omega), upd_n (by omega)]; rfl) ⟨fun i hi hl => by
    have hl : (i : Int) < (upd (A 37) n_1d v_24d n_1d).toInt := hl
    rw [upd_s, hv24] at hl
    have n78 : x + 86 + 17 * n_1d ≠ x + 87 + 17 * n_1d := by omega
    have n87 : x + 87 + 17 * n_1d ≠ x + 86 + 17 * n_1d := by omega
    rw [eZ]
    simp only [uA_s, uA_u, uA_n n78, uA_n n87]
    show _ = upd (upd (A 38) _ _) _ _ _ ∧ _ = upd (upd (A 39) _ _) _ _ _
    rcases (show i = 0 ∨ i = 1 by omega) with rfl | rfl
    · refine ⟨?_, ?_⟩
      · rw [upd_s, show 2 * n_1d + 0 = 2 * n_1d from rfl, upd_s]; exact y2
      · rw [upd_s, show 2 * n_1d + 0 = 2 * n_1d from rfl, upd_s]; exact e5
    · have k := hAD.1 0 (by omega) (by revert hl; split <;> omega)
      rw [Nat.add_zero] at k
      refine ⟨?_, ?_⟩
      · rw [upd_n (show (1 : Nat) ≠ 0 by decide), upd_s, upd_n (show 2 * n_1d + 1 ≠ 2 * n_1d by omega), upd_s]; exact k.1
      · rw [upd_n (show (1 : Nat) ≠ 0 by decide), upd_s, upd_n (show 2 * n_1d + 1 ≠ 2 * n_1d by omega), upd_s]; exact k.2, fun i hi hl => by
    have hl : (upd (A 37) n_1d v_24d n_1d).toInt ≤ (i : Int) := hl
    rw [upd_s, hv24] at hl
    have n78 : x + 86 + 17 * n_1d ≠ x + 87 + 17 * n_1d := by omega
    have n87 : x + 87 + 17 * n_1d ≠ x + 86 + 17 * n_1d := by omega
    rw [eZ]
    simp only [uA_s, uA_u, uA_n n78, uA_n n87]
    obtain rfl : i = 1 := by revert hl; split <;> omega
    have k := hAD.2 0 (by omega) (by revert hl; split <;> omega)
    rw [upd_n (by decide), upd_s]
    exact k⟩
  -- the reply
  have hE := r_replyOld hreplyOldd hV.2.2
  obtain ⟨n, hn, h24⟩ := s2.np v2
  have hCC := (s2.2.2.2.2.2 n_1d hq).1
  have eto : U (x + 85 + 17 * n_1d) 0 = peerT p := i32_eq (by rw [hCC.2.2.2.2.1, peer_e hq hp])
  have hEC := e_replyOne s2.1 hq hn h24 hr
  rw [eto, y2, e5] at hEC
  obtain ⟨m1, m2, -, -⟩ := s2.emit v2 (fun j a b => by
    rcases (show j = 41 ∨ j = 42 ∨ j = 43 ∨ j = 44 ∨ j = 45 ∨ j = 46 ∨ j = 47 ∨ j = 48 by omega) with rfl | rfl | rfl | rfl | rfl | rfl | rfl | rfl <;> rfl) hEC hE ⟨y7, by omega, fun e => by omega, fun e => by omega, fun _ => by omega, fun e => by omega⟩
  -- the expected number
  obtain ⟨v, ev, e4⟩ := r_accept hacceptd hp (by exact p6) (by decide)
  obtain ⟨f1, -, -⟩ := m1.adv m2 hq (by rw [mixF_o (by omega)]; exact hst) hadv (v := v) (by rw [mixF_o (by omega)]; exact ev)
  have fin : ∀ {X Y : AA} {w : Int32}, X = Y → SIM x t0 t1 t2 Z R X w → SIM x t0 t1 t2 Z R Y w := fun e k => e ▸ k
  refine fin ?_ f1
  have e14 := congrFun e4 14
  have e19 := congrFun e4 19
  funext j
  by_cases k19 : j = 19
  · subst k19
    rw [uA_s]
    exact (Eq.trans e19 rfl).symm
  rw [uA_n k19]
  by_cases k14 : j = 14
  · subst k14
    rw [uA_s]
    exact (Eq.trans e14 rfl).symm
  rw [uA_n k14]
  by_cases k1 : 41 ≤ j ∧ j ≤ 48
  · rw [mixF_i k1]
    rcases (show j = 41 ∨ j = 42 ∨ j = 43 ∨ j = 44 ∨ j = 45 ∨ j = 46 ∨ j = 47 ∨ j = 48 by omega) with rfl | rfl | rfl | rfl | rfl | rfl | rfl | rfl <;> rfl
  rw [mixF_o k1]
  by_cases k37 : j = 37
  · subst k37; rfl
  by_cases k39 : j = 39
  · subst k39; rfl
  by_cases k38 : j = 38
  · subst k38; rfl
  by_cases k4 : j = 4
  · subst k4; rfl
  rw [uA_n k37, uA_n k39, uA_n k38, uA_n k4, uA_n (by omega), uA_n (by omega), uA_n (by omega), uA_n (by omega), uA_n (by omega), uA_n (by omega), uA_n (by omega), uA_n (by omega), uA_n k39, uA_n k38, uA_n k37, uA_n k19, uA_n k14, uA_n k4]
