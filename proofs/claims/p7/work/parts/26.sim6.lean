/-- a change within the nodes -/
theorem SIM.nd {x : Nat} {t0 t1 t2 : Int32} {B Z : AA} {R : RR} {A A' : AA} {pk : Int32} (h : SIM x t0 t1 t2 B R A pk) (hV : RIV A pk) (hZ : ∀ a, ¬ (x + 56 ≤ a ∧ a < x + 76) → Z a = B a) (hM : MEM x Z (A' 4)) (hG : REG x Z (A' 5) (A' 6) (A' 7)) (hN : ∀ m, m < 2 → NS x m Z (A' 8) (A' 9)) (hj : ∀ j, 10 ≤ j → A' j = A j) : SIM x t0 t1 t2 Z R A' pk := by
  obtain ⟨h1, ⟨pm, tk, h2, h3⟩, h4, h5, h6, h7⟩ := h
  refine ⟨h1, ⟨pm, tk, h2, h3.cg (fun a k1 k2 => hZ a (by omega)) (fun j k1 k2 => hj j (by omega)) hV.2.2 (fun i hi => (h2.2.2.2.2.1 i hi).1)⟩, hM, hG, hN, fun q' hq' => ?_⟩
  exact (h7 q' hq').cg (fun a k1 k2 => hZ a (by omega)) (AGR.of (fun j k1 _ => hj j k1)) (hV.c4 hq').1.2 (hV.c4 hq').2.2
theorem MEM.cg {x : Nat} {B Z : AA} {m : Nat → Int32} (h : MEM x B m) (hZ : ∀ n, n < 2 → Z (x + 57 + 10 * n) = B (x + 57 + 10 * n)) : MEM x Z m := fun n hn c hc => by rw [hZ n hn]; exact h n hn c hc
theorem REG.cg {x : Nat} {B Z : AA} {a b c : Nat → Int32} (h : REG x B a b c) (hZ : ∀ n, n < 2 → ∀ j, j < 6 → Z (x + 60 + 10 * n + j) = B (x + 60 + 10 * n + j)) : REG x Z a b c := fun n hn j hj => by rw [hZ n hn j hj]; exact h n hn j hj
theorem i_5t : (5 : Int32).toInt = 5 := by decide
theorem i_7t : (7 : Int32).toInt = 7 := by decide
theorem i_32t : (32 : Int32).toInt = 32 := by decide
theorem i_63t : (63 : Int32).toInt = 63 := by decide
theorem s_region {x : Nat} {G : Nat → Nat} {t0 t1 t2 : Int32} {B : AA} {R : RR} {A : AA} {pk cd p0 p1 p2 p3 p4 : Int32} (h : SIM x t0 t1 t2 B R A pk) (hV : RIV A pk) {Z : AA} (hc : C_X9_region G B R x p0 p1 p2 p3 p4 Z) {A' : AA} {cdz pkz : Int32} (hd : D_X10_region A cd pk p0 p1 p2 p3 p4 A' cdz pkz) : SIM x t0 t1 t2 Z R A' pk ∧ pkz = pk ∧ cdz = 0 := by
  have hh := h
  obtain ⟨hS, -, hM, hG, hN, -⟩ := hh
  have i1 := i_1t
  have i5 := i_5t
  have i7 := i_7t
  have i32 := i_32t
  rcases hc with ⟨c1, c2, c3, c4, c5, c6, x_15, ex_15, fx_15, c7, n_23, hn_23, n_29, hn_29, U_33, hF, hbecome, rfl⟩
  have k1 := hS.2.1 n_23 (by omega)
  rw [hS.1.1, k1.1, k1.2.2.1, k1.2.2.2.2 n_29 (by omega)] at hbecome
  rcases hbecome with ⟨B_2b, rfl, B_4b, rfl, B_6b, rfl, rfl⟩
  rcases hd with ⟨c1d, rfl, rfl, rfl⟩ | ⟨c1d, c2d, rfl, rfl, rfl⟩ | ⟨c1d, c2d, c3d, rfl, rfl, rfl⟩ | ⟨c1d, c2d, c3d, c4d, rfl, rfl, rfl⟩ | ⟨c1d, c2d, c3d, c4d, c5d, x_10d, ex_10d, fx_10d, c6d, x_13d, ex_13d, fx_13d, x_14d, ex_14d, fx_14d, n_17d, hn_17d, g_16d, rfl, g_18d, rfl, g_19d, rfl, rfl, rfl, rfl⟩ | ⟨c1d, c2d, c3d, c4d, c5d, x_10d, ex_10d, fx_10d, c6d, rfl, rfl, rfl⟩ | ⟨c1d, c2d, c3d, c4d, c5d, rfl, rfl, rfl⟩
  · omega
  · omega
  · omega
  · omega
  · refine ⟨SIM.nd h hV (fun a k => ?_) (hM.cg (fun n hn => ?_)) (fun n hn j hj => ?_) (fun m hm => ?_) (fun j hj => ?_), rfl, rfl⟩
    · rw [uA_u, uA_u, uA_n (by omega)]
    · rw [uA_u, uA_u, uA_n (by omega)]
    · simp only [uA_u, uA_s]
      show _ = upd (A 5) n_17d p2 (6 * n + j) ∧ _ = upd (A 6) n_17d p3 (6 * n + j) ∧ _ = upd (A 7) n_17d p4 (6 * n + j) ∧ 0 ≤ (upd (A 7) n_17d p4 (6 * n + j)).toInt ∧ (upd (A 7) n_17d p4 (6 * n + j)).toInt ≤ 7
      by_cases e : n = n_23 ∧ j = n_29
      · obtain ⟨rfl, rfl⟩ := e
        obtain rfl : n_17d = 6 * n + j := by omega
        rw [uA_s]
        refine ⟨?_, ?_, ?_, ?_, ?_⟩
        · rw [upd_n (by decide), upd_n (by decide), upd_s, upd_s]
        · rw [upd_n (by decide), upd_s, upd_s]
        · rw [upd_s, upd_s]
        · rw [upd_s]; omega
        · rw [upd_s]; omega
      · rw [uA_n (by omega), upd_n (by omega), upd_n (by omega), upd_n (by omega)]
        exact hG n hn j hj
    · exact (hN m hm).cg (by rw [uA_u, uA_u, uA_n (by omega)]) (by rw [uA_u, uA_u, uA_n (by omega)]) rfl (fun _ _ _ => rfl) (hV.1.2.1 m hm).2
    · rw [uA_n (by omega), uA_n (by omega), uA_n (by omega)]
  · omega
  · omega
theorem sx_region {x : Nat} {G : Nat → Nat} {t0 t1 t2 : Int32} {B : AA} {R : RR} {A : AA} {pk cd p0 p1 p2 p3 p4 : Int32} (h : SIM x t0 t1 t2 B R A pk) {En : String} (hc : X_X9_region G B R x p0 p1 p2 p3 p4 En) {A' : AA} {cdz pkz : Int32} (hd : D_X10_region A cd pk p0 p1 p2 p3 p4 A' cdz pkz) : SIM x t0 t1 t2 B R A' pk ∧ pkz = pk ∧ cdz = 1 ∧ En = IAE := by
  have i1 := i_1t
  have i5 := i_5t
  have i7 := i_7t
  have i32 := i_32t
  have e : (cdz = 1 ∧ A' = A ∧ pkz = pk) ∨ (0 ≤ p0.toInt ∧ p0.toInt ≤ 1 ∧ 0 ≤ p1.toInt ∧ p1.toInt ≤ 5 ∧ 0 ≤ p2.toInt ∧ 0 ≤ p3.toInt ∧ 0 ≤ p4.toInt ∧ p4.toInt ≤ 7 ∧ p2.toInt + p3.toInt ≤ 32) := by
    rcases hd with ⟨c1d, rfl, rfl, rfl⟩ | ⟨c1d, c2d, rfl, rfl, rfl⟩ | ⟨c1d, c2d, c3d, rfl, rfl, rfl⟩ | ⟨c1d, c2d, c3d, c4d, rfl, rfl, rfl⟩ | ⟨c1d, c2d, c3d, c4d, c5d, x_10d, ex_10d, fx_10d, c6d, x_13d, ex_13d, fx_13d, x_14d, ex_14d, fx_14d, n_17d, hn_17d, g_16d, rfl, g_18d, rfl, g_19d, rfl, rfl, rfl, rfl⟩ | ⟨c1d, c2d, c3d, c4d, c5d, x_10d, ex_10d, fx_10d, c6d, rfl, rfl, rfl⟩ | ⟨c1d, c2d, c3d, c4d, c5d, rfl, rfl, rfl⟩
    all_goals first
      | exact Or.inl ⟨rfl, by simp only [uA_ii], rfl⟩
      | (right; omega)
  rcases e with ⟨e1, e2, e3⟩ | e
  · subst e1 e2 e3
    refine ⟨h, rfl, rfl, ?_⟩
    rcases hc with ⟨c1, rfl⟩ | ⟨c1, c2, rfl⟩ | ⟨c1, c2, c3, rfl⟩ | ⟨c1, c2, c3, c4, rfl⟩ | ⟨c1, c2, c3, c4, c5, rfl⟩ | ⟨c1, c2, c3, c4, c5, c6, rfl⟩ | ⟨c1, c2, c3, c4, c5, c6, x_15, ex_15, fx_15, c7, rfl⟩ <;> rfl
  · exfalso
    rcases hc with ⟨c1, rfl⟩ | ⟨c1, c2, rfl⟩ | ⟨c1, c2, c3, rfl⟩ | ⟨c1, c2, c3, c4, rfl⟩ | ⟨c1, c2, c3, c4, c5, rfl⟩ | ⟨c1, c2, c3, c4, c5, c6, rfl⟩ | ⟨c1, c2, c3, c4, c5, c6, x_15, ex_15, fx_15, c7, rfl⟩ <;> omega
theorem s_store {x : Nat} {G : Nat → Nat} {t0 t1 t2 : Int32} {B : AA} {R : RR} {A : AA} {pk cd p0 p1 p2 : Int32} (h : SIM x t0 t1 t2 B R A pk) (hV : RIV A pk) {Z : AA} (hc : C_X9_store G B R x p0 p1 p2 Z) {A' : AA} {cdz pkz : Int32} (hd : D_X10_store A cd pk p0 p1 p2 A' cdz pkz) : SIM x t0 t1 t2 Z R A' pk ∧ pkz = pk ∧ cdz = 0 := by
  have hh := h
  obtain ⟨hS, -, hM, hG, hN, -⟩ := hh
  have i1 := i_1t
  have i31 := i_31t
  rcases hc with ⟨c1, c2, n_10, hn_10, U_14, hF, hput, rfl⟩
  have k1 := hS.2.1 n_10 (by omega)
  rw [hS.1.1, k1.1] at hput
  rcases hput with ⟨c1b, rfl⟩ | ⟨c1b, n_6b, hn_6b, B_7b, rfl, rfl⟩
  · omega
  rw [k1.2.1]
  rcases hd with ⟨c1d, rfl, rfl, rfl⟩ | ⟨c1d, c2d, x_3d, ex_3d, fx_3d, x_4d, ex_4d, fx_4d, n_7d, hn_7d, g_6d, rfl, rfl, rfl, rfl⟩ | ⟨c1d, c2d, rfl, rfl, rfl⟩
  · omega
  · refine ⟨SIM.nd h hV (fun a k => uA_n (by omega)) (fun n hn c hc => ?_) (hG.cg (fun n hn j hj => uA_n (by omega))) (fun m hm => ?_) (fun j hj => uA_n (by omega)), rfl, rfl⟩
    · show _ = upd (A 4) n_7d p2 (32 * n + c)
      by_cases e : n = n_10
      · subst e
        rw [uA_s]
        by_cases e2 : c = n_6b
        · subst e2
          obtain rfl : n_7d = 32 * n + c := by omega
          rw [upd_s, upd_s]
        · rw [upd_n e2, upd_n (by omega)]; exact hM n hn c hc
      · rw [uA_n (by omega), upd_n (by omega)]; exact hM n hn c hc
    · exact (hN m hm).cg (uA_n (by omega)) (uA_n (by omega)) rfl (fun _ _ _ => rfl) (hV.1.2.1 m hm).2
  · omega
theorem sx_store {x : Nat} {G : Nat → Nat} {t0 t1 t2 : Int32} {B : AA} {R : RR} {A : AA} {pk cd p0 p1 p2 : Int32} (h : SIM x t0 t1 t2 B R A pk) {En : String} (hc : X_X9_store G B R x p0 p1 p2 En) {A' : AA} {cdz pkz : Int32} (hd : D_X10_store A cd pk p0 p1 p2 A' cdz pkz) : SIM x t0 t1 t2 B R A' pk ∧ pkz = pk ∧ cdz = 1 ∧ En = IAE := by
  have i1 := i_1t
  have i31 := i_31t
  have e : (cdz = 1 ∧ A' = A ∧ pkz = pk) ∨ (0 ≤ p0.toInt ∧ p0.toInt ≤ 1 ∧ 0 ≤ p1.toInt ∧ p1.toInt ≤ 31) := by
    rcases hd with ⟨c1d, rfl, rfl, rfl⟩ | ⟨c1d, c2d, x_3d, ex_3d, fx_3d, x_4d, ex_4d, fx_4d, n_7d, hn_7d, g_6d, rfl, rfl, rfl, rfl⟩ | ⟨c1d, c2d, rfl, rfl, rfl⟩
    all_goals first
      | exact Or.inl ⟨rfl, by simp only [uA_ii], rfl⟩
      | (right; omega)
  rcases e with ⟨e1, e2, e3⟩ | e
  · subst e1 e2 e3
    refine ⟨h, rfl, rfl, ?_⟩
    rcases hc with ⟨c1, rfl⟩ | ⟨c1, c2, rfl⟩ <;> rfl
  · exfalso
    rcases hc with ⟨c1, rfl⟩ | ⟨c1, c2, rfl⟩ <;> omega
/-- agreement of the arrays where one pair's scalars and rows were written -/
theorem agr1 {q q' : Nat} {A A' : AA} (hne : q' ≠ q) (h1 : ∀ j, 10 ≤ j → j ≤ 39 → A' j = A j ∨ (∀ k, k ≠ q → A' j k = A j k) ∧ ¬ (22 ≤ j ∧ j ≤ 29) ∧ ¬ (32 ≤ j ∧ j ≤ 35) ∧ j ≤ 37 ∨ (∀ k, ¬ (4 * q ≤ k ∧ k < 4 * q + 4) → A' j k = A j k) ∧ ((22 ≤ j ∧ j ≤ 29) ∨ (32 ≤ j ∧ j ≤ 35)) ∨ (∀ k, ¬ (2 * q ≤ k ∧ k < 2 * q + 2) → A' j k = A j k) ∧ (j = 38 ∨ j = 39)) : AGR q' A A' := by
  refine ⟨fun j a b => ?_, fun j hj i hi => ?_, fun j hj i hi => ?_⟩
  · rcases h1 j a (by omega) with e | ⟨e, _⟩ | ⟨_, e⟩ | ⟨_, e⟩
    · exact Or.inl (by rw [e])
    · exact Or.inl (e q' hne)
    · exact Or.inr e
    · omega
  · rcases h1 j (by omega) (by omega) with e | ⟨_, e⟩ | ⟨e, _⟩ | ⟨_, e⟩
    · rw [e]
    · omega
    · exact e _ (by omega)
    · omega
  · rcases h1 j (by omega) (by omega) with e | ⟨_, e⟩ | ⟨_, e⟩ | ⟨e, _⟩
    · rw [e]
    · omega
    · omega
    · exact e _ (by omega)
theorem uA_3 {B : AA} {a b c : Nat} {f g h : Nat → Int32} (h1 : a ≠ b) (h2 : a ≠ c) : uA (uA (uA B a f) b g) c h a = f := by rw [uA_n h2, uA_n h1, uA_s]
/-- what posting does to a queue: row, queue, the rest -/
theorem e_append {G : Nat → Nat} {B : AA} {R : RR} {K : Nat} {a b c : Int32} {Z : AA} {r : Nat} (h : C_X5_append G B R K a b c Z r) (hne : ∀ r, C_X5_at G B R K (B K 4) r → r ≠ K) : C_X5_at G B R K (B K 4) r ∧ ∃ s' c' : Int32, s' = B K 5 + 1 ∧ c' = B K 4 + 1 ∧ c'.toInt = (B K 4).toInt + 1 ∧ Z K = upd (upd (B K) 5 s') 4 c' ∧ Z r = upd (upd (upd (upd (upd (B r) 0 a) 1 (B K 5)) 2 b) 3 c) 9 0 ∧ ∀ z, z ≠ r → z ≠ K → Z z = B z := by
  rcases h with ⟨r_3, hat, B_5, rfl, B_9, rfl, B_11, rfl, B_14, rfl, B_16, rfl, x_19, ex_19, B_20, rfl, x_23, ex_23, fx_23, B_25, rfl, rfl, rfl⟩
  have k := hne _ hat
  refine ⟨hat, x_19, x_23, ex_19, ex_23, fx_23, ?_, ?_, fun z h1 h2 => ?_⟩
  · simp only [uA_s, uA_u, uA_n (Ne.symm k)]
  · simp only [uA_s, uA_u, uA_n k]
  · simp only [uA_n h1, uA_n h2]
theorem nmb {n x : Int32} (h : 1 ≤ n.toInt ∧ n.toInt ≤ 12) (e : x = ((n + 4) - 1) / 4) : x.toInt = (n.toInt + 3) / 4 := by
  have a := s_add (x := n) (y := 4) (by rw [i_4]; omega) (by rw [i_4]; omega)
  rw [i_4] at a
  have b := s_sub (x := n + 4) (y := 1) (by rw [i_1, a]; omega) (by rw [i_1, a]; omega)
  rw [i_1, a] at b
  have c := s_div (x := n + 4 - 1) 4 (by decide) (by decide) (by rw [b]; omega)
  rw [b] at c
  rw [e]
  refine Eq.trans c ?_
  show (n.toInt + 4 - 1) / 4 = _
  rw [show n.toInt + 4 - 1 = n.toInt + 3 by omega]
theorem inc_dec (a : Int32) : a + 1 - 1 = a := by
  apply i32_eq
  simp only [Int32.toInt_sub, Int32.toInt_add, Int.bmod]
  have := s_bd a
  have h1 : (1 : Int32).toInt = 1 := by decide
  rw [h1]
  omega
theorem s_post {x q : Nat} {G : Nat → Nat} {t0 t1 t2 : Int32} {B : AA} {R : RR} {A : AA} {pk cd : Int32} (h : SIM x t0 t1 t2 B R A pk) (hV : RIV A pk) (hq : q < 4) (hst : (A 10 q).toInt = 1) (h4 : (A 20 q).toInt ≠ 4) {p kd he n rg pl va r r' cdz pkz : Int32} {Z A' : AA} (hp : (q : Int) = p.toInt) (hn : 1 ≤ n.toInt ∧ n.toInt ≤ 12) (hk : 0 ≤ kd.toInt ∧ kd.toInt ≤ 3) (hva : kd.toInt ≠ 3 → va = 0) (hc : C_X7_post G B R (x + 77 + 17 * q) kd he n rg pl va Z r) (hd : D_X10_post A cd pk p kd he n rg pl va A' cdz pkz r') : SIM x t0 t1 t2 Z R A' pk ∧ cdz = cd ∧ pkz = pk ∧ r = r' := by
  have hh := h
  obtain ⟨hS, -, -, -, hN, hPQ⟩ := hh
  obtain ⟨hC, hPS, hRQ, hRV, hAD⟩ := hPQ q hq
  have hc4 := (hV.c4 hq).1
  have hrg := ((hV.1.2.2.1 q hq).1 hst).rng
  obtain ⟨p1, p2, p3, p4, p5, p6, p7, p8, p9, p10⟩ := hPS
  have p2s := p2 hst
  obtain ⟨hd4, g1, g2, g3, g4, g5⟩ := hRQ
  have g3i := congrArg Int32.toInt g3
  rcases hc with ⟨r_5, U_6, hF, happend, B_10, rfl, x_11, ex_11, B_13, rfl, B_15, rfl, B_17, rfl, B_19, rfl, x_24, ex_24, B_25, rfl, eZ, rfl⟩
  rw [(hS.2.2.2.1 q hq).2.2] at happend
  obtain ⟨m, hm⟩ : ∃ m : Nat, (m : Int) = (A 20 q).toInt := ⟨_, Int.toNat_of_nonneg hc4.1⟩
  have hat : ∀ r, C_X5_at G B R (x + 78 + 17 * q) (B (x + 78 + 17 * q) 4) r → r = x + 80 + 17 * q + (hd4 + m) % 4 := fun r hr => e_atQ hS hq hr g2 (by omega)
  obtain ⟨a1, s', c', a2, a3, a4, a5, a6, a7⟩ := e_append happend (fun r hr => by rw [hat r hr]; omega)
  have er := hat _ a1
  subst er
  rcases hd with ⟨n_1d, hn_1d, x_2d, ex_2d, fx_2d, x_8d, ex_8d, fx_8d, n_11d, hn_11d, g_10d, rfl, g_12d, rfl, g_13d, rfl, g_14d, rfl, g_15d, rfl, g_16d, rfl, g_18d, rfl, g_20d, rfl, r_23d, hnumbersOfd, c1d, c2d, x_24d, ex_24d, fx_24d, x_25d, ex_25d, fx_25d, g_26d, rfl, x_28d, ex_28d, fx_28d, g_29d, rfl, x_31d, ex_31d, g_32d, rfl, x_34d, ex_34d, rfl, rfl, rfl, rfl⟩
  obtain rfl : n_1d = q := by omega
  obtain rfl : n_11d = 4 * n_1d + m := by omega
  have e11 := nmb hn ex_11
  have k2 := c2d (4 * n_1d + m) (by omega)
  have enb : NB (upd (A 24) (4 * n_1d + m) n) (4 * n_1d + m) = (n.toInt + 3) / 4 := by unfold NB; rw [upd_s]
  rw [enb] at k2
  have nK : x + 80 + 17 * n_1d + (hd4 + m) % 4 ≠ x + 78 + 17 * n_1d := by omega
  have nH : x + 80 + 17 * n_1d + (hd4 + m) % 4 ≠ x + 77 + 17 * n_1d := by omega
  have zK : Z (x + 78 + 17 * n_1d) = U_6 (x + 78 + 17 * n_1d) := by rw [eZ]; simp only [uA_u]; rw [uA_n (by omega), uA_n (Ne.symm nK)]
  have zR : Z (x + 80 + 17 * n_1d + (hd4 + m) % 4) = upd (upd (upd (upd (upd (U_6 (x + 80 + 17 * n_1d + (hd4 + m) % 4)) 4 (B (x + 77 + 17 * n_1d) 7)) 5 x_11) 6 rg) 7 pl) 8 va := by rw [eZ]; simp only [uA_u, uA_s]; rw [uA_n nH, uA_s]
  have zH : Z (x + 77 + 17 * n_1d) = upd (B (x + 77 + 17 * n_1d)) 7 x_24 := by rw [eZ]; simp only [uA_u, uA_s, uA_n (Ne.symm nH)]; rw [a7 _ (Ne.symm nH) (by omega)]
  have zO : ∀ a, a ≠ x + 80 + 17 * n_1d + (hd4 + m) % 4 → a ≠ x + 78 + 17 * n_1d → a ≠ x + 77 + 17 * n_1d → Z a = B a := fun a k1 k2 k3 => by rw [eZ]; simp only [uA_u]; rw [uA_n k3, uA_n k1, a7 a k1 k2]
  clear eZ
  rw [a6] at zR
  rw [a5] at zK
  have hm3 : m < 4 := by omega
  refine ⟨h.pr0 hV hq (fun a k => zO a (by omega) (by omega) (by omega)) ⟨?_, ?_, ?_, ?_, ?_⟩ (fun q' hne => agr1 hne (fun j k1 k2 => ?_)) (fun j k => ?_), rfl, rfl, ?_⟩
  · refine hC.cg (fun j hj => ?_) (by rw [zO _ (by omega) (by omega) (by omega)]) ?_ (by rw [zO _ (by omega) (by omega) (by omega)])
    · rw [zH, upd_n (by omega)]
    · rw [zK, upd_n (by decide), upd_n (by decide)]
  · unfold PS
    rw [zO (x + 84 + 17 * n_1d) (by omega) (by omega) (by omega), zO (x + 85 + 17 * n_1d) (by omega) (by omega) (by omega), zH]
    refine ⟨p1, fun _ => ⟨?_, ?_, ?_, p2s.2.2.2⟩, ⟨?_, ?_, ?_⟩, fun k => ?_, p5, p6, p7, p8, p9, p10⟩
    · show _ = upd (A 11) n_1d x_25d n_1d
      rw [upd_s, upd_s]
      apply i32_eq
      rw [ex_24, aft, p2s.1]
      omega
    · rw [upd_n (by decide)]; exact p2s.2.1
    · rw [upd_n (by decide)]; exact p2s.2.2.1
    · rw [upd_n (by decide)]; exact p3.1
    · rw [upd_n (by decide)]; exact p3.2.1
    · rw [upd_n (by decide)]; exact p3.2.2
    · rw [upd_n (by decide)]; exact p4 k
  · refine ⟨hd4, g1, ?_, ?_, ?_, fun i hi => ?_⟩
    · rw [zK, upd_n (by decide), upd_n (by decide)]; exact g2
    · show _ = upd (A 20) n_1d x_28d n_1d
      rw [zK, upd_s, upd_s, a3, ex_28d, g3]
    · show _ = upd (A 21) n_1d x_31d n_1d
      rw [zK, upd_n (by decide), upd_s, upd_s, a2, ex_31d, g4]
    · have hi : (i : Int) < (upd (A 20) n_1d x_28d n_1d).toInt := hi
      rw [upd_s] at hi
      by_cases e : i = m
      · subst e
        rw [zR]
        refine ⟨?_, ?_, ?_, ?_, ?_, ?_, ?_, ?_, ?_, ?_, ?_⟩
        · show _ = upd (A 22) _ kd _
          simp [upd]
        · show _ = upd (A 28) _ (A 21 n_1d) _
          rw [upd_s, ← g4]; simp [upd]
        · show _ = upd (A 23) _ he _
          simp [upd]
        · show _ = upd (A 24) _ n _
          simp [upd]
        · show _ = upd (A 29) _ (A 11 n_1d) _
          rw [upd_s, ← p2s.1]; simp [upd]
        · show _ = NB (upd (A 24) _ n) _
          rw [enb, ← e11]; simp [upd]
        · show _ = upd (A 25) _ rg _
          simp [upd]
        · show _ = upd (A 26) _ pl _
          simp [upd]
        · show _ = upd (A 27) _ va _
          simp [upd]
        · show (upd (A 22) _ kd _).toInt ≠ 3 → upd (A 27) _ va _ = 0
          rw [upd_s, upd_s]; exact hva
        · show 0 ≤ (upd (A 22) _ kd _).toInt ∧ (upd (A 22) _ kd _).toInt ≤ 3
          rw [upd_s]; exact hk
      · refine (g5 i (by omega)).cg (zO _ (by omega) (by omega) (by omega)) (fun j k1 k2 => ?_)
        rcases (show j = 22 ∨ j = 23 ∨ j = 24 ∨ j = 25 ∨ j = 26 ∨ j = 27 ∨ j = 28 ∨ j = 29 by omega) with rfl | rfl | rfl | rfl | rfl | rfl | rfl | rfl <;> exact upd_n (by omega)
  · exact hRV.cg (zO _ (by omega) (by omega) (by omega)) (fun i _ => zO _ (by omega) (by omega) (by omega)) rfl rfl (fun j k1 k2 i hi => by
      rcases (show j = 32 ∨ j = 33 ∨ j = 34 ∨ j = 35 by omega) with rfl | rfl | rfl | rfl <;> rfl) (hV.c4 hq).2.2
  · exact hAD.cg (zO _ (by omega) (by omega) (by omega)) (zO _ (by omega) (by omega) (by omega)) rfl (fun _ _ => rfl) (fun _ _ => rfl)
  · by_cases b1 : j = 11
    · subst b1; exact Or.inr (Or.inl ⟨fun k hk => upd_n hk, by omega, by omega, by omega⟩)
    by_cases b2 : j = 20
    · subst b2; exact Or.inr (Or.inl ⟨fun k hk => upd_n hk, by omega, by omega, by omega⟩)
    by_cases b3 : j = 21
    · subst b3; exact Or.inr (Or.inl ⟨fun k hk => upd_n hk, by omega, by omega, by omega⟩)
    by_cases b4 : 22 ≤ j ∧ j ≤ 29
    · refine Or.inr (Or.inr (Or.inl ⟨fun k hk => ?_, Or.inl b4⟩))
      rcases (show j = 22 ∨ j = 23 ∨ j = 24 ∨ j = 25 ∨ j = 26 ∨ j = 27 ∨ j = 28 ∨ j = 29 by omega) with rfl | rfl | rfl | rfl | rfl | rfl | rfl | rfl <;> exact upd_n (by omega)
    · refine Or.inl ?_
      rw [uA_n (by omega), uA_n (by omega), uA_n (by omega), uA_n (by omega), uA_n (by omega), uA_n (by omega), uA_n (by omega), uA_n (by omega), uA_n b3, uA_n b2, uA_n b1]
  · rw [uA_n (by omega), uA_n (by omega), uA_n (by omega), uA_n (by omega), uA_n (by omega), uA_n (by omega), uA_n (by omega), uA_n (by omega), uA_n (by omega), uA_n (by omega), uA_n (by omega)]
  · rw [a6, ex_34d, ex_31d, inc_dec, ← g4]; simp [upd]
