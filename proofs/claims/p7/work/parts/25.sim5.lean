/-- the packets in the fabric: where they lie -/
def DYN (x : Nat) (R : RR) (pm : Nat → Nat) (tk : Nat) : Prop := R (x + 1) 2 = x + 3 + 2 * tk ∧ (∀ i, i < 24 → R (x + 2) i = x + 3 + 2 * pm i) ∧ tk < 26 ∧ tk ≠ 1 ∧ (∀ i, i < 24 → pm i < 26 ∧ pm i ≠ 1 ∧ pm i ≠ tk) ∧ ∀ i j, i < 24 → j < 24 → pm i = pm j → i = j
def PKR (A : AA) (i : Nat) : Prop := (0 ≤ (A 43 i).toInt ∧ (A 43 i).toInt ≤ 63) ∧ (0 ≤ (A 42 i).toInt ∧ (A 42 i).toInt ≤ 6) ∧ ((A 42 i).toInt = 0 → 0 ≤ (A 45 i).toInt ∧ (A 45 i).toInt ≤ 3) ∧ ((A 42 i).toInt = 6 → 1 ≤ (A 45 i).toInt ∧ (A 45 i).toInt ≤ 4) ∧ ((A 42 i).toInt = 0 ∨ (A 42 i).toInt = 1 ∨ (A 42 i).toInt = 4 → 1 ≤ (A 44 i).toInt ∧ (A 44 i).toInt ≤ 4) ∧ ((A 42 i).toInt = 2 → 1 ≤ (A 44 i).toInt ∧ (A 44 i).toInt ≤ 12)
/-- a packet of the class and a row of the reference's -/
def PKT (b c : Nat → Int32) (A : AA) (i : Nat) : Prop := (b 0 = A 41 i ∧ b 1 = A 42 i ∧ b 2 = A 43 i ∧ b 3 = A 44 i ∧ b 4 = A 45 i ∧ b 5 = A 46 i ∧ b 6 = A 47 i) ∧ ((A 42 i).toInt = 0 ∨ (A 42 i).toInt = 1 ∨ (A 42 i).toInt = 4 → ∀ k : Nat, k < 4 → (k : Int) < (A 44 i).toInt → c k = A 48 (4 * i + k)) ∧ PKR A i
theorem PKT.cg {b c b' c' : Nat → Int32} {A A' : AA} {i i' : Nat} (h : PKT b c A i) (hb : b' = b) (hc : c' = c) (hj : ∀ j, 41 ≤ j → j ≤ 47 → A' j i' = A j i) (h48 : ∀ k, k < 4 → A' 48 (4 * i' + k) = A 48 (4 * i + k)) : PKT b' c' A' i' := by
  subst hb hc
  unfold PKT PKR at h ⊢
  rw [hj 41 (by omega) (by omega), hj 42 (by omega) (by omega), hj 43 (by omega) (by omega), hj 44 (by omega) (by omega), hj 45 (by omega) (by omega), hj 46 (by omega) (by omega), hj 47 (by omega) (by omega)]
  exact ⟨h.1, fun hk k h1 h2 => by rw [h48 k h1]; exact h.2.1 hk k h1 h2, h.2.2⟩
def FB (x : Nat) (pm : Nat → Nat) (B A : AA) (pk : Int32) : Prop := B (x + 1) 1 = pk ∧ ∀ i : Nat, (i : Int) < pk.toInt → PKT (B (x + 3 + 2 * pm i)) (B (x + 4 + 2 * pm i)) A i
theorem FB.cg {x : Nat} {pm : Nat → Nat} {B Z A A' : AA} {pk : Int32} (h : FB x pm B A pk) (hB : ∀ a, x + 1 ≤ a → a < x + 55 → Z a = B a) (hA : ∀ j, 41 ≤ j → j ≤ 48 → A' j = A j) (h24 : pk.toInt ≤ 24) (hp : ∀ i, i < 24 → pm i < 26) : FB x pm Z A' pk := by
  refine ⟨by rw [hB _ (by omega) (by omega)]; exact h.1, fun i hi => ?_⟩
  have := hp i (by omega)
  exact (h.2 i hi).cg (hB _ (by omega) (by omega)) (hB _ (by omega) (by omega)) (fun j h1 h2 => by rw [hA j h1 (by omega)]) (fun k _ => by rw [hA 48 (by omega) (by omega)])
def MEM (x : Nat) (B : AA) (m : Nat → Int32) : Prop := ∀ n, n < 2 → ∀ c, c < 32 → B (x + 57 + 10 * n) c = m (32 * n + c)
def REG (x : Nat) (B : AA) (a b c : Nat → Int32) : Prop := ∀ n, n < 2 → ∀ j, j < 6 → B (x + 60 + 10 * n + j) 0 = a (6 * n + j) ∧ B (x + 60 + 10 * n + j) 1 = b (6 * n + j) ∧ B (x + 60 + 10 * n + j) 2 = c (6 * n + j) ∧ 0 ≤ (c (6 * n + j)).toInt ∧ (c (6 * n + j)).toInt ≤ 7
/-- the class and the reference agree -/
def SIM (x : Nat) (t0 t1 t2 : Int32) (B : AA) (R : RR) (A : AA) (pk : Int32) : Prop :=
  SHX x R ∧ (∃ (pm : Nat → Nat) (tk : Nat), DYN x R pm tk ∧ FB x pm B A pk) ∧ MEM x B (A 4) ∧ REG x B (A 5) (A 6) (A 7) ∧ (∀ m, m < 2 → NS x m B (A 8) (A 9)) ∧ ∀ q, q < 4 → PQ x q t0 t1 t2 B A
/-- what is known of the reference's arrays -/
def RIV (A : AA) (pk : Int32) : Prop := (I2 (A 5) (A 6) ∧ I3 (A 8) ∧ I4 (A 10) (A 20) (A 29) (A 24) (A 11) (A 12) (A 13) ∧ I5 (A 32) (A 33) (A 35) ∧ I6 (A 22) (A 23) (A 24) (A 25) (A 26) ∧ I7 (A 41) (A 42) (A 44) (A 45) (A 46) ∧ I8 (A 20) (A 30) (A 37) (A 36)) ∧ 0 ≤ pk.toInt ∧ pk.toInt ≤ 24
theorem RIV.c4 {A : AA} {pk : Int32} (h : RIV A pk) {q : Nat} (hq : q < 4) : (0 ≤ (A 20 q).toInt ∧ (A 20 q).toInt ≤ 4) ∧ (0 ≤ (A 30 q).toInt ∧ (A 30 q).toInt ≤ 4) := by
  have k := h.1.2.2.2.2.2.2 q hq
  omega
/-- a change within a pair and a node's completions -/
theorem SIM.pr {x q n : Nat} {t0 t1 t2 : Int32} {B Z : AA} {R : RR} {A A' : AA} {pk : Int32} (h : SIM x t0 t1 t2 B R A pk) (hV : RIV A pk) (hq : q < 4) (hn : n < 2) (hZ : ∀ a, a ≠ x + 56 + 10 * n → a ≠ x + 59 + 10 * n → ¬ (x + 77 + 17 * q ≤ a ∧ a < x + 94 + 17 * q) → Z a = B a) (hN : ∀ m, m < 2 → NS x m Z (A' 8) (A' 9)) (hP : PQ x q t0 t1 t2 Z A') (hA : ∀ q', q' ≠ q → AGR q' A A') (hj : ∀ j, j ≠ 8 → j ≠ 9 → (j < 10 ∨ 39 < j) → A' j = A j) : SIM x t0 t1 t2 Z R A' pk := by
  obtain ⟨h1, ⟨pm, tk, h2, h3⟩, h4, h5, h6, h7⟩ := h
  refine ⟨h1, ⟨pm, tk, h2, h3.cg (fun a k1 k2 => hZ a (by omega) (by omega) (by omega)) (fun j k1 k2 => hj j (by omega) (by omega) (by omega)) hV.2.2 (fun i hi => (h2.2.2.2.2.1 i hi).1)⟩, fun m hm c hc => ?_, fun m hm j hj2 => ?_, hN, fun q' hq' => ?_⟩
  · rw [hZ _ (by omega) (by omega) (by omega), hj 4 (by omega) (by omega) (by omega)]
    exact h4 m hm c hc
  · rw [hZ _ (by omega) (by omega) (by omega), hj 5 (by omega) (by omega) (by omega), hj 6 (by omega) (by omega) (by omega), hj 7 (by omega) (by omega) (by omega)]
    exact h5 m hm j hj2
  · by_cases e : q' = q
    · subst e; exact hP
    · exact (h7 q' hq').cg (fun a k1 k2 => hZ a (by omega) (by omega) (by omega)) (hA q' e) (hV.c4 hq').1.2 (hV.c4 hq').2.2
/-- the same, the completions untouched -/
theorem SIM.pr0 {x q : Nat} {t0 t1 t2 : Int32} {B Z : AA} {R : RR} {A A' : AA} {pk : Int32} (h : SIM x t0 t1 t2 B R A pk) (hV : RIV A pk) (hq : q < 4) (hZ : ∀ a, ¬ (x + 77 + 17 * q ≤ a ∧ a < x + 94 + 17 * q) → Z a = B a) (hP : PQ x q t0 t1 t2 Z A') (hA : ∀ q', q' ≠ q → AGR q' A A') (hj : ∀ j, (j < 10 ∨ 39 < j) → A' j = A j) : SIM x t0 t1 t2 Z R A' pk := by
  refine h.pr hV hq (n := 0) (by omega) (fun a _ _ k => hZ a k) (fun m hm => ?_) hP hA (fun j _ _ k => hj j k)
  exact (h.2.2.2.2.1 m hm).cg (hZ _ (by omega)) (hZ _ (by omega)) (by rw [hj 8 (by omega)]) (fun k _ _ => by rw [hj 9 (by omega)]) (hV.1.2.1 m hm).2
theorem i_3t : (3 : Int32).toInt = 3 := by decide
theorem i_1t : (1 : Int32).toInt = 1 := by decide
theorem i_31t : (31 : Int32).toInt = 31 := by decide
/-- cell -/
theorem s_cell {x : Nat} {G : Nat → Nat} {t0 t1 t2 : Int32} {B : AA} {R : RR} {A : AA} {pk cd p0 p1 r : Int32} (h : SIM x t0 t1 t2 B R A pk) (hc : C_X9_cell G B R x p0 p1 r) {Z : AA} {cdz pkz r' : Int32} (hd : D_X10_cell A cd pk p0 p1 Z cdz pkz r') : r = r' ∧ Z = A ∧ pkz = pk := by
  obtain ⟨hS, -, hM, -, -, -⟩ := h
  have i3 := i_1t
  have i31 := i_31t
  rcases hc with ⟨c1, rfl⟩ | ⟨c1, n_6, hn_6, r_9, hat, rfl⟩
  · rcases hd with ⟨c1d, rfl, rfl, rfl, rfl⟩ | ⟨c1d, c2d, rfl, rfl, rfl, rfl⟩ | ⟨c1d, c2d, x_3d, ex_3d, fx_3d, x_4d, ex_4d, fx_4d, n_7d, hn_7d, rfl, rfl, rfl, rfl⟩
    · exact ⟨rfl, rfl, rfl⟩
    · exact ⟨rfl, rfl, rfl⟩
    · omega
  · rw [hS.1.1, (hS.2.1 n_6 (by omega)).1] at hat
    rcases hat with ⟨c1a, rfl⟩ | ⟨c1a, n_6a, hn_6a, rfl⟩
    · rcases hd with ⟨c1d, rfl, rfl, rfl, rfl⟩ | ⟨c1d, c2d, rfl, rfl, rfl, rfl⟩ | ⟨c1d, c2d, x_3d, ex_3d, fx_3d, x_4d, ex_4d, fx_4d, n_7d, hn_7d, rfl, rfl, rfl, rfl⟩
      · omega
      · exact ⟨rfl, rfl, rfl⟩
      · omega
    · rcases hd with ⟨c1d, rfl, rfl, rfl, rfl⟩ | ⟨c1d, c2d, rfl, rfl, rfl, rfl⟩ | ⟨c1d, c2d, x_3d, ex_3d, fx_3d, x_4d, ex_4d, fx_4d, n_7d, hn_7d, rfl, rfl, rfl, rfl⟩
      · omega
      · omega
      · refine ⟨?_, rfl, rfl⟩
        rw [(hS.2.1 n_6 (by omega)).2.1, hM n_6 (by omega) n_6a (by omega)]
        congr 1
        omega
theorem s_packets {x : Nat} {G : Nat → Nat} {t0 t1 t2 : Int32} {B : AA} {R : RR} {A : AA} {pk cd r : Int32} (h : SIM x t0 t1 t2 B R A pk) (hc : C_X9_packets G B R x r) {Z : AA} {cdz pkz r' : Int32} (hd : D_X10_packets A cd pk Z cdz pkz r') : r = r' ∧ Z = A ∧ pkz = pk := by
  obtain ⟨hS, ⟨pm, tk, hD, hF⟩, -⟩ := h
  rcases hc with rfl
  rcases hd with ⟨rfl, rfl, rfl, rfl⟩
  refine ⟨?_, rfl, rfl⟩
  rw [hS.1.2.2]; exact hF.1
theorem s_completions {x : Nat} {G : Nat → Nat} {t0 t1 t2 : Int32} {B : AA} {R : RR} {A : AA} {pk cd p0 r : Int32} (h : SIM x t0 t1 t2 B R A pk) (hc : C_X9_completions G B R x p0 r) {Z : AA} {cdz pkz r' : Int32} (hd : D_X10_completions A cd pk p0 Z cdz pkz r') : r = r' ∧ Z = A ∧ pkz = pk := by
  obtain ⟨hS, -, -, -, hN, -⟩ := h
  have i1 := i_1t
  rcases hc with ⟨c1, rfl⟩ | ⟨c1, n_6, hn_6, rfl⟩
  · rcases hd with ⟨c1d, rfl, rfl, rfl, rfl⟩ | ⟨c1d, n_4d, hn_4d, rfl, rfl, rfl, rfl⟩
    · exact ⟨rfl, rfl, rfl⟩
    · omega
  · rcases hd with ⟨c1d, rfl, rfl, rfl, rfl⟩ | ⟨c1d, n_4d, hn_4d, rfl, rfl, rfl, rfl⟩
    · omega
    · obtain rfl : n_6 = n_4d := by omega
      obtain ⟨_, _, _, k, _⟩ := hN n_6 (by omega)
      refine ⟨?_, rfl, rfl⟩
      rw [hS.1.1, (hS.2.1 n_6 (by omega)).1]; exact k
theorem e_has {G : Nat → Nat} {B : AA} {R : RR} {f : Nat} {p r : Int32} (h : C_X0_has G B R f p r) : (r.toInt = 0 ∧ ¬ (0 ≤ p.toInt ∧ p.toInt < (B f 1).toInt)) ∨ (r.toInt = 1 ∧ 0 ≤ p.toInt ∧ p.toInt < (B f 1).toInt) := by
  rcases h with ⟨c1, rfl⟩ | ⟨c1, c2, rfl⟩ | ⟨c1, c2, rfl⟩
  · exact Or.inl ⟨by decide, by omega⟩
  · exact Or.inl ⟨by decide, by omega⟩
  · exact Or.inr ⟨by decide, by omega, by omega⟩
theorem s_packet {x : Nat} {G : Nat → Nat} {t0 t1 t2 : Int32} {B : AA} {R : RR} {A : AA} {pk cd p0 p1 r : Int32} (h : SIM x t0 t1 t2 B R A pk) (hV : RIV A pk) (hc : C_X9_packet G B R x p0 p1 r) {Z : AA} {cdz pkz r' : Int32} (hd : D_X10_packet A cd pk p0 p1 Z cdz pkz r') : r = r' ∧ Z = A ∧ pkz = pk := by
  obtain ⟨hS, ⟨pm, tk, hD, hF⟩, -⟩ := h
  have hpk := hV.2
  have hf := congrArg Int32.toInt hF.1
  rcases hc with ⟨r_4, hhas, c1, rfl⟩ | ⟨r_4, hhas, c1, n_11, hn_11, r_14, htell, rfl⟩
  · rw [hS.1.2.2] at hhas
    have k := e_has hhas
    rcases hd with ⟨c1d, rfl, rfl, rfl, rfl⟩ | ⟨c1d, c2d, c3d, n_6d, hn_6d, rfl, rfl, rfl, rfl⟩ | ⟨c1d, c2d, c3d, n_9d, hn_9d, rfl, rfl, rfl, rfl⟩ | ⟨c1d, c2d, c3d, n_12d, hn_12d, rfl, rfl, rfl, rfl⟩ | ⟨c1d, c2d, c3d, n_15d, hn_15d, rfl, rfl, rfl, rfl⟩ | ⟨c1d, c2d, c3d, n_18d, hn_18d, rfl, rfl, rfl, rfl⟩ | ⟨c1d, c2d, c3d, n_21d, hn_21d, rfl, rfl, rfl, rfl⟩ | ⟨c1d, c2d, c3d, rfl, rfl, rfl, rfl⟩ | ⟨c1d, c2d, rfl, rfl, rfl, rfl⟩ <;> first | exact ⟨rfl, rfl, rfl⟩ | (exfalso; omega)
  · rw [hS.1.2.2] at hhas
    have k := e_has hhas
    rw [hS.1.2.2, hS.2.2.2.2.2.2.2.1, hD.2.1 n_11 (by omega)] at htell
    have hp := hF.2 n_11 (by omega)
    rcases htell with ⟨c1t, rfl⟩ | ⟨c1t, rfl⟩ | ⟨c1t, rfl⟩ | ⟨c1t, rfl⟩ | ⟨c1t, rfl⟩ | ⟨c1t, rfl⟩ | ⟨c1t, rfl⟩ <;> rcases hd with ⟨c1d, rfl, rfl, rfl, rfl⟩ | ⟨c1d, c2d, c3d, n_6d, hn_6d, rfl, rfl, rfl, rfl⟩ | ⟨c1d, c2d, c3d, n_9d, hn_9d, rfl, rfl, rfl, rfl⟩ | ⟨c1d, c2d, c3d, n_12d, hn_12d, rfl, rfl, rfl, rfl⟩ | ⟨c1d, c2d, c3d, n_15d, hn_15d, rfl, rfl, rfl, rfl⟩ | ⟨c1d, c2d, c3d, n_18d, hn_18d, rfl, rfl, rfl, rfl⟩ | ⟨c1d, c2d, c3d, n_21d, hn_21d, rfl, rfl, rfl, rfl⟩ | ⟨c1d, c2d, c3d, rfl, rfl, rfl, rfl⟩ | ⟨c1d, c2d, rfl, rfl, rfl, rfl⟩
    all_goals first
      | (exfalso; omega)
      | (refine ⟨?_, rfl, rfl⟩; first
          | rfl
          | (obtain rfl : n_11 = n_6d := by omega
             exact hp.1.1)
          | (obtain rfl : n_11 = n_9d := by omega
             exact hp.1.2.1)
          | (obtain rfl : n_11 = n_12d := by omega
             exact hp.1.2.2.1)
          | (obtain rfl : n_11 = n_15d := by omega
             exact hp.1.2.2.2.1)
          | (obtain rfl : n_11 = n_18d := by omega
             exact hp.1.2.2.2.2.1)
          | (obtain rfl : n_11 = n_21d := by omega
             exact hp.1.2.2.2.2.2.1))
