def TIM (t r c : Int32) : Prop := (r.toInt = 0 → 0 ≤ c.toInt ∧ c.toInt < t.toInt) ∧ (r.toInt = 1 → 0 ≤ c.toInt ∧ c.toInt < 3)
def B01 (b : Int32) : Prop := b = 0 ∨ b = 1
/-- a pair's state, numbers, clock and marks -/
def PS (x q : Nat) (t0 : Int32) (B A : AA) : Prop :=
  B (x + 84 + 17 * q) 2 = A 10 q ∧
  ((A 10 q).toInt = 1 → B (x + 77 + 17 * q) 7 = A 11 q ∧ B (x + 77 + 17 * q) 8 = A 12 q ∧ B (x + 77 + 17 * q) 9 = A 13 q ∧ B (x + 85 + 17 * q) 4 = A 14 q) ∧
  (B (x + 77 + 17 * q) 10 = A 15 q ∧ B (x + 77 + 17 * q) 11 = A 16 q ∧ B (x + 77 + 17 * q) 12 = A 17 q) ∧
  ((A 10 q).toInt ≠ 2 → B (x + 77 + 17 * q) 13 = A 18 q ∧ TIM t0 (A 18 q) (A 15 q)) ∧
  (B (x + 85 + 17 * q) 6 = A 19 q ∧ B (x + 85 + 17 * q) 5 = A 36 q) ∧
  (0 ≤ (A 14 q).toInt ∧ (A 14 q).toInt ≤ 63) ∧ (0 ≤ (A 10 q).toInt ∧ (A 10 q).toInt ≤ 2) ∧ B01 (A 18 q) ∧ B01 (A 19 q) ∧ B01 (A 36 q)
def AD (x q : Nat) (B A : AA) : Prop := (∀ i : Nat, i < 2 → (i : Int) < (A 37 q).toInt → B (x + 86 + 17 * q) i = A 38 (2 * q + i) ∧ B (x + 87 + 17 * q) i = A 39 (2 * q + i)) ∧ ∀ i : Nat, i < 2 → (A 37 q).toInt ≤ (i : Int) → B (x + 86 + 17 * q) i = -1
/-- what stays as it was made -/
def CST (x q : Nat) (t0 t1 t2 : Int32) (B : AA) : Prop := (B (x + 77 + 17 * q) 0).toInt = (q : Int) + 1 - 2 * ((q % 2 : Nat) : Int) ∧ B (x + 77 + 17 * q) 3 = t0 ∧ B (x + 77 + 17 * q) 4 = t1 ∧ B (x + 77 + 17 * q) 5 = t2 ∧ (B (x + 85 + 17 * q) 0).toInt = (q : Int) + 1 - 2 * ((q % 2 : Nat) : Int) ∧ (B (x + 78 + 17 * q) 0).toInt = q ∧ (B (x + 88 + 17 * q) 0).toInt = q
def PQ (x q : Nat) (t0 t1 t2 : Int32) (B A : AA) : Prop := CST x q t0 t1 t2 B ∧ PS x q t0 B A ∧ RQ x q B A ∧ RV x q B A ∧ AD x q B A
/-- the reference's arrays agree at a pair -/
def AGR (q : Nat) (A A' : AA) : Prop := (∀ j, 10 ≤ j → j ≤ 37 → A' j q = A j q ∨ (22 ≤ j ∧ j ≤ 29) ∨ (32 ≤ j ∧ j ≤ 35)) ∧ (∀ j, (22 ≤ j ∧ j ≤ 29) ∨ (32 ≤ j ∧ j ≤ 35) → ∀ i, i < 4 → A' j (4 * q + i) = A j (4 * q + i)) ∧ ∀ j, j = 38 ∨ j = 39 → ∀ i, i < 2 → A' j (2 * q + i) = A j (2 * q + i)
theorem AGR.s {q : Nat} {A A' : AA} (h : AGR q A A') (j : Nat) (h1 : 10 ≤ j) (h2 : j ≤ 37) (h3 : ¬ (22 ≤ j ∧ j ≤ 29)) (h4 : ¬ (32 ≤ j ∧ j ≤ 35)) : A' j q = A j q := (h.1 j h1 h2).resolve_right (fun e => e.elim h3 h4)
theorem AGR.tr {q : Nat} {A A' A2 : AA} (h : AGR q A A') (g : AGR q A' A2) : AGR q A A2 := ⟨fun j h1 h2 => by
  rcases h.1 j h1 h2 with a | a
  · rcases g.1 j h1 h2 with b | b
    · exact Or.inl (b.trans a)
    · exact Or.inr b
  · exact Or.inr a, fun j hj i hi => (g.2.1 j hj i hi).trans (h.2.1 j hj i hi), fun j hj i hi => (g.2.2 j hj i hi).trans (h.2.2 j hj i hi)⟩
theorem AGR.of {q : Nat} {A A' : AA} (h : ∀ j, 10 ≤ j → j ≤ 39 → A' j = A j) : AGR q A A' := ⟨fun j h1 h2 => Or.inl (by rw [h j h1 (by omega)]), fun j hj i _ => by rw [h j (by omega) (by omega)], fun j hj i _ => by rw [h j (by omega) (by omega)]⟩
theorem PS.cg {x q : Nat} {t0 : Int32} {B Z A A' : AA} (h : PS x q t0 B A) (h1 : Z (x + 84 + 17 * q) = B (x + 84 + 17 * q)) (h2 : Z (x + 77 + 17 * q) = B (x + 77 + 17 * q)) (h3 : Z (x + 85 + 17 * q) = B (x + 85 + 17 * q)) (ha : ∀ j, (10 ≤ j ∧ j ≤ 19) ∨ j = 36 → A' j q = A j q) : PS x q t0 Z A' := by
  unfold PS at h ⊢
  rw [h1, h2, h3, ha 10 (by omega), ha 11 (by omega), ha 12 (by omega), ha 13 (by omega), ha 14 (by omega), ha 15 (by omega), ha 16 (by omega), ha 17 (by omega), ha 18 (by omega), ha 19 (by omega), ha 36 (by omega)]
  exact h
theorem AD.cg {x q : Nat} {B Z A A' : AA} (h : AD x q B A) (h1 : Z (x + 86 + 17 * q) = B (x + 86 + 17 * q)) (h2 : Z (x + 87 + 17 * q) = B (x + 87 + 17 * q)) (h37 : A' 37 q = A 37 q) (h38 : ∀ i, i < 2 → A' 38 (2 * q + i) = A 38 (2 * q + i)) (h39 : ∀ i, i < 2 → A' 39 (2 * q + i) = A 39 (2 * q + i)) : AD x q Z A' := by
  refine ⟨fun i hi hl => ?_, fun i hi hl => ?_⟩
  · rw [h37] at hl
    rw [h1, h2, h38 i hi, h39 i hi]
    exact h.1 i hi hl
  · rw [h37] at hl
    rw [h1]
    exact h.2 i hi hl
theorem CST.cg {x q : Nat} {t0 t1 t2 : Int32} {B Z : AA} (h : CST x q t0 t1 t2 B) (h1 : ∀ j, j = 0 ∨ j = 3 ∨ j = 4 ∨ j = 5 → Z (x + 77 + 17 * q) j = B (x + 77 + 17 * q) j) (h2 : Z (x + 85 + 17 * q) 0 = B (x + 85 + 17 * q) 0) (h3 : Z (x + 78 + 17 * q) 0 = B (x + 78 + 17 * q) 0) (h4 : Z (x + 88 + 17 * q) 0 = B (x + 88 + 17 * q) 0) : CST x q t0 t1 t2 Z := by
  unfold CST at h ⊢
  rw [h1 0 (by omega), h1 3 (by omega), h1 4 (by omega), h1 5 (by omega), h2, h3, h4]
  exact h
theorem PQ.cg {x q : Nat} {t0 t1 t2 : Int32} {B Z A A' : AA} (h : PQ x q t0 t1 t2 B A) (hB : ∀ a, x + 77 + 17 * q ≤ a → a < x + 94 + 17 * q → Z a = B a) (hA : AGR q A A') (h20 : (A 20 q).toInt ≤ 4) (h30 : (A 30 q).toInt ≤ 4) : PQ x q t0 t1 t2 Z A' := by
  have s := fun j a b c d => hA.s j a b c d
  refine ⟨h.1.cg (fun j _ => by rw [hB _ (by omega) (by omega)]) (by rw [hB _ (by omega) (by omega)]) (by rw [hB _ (by omega) (by omega)]) (by rw [hB _ (by omega) (by omega)]), h.2.1.cg (hB _ (by omega) (by omega)) (hB _ (by omega) (by omega)) (hB _ (by omega) (by omega)) (fun j hj => s j (by omega) (by omega) (by omega) (by omega)), h.2.2.1.cg (hB _ (by omega) (by omega)) (fun i _ => hB _ (by omega) (by omega)) (s 20 (by omega) (by omega) (by omega) (by omega)) (s 21 (by omega) (by omega) (by omega) (by omega)) (fun j a b i hi => hA.2.1 j (by omega) i hi) h20, h.2.2.2.1.cg (hB _ (by omega) (by omega)) (fun i _ => hB _ (by omega) (by omega)) (s 30 (by omega) (by omega) (by omega) (by omega)) (s 31 (by omega) (by omega) (by omega) (by omega)) (fun j a b i hi => hA.2.1 j (by omega) i hi) h30, h.2.2.2.2.cg (hB _ (by omega) (by omega)) (hB _ (by omega) (by omega)) (s 37 (by omega) (by omega) (by omega) (by omega)) (fun i hi => hA.2.2 38 (by omega) i hi) (fun i hi => hA.2.2 39 (by omega) i hi)⟩
/-- a pair fails -/
theorem s_fail {x q : Nat} {G : Nat → Nat} {B : AA} {R : RR} {A : AA} {t0 t1 t2 : Int32} (hS : SHX x R) (hq : q < 4) (hns : ∀ m, m < 2 → NS x m B (A 8) (A 9)) (hI : I3 (A 8)) (hP : PQ x q t0 t1 t2 B A) (h8 : (0 ≤ (A 20 q).toInt ∧ (A 20 q).toInt ≤ 4) ∧ (0 ≤ (A 30 q).toInt ∧ (A 30 q).toInt ≤ 4)) {p c1 c2 st rs cd pk cdz pkz : Int32} {Z A' : AA} (hp : (q : Int) = p.toInt) (e1 : c1 = if 0 < st.toInt then st else 5) (e2 : c2 = if 0 < rs.toInt then rs else 5) (hc : C_X3_fail G B R (x + 84 + 17 * q) c1 c2 Z) (hd : D_X10_failPair A cd pk p st rs A' cdz pkz) : cdz = cd ∧ pkz = pk ∧ (∀ m, m < 2 → NS x m Z (A' 8) (A' 9)) ∧ I3 (A' 8) ∧ PQ x q t0 t1 t2 Z A' ∧ (∀ a, a ≠ x + 56 + 10 * (q % 2) → a ≠ x + 59 + 10 * (q % 2) → ¬ (x + 77 + 17 * q ≤ a ∧ a < x + 94 + 17 * q) → Z a = B a) ∧ (∀ q', q' ≠ q → AGR q' A A') ∧ (∀ j, j ≠ 8 → j ≠ 9 → j ≠ 10 → j ≠ 18 → j ≠ 20 → j ≠ 30 → j ≠ 36 → A' j = A j) := by
  obtain ⟨hC, hPS, hRQ, hRV, hAD⟩ := hP
  have hsh := hS.2.2.1 q hq
  rcases hd with ⟨n_1d, hn_1d, g_3d, rfl, ix_4d, u_4d, c1d, c2d, c3d, c4d, ix_11d, u_11d, c5d, c6d, c7d, c8d, g_17d, rfl, g_18d, rfl, g_19d, rfl, g_20d, rfl, rfl, rfl, rfl⟩
  obtain rfl : n_1d = q := by omega
  rcases hc with ⟨B_2, rfl, U_9, hF, hcompleteAll, U_14, hF_1, hcompleteAll_1, rfl⟩
  obtain ⟨b1, hb1, hF1⟩ := c3d
  obtain ⟨b2, hb2, hF2⟩ := c7d
  have hsr := hS.2.2.2.1 n_1d hq
  have hss := hS.2.2.2.2.2.1 n_1d hq
  rw [hsh.2.1, hsr.2.2] at hcompleteAll
  rw [hsh.2.2] at hcompleteAll_1
  have ep : B (x + 78 + 17 * n_1d) 0 = p := i32_eq (by rw [hC.2.2.2.2.2.1]; exact hp)
  have ep2 : B (x + 88 + 17 * n_1d) 0 = p := i32_eq (by rw [hC.2.2.2.2.2.2]; exact hp)
  -- the requests
  obtain ⟨h, T⟩ := s_allQ (B := uA B (x + 84 + 17 * n_1d) (upd (B (x + 84 + 17 * n_1d)) 2 2)) (A := uA A 10 (upd (A 10) n_1d 2)) (b := b1) hS hq (fun m hm => (hns m hm).cg (uA_n (by omega)) (uA_n (by omega)) rfl (fun _ _ _ => rfl) (hI m hm).2) hI hp (by rw [uA_n (by omega)]; exact ep) (hRQ.cg (uA_n (by omega)) (fun i _ => uA_n (by omega)) rfl rfl (fun j h1 h2 i hi => by rw [uA_n (by omega)]) h8.1.2) h8.1 e1 hcompleteAll hF1 (by show (b1 : Int) = (A 20 n_1d).toInt; omega)
  obtain ⟨s1, s2, s3, s4, s5, s6, s7⟩ := T
  have f9 : ∀ a, a ≠ x + 56 + 10 * (n_1d % 2) → a ≠ x + 59 + 10 * (n_1d % 2) → a ≠ x + 78 + 17 * n_1d → a ≠ x + 84 + 17 * n_1d → U_9 a = B a := fun a k1 k2 k3 k4 => by rw [s3 a k1 k2 k3, uA_n k4]
  have eP : U_9 (x + 84 + 17 * n_1d) = upd (B (x + 84 + 17 * n_1d)) 2 2 := by rw [s3 _ (by omega) (by omega) (by omega), uA_s]
  have eK : ∀ j, j ≠ 3 → j ≠ 4 → U_9 (x + 78 + 17 * n_1d) j = B (x + 78 + 17 * n_1d) j := fun j k1 k2 => by rw [s7 j k1 k2, uA_n (by omega)]
  have eK4 : (U_9 (x + 78 + 17 * n_1d) 4).toInt = 0 := by
    have k := hRQ
    obtain ⟨_, _, _, k3, _⟩ := k
    rw [uA_n (by omega), k3] at s6
    omega
  have key : ∀ (sc : Int32) (W : AA), (sc = if (A 36 n_1d).toInt ≠ 0 ∧ 0 < rs.toInt then rs else 5) → C_X5_completeAll G U_9 R (x + 88 + 17 * n_1d) sc W → ∀ Z, Z = uA W (x + 85 + 17 * n_1d) (upd (W (x + 85 + 17 * n_1d)) 5 0) → (∀ m, m < 2 → NS x m Z u_11d.1 u_11d.2) ∧ I3 u_11d.1 ∧ PQ x n_1d t0 t1 t2 Z (uA (uA (uA (uA (uA (uA (uA A 8 u_11d.1) 9 u_11d.2) 10 (upd (A 10) n_1d 2)) 18 (upd (A 18) n_1d 0)) 20 (upd (A 20) n_1d 0)) 30 (upd (A 30) n_1d 0)) 36 (upd (A 36) n_1d 0)) ∧ (∀ a, a ≠ x + 56 + 10 * (n_1d % 2) → a ≠ x + 59 + 10 * (n_1d % 2) → ¬ (x + 77 + 17 * n_1d ≤ a ∧ a < x + 94 + 17 * n_1d) → Z a = B a) := by
    intro sc W hsc hW Z hZ
    obtain ⟨h2, T2⟩ := s_allV (B := U_9) (A := uA (uA (uA A 10 (upd (A 10) n_1d 2)) 8 u_4d.1) 9 u_4d.2) (b := b2) hS hq s1 s2 hp (by rw [f9 _ (by omega) (by omega) (by omega) (by omega)]; exact ep2) (hRV.cg (f9 _ (by omega) (by omega) (by omega) (by omega)) (fun i _ => f9 _ (by omega) (by omega) (by omega) (by omega)) rfl rfl (fun j h1 h2 i hi => by rw [uA_n (by omega), uA_n (by omega), uA_n (by omega)]) h8.2.2) h8.2 hsc hW hF2 (by show (b2 : Int) = (A 30 n_1d).toInt; omega)
    obtain ⟨r1, r2, r3, r4, r5, r6, r7⟩ := T2
    have g9 : ∀ a, a ≠ x + 56 + 10 * (n_1d % 2) → a ≠ x + 59 + 10 * (n_1d % 2) → a ≠ x + 78 + 17 * n_1d → a ≠ x + 84 + 17 * n_1d → a ≠ x + 88 + 17 * n_1d → a ≠ x + 85 + 17 * n_1d → Z a = B a := fun a k1 k2 k3 k4 k5 k6 => by rw [hZ, uA_n k6, r3 a k1 k2 k5, f9 a k1 k2 k3 k4]
    have zP : Z (x + 84 + 17 * n_1d) = upd (B (x + 84 + 17 * n_1d)) 2 2 := by rw [hZ, uA_n (by omega), r3 _ (by omega) (by omega) (by omega), eP]
    have zK : Z (x + 78 + 17 * n_1d) = U_9 (x + 78 + 17 * n_1d) := by rw [hZ, uA_n (by omega), r3 _ (by omega) (by omega) (by omega)]
    have zS : Z (x + 85 + 17 * n_1d) = upd (B (x + 85 + 17 * n_1d)) 5 0 := by rw [hZ, uA_s, r3 _ (by omega) (by omega) (by omega), f9 _ (by omega) (by omega) (by omega) (by omega)]
    have zV : Z (x + 88 + 17 * n_1d) = W (x + 88 + 17 * n_1d) := by rw [hZ, uA_n (by omega)]
    have zV4 : (Z (x + 88 + 17 * n_1d) 4).toInt = 0 := by
      have k := hRV
      obtain ⟨_, _, _, k3, _⟩ := k
      rw [zV, r6, f9 _ (by omega) (by omega) (by omega) (by omega), k3]
      omega
    have zVj : ∀ j, j ≠ 3 → j ≠ 4 → Z (x + 88 + 17 * n_1d) j = B (x + 88 + 17 * n_1d) j := fun j k1 k2 => by rw [zV, r7 j k1 k2, f9 _ (by omega) (by omega) (by omega) (by omega)]
    refine ⟨fun m hm => (r1 m hm).cg (by rw [hZ]; exact uA_n (by omega)) (by rw [hZ]; exact uA_n (by omega)) rfl (fun _ _ _ => rfl) (r2 m hm).2, r2, ⟨?_, ?_, ?_, ?_, ?_⟩, fun a k1 k2 k3 => g9 a k1 k2 (by omega) (by omega) (by omega) (by omega)⟩
    · exact hC.cg (fun j _ => by rw [g9 _ (by omega) (by omega) (by omega) (by omega) (by omega) (by omega)]) (by rw [zS, upd_n (by decide)]) (by rw [zK, eK 0 (by decide) (by decide)]) (zVj 0 (by decide) (by decide))
    · have z7 : Z (x + 77 + 17 * n_1d) = B (x + 77 + 17 * n_1d) := g9 _ (by omega) (by omega) (by omega) (by omega) (by omega) (by omega)
      show PS x n_1d t0 Z _
      unfold PS
      rw [zP, z7, zS]
      obtain ⟨p1, p2, p3, p4, p5, p6, p7, p8, p9, p10⟩ := hPS
      refine ⟨?_, ?_, p3, ?_, ?_, p6, ?_, ?_, p9, ?_⟩
      · rw [upd_s]; exact upd_s.symm
      · intro k
        have k : (upd (A 10) n_1d 2 n_1d).toInt = 1 := k
        rw [upd_s] at k
        exact absurd k (by decide)
      · intro k
        have k : (upd (A 10) n_1d 2 n_1d).toInt ≠ 2 := k
        rw [upd_s] at k
        exact absurd i_2 k
      · rw [upd_n (by decide), upd_s]
        exact ⟨p5.1, upd_s.symm⟩
      · show 0 ≤ (upd (A 10) n_1d 2 n_1d).toInt ∧ _
        rw [show (uA (uA (uA (uA (uA (uA (uA A 8 u_11d.1) 9 u_11d.2) 10 (upd (A 10) n_1d 2)) 18 (upd (A 18) n_1d 0)) 20 (upd (A 20) n_1d 0)) 30 (upd (A 30) n_1d 0)) 36 (upd (A 36) n_1d 0)) 10 n_1d = upd (A 10) n_1d 2 n_1d from rfl, upd_s]
        decide
      · show B01 (upd (A 18) n_1d 0 n_1d)
        rw [upd_s]; exact Or.inl rfl
      · show B01 (upd (A 36) n_1d 0 n_1d)
        rw [upd_s]; exact Or.inl rfl
    · refine ⟨(h + b1) % 4, by omega, ?_, ?_, ?_, fun i hi => ?_⟩
      · rw [zK]; exact s5.symm
      · rw [zK]
        show _ = upd (A 20) n_1d 0 n_1d
        rw [upd_s]
        exact i32_eq (by rw [eK4]; decide)
      · rw [zK, eK 5 (by decide) (by decide)]
        obtain ⟨_, _, _, _, k4, _⟩ := hRQ
        exact k4
      · have hi : (i : Int) < (upd (A 20) n_1d 0 n_1d).toInt := hi
        rw [upd_s, i_0] at hi
        omega
    · refine ⟨(h2 + b2) % 4, by omega, ?_, ?_, ?_, fun i hi => ?_⟩
      · rw [zV]; exact r5.symm
      · show _ = upd (A 30) n_1d 0 n_1d
        rw [upd_s]
        exact i32_eq (by rw [zV4]; decide)
      · rw [zVj 5 (by decide) (by decide)]
        obtain ⟨_, _, _, _, k4, _⟩ := hRV
        exact k4
      · have hi : (i : Int) < (upd (A 30) n_1d 0 n_1d).toInt := hi
        rw [upd_s, i_0] at hi
        omega
    · exact hAD.cg (g9 _ (by omega) (by omega) (by omega) (by omega) (by omega) (by omega)) (g9 _ (by omega) (by omega) (by omega) (by omega) (by omega) (by omega)) rfl (fun _ _ => rfl) (fun _ _ => rfl)
  have e5 : U_9 (x + 85 + 17 * n_1d) 5 = A 36 n_1d := by rw [f9 _ (by omega) (by omega) (by omega) (by omega)]; exact hPS.2.2.2.2.1.2
  have agr : ∀ q', q' ≠ n_1d → AGR q' A (uA (uA (uA (uA (uA (uA (uA A 8 u_11d.1) 9 u_11d.2) 10 (upd (A 10) n_1d 2)) 18 (upd (A 18) n_1d 0)) 20 (upd (A 20) n_1d 0)) 30 (upd (A 30) n_1d 0)) 36 (upd (A 36) n_1d 0)) := fun q' hne => by
    refine ⟨fun j k1 k2 => Or.inl ?_, fun j hj i hi => ?_, fun j hj i hi => ?_⟩
    · by_cases a1 : j = 36
      · subst a1; exact upd_n hne
      by_cases a2 : j = 30
      · subst a2; exact upd_n hne
      by_cases a3 : j = 20
      · subst a3; exact upd_n hne
      by_cases a4 : j = 18
      · subst a4; exact upd_n hne
      by_cases a5 : j = 10
      · subst a5; exact upd_n hne
      rw [uA_n a1, uA_n a2, uA_n a3, uA_n a4, uA_n a5, uA_n (by omega), uA_n (by omega)]
    · rw [uA_n (by omega), uA_n (by omega), uA_n (by omega), uA_n (by omega), uA_n (by omega), uA_n (by omega), uA_n (by omega)]
    · rw [uA_n (by omega), uA_n (by omega), uA_n (by omega), uA_n (by omega), uA_n (by omega), uA_n (by omega), uA_n (by omega)]
  have oth : ∀ j, j ≠ 8 → j ≠ 9 → j ≠ 10 → j ≠ 18 → j ≠ 20 → j ≠ 30 → j ≠ 36 → (uA (uA (uA (uA (uA (uA (uA A 8 u_11d.1) 9 u_11d.2) 10 (upd (A 10) n_1d 2)) 18 (upd (A 18) n_1d 0)) 20 (upd (A 20) n_1d 0)) 30 (upd (A 30) n_1d 0)) 36 (upd (A 36) n_1d 0)) j = A j := fun j a1 a2 a3 a4 a5 a6 a7 => by rw [uA_n a7, uA_n a6, uA_n a5, uA_n a4, uA_n a3, uA_n a2, uA_n a1]
  rcases hcompleteAll_1 with ⟨c1v, U_6v, hFv, hcompleteAllv, B_8v, rfl, rfl⟩ | ⟨c1v, U_11v, hFv, hcompleteAllv, B_13v, rfl, rfl⟩
  · rw [e5] at c1v
    rw [hss.2.2.1] at hcompleteAllv
    obtain ⟨k1, k2, k3, k4⟩ := key 5 U_6v (by rw [if_neg (fun k => k.1 c1v)]) hcompleteAllv _ rfl
    exact ⟨rfl, rfl, k1, k2, k3, k4, agr, oth⟩
  · rw [e5] at c1v
    rw [hss.2.2.1] at hcompleteAllv
    obtain ⟨k1, k2, k3, k4⟩ := key c2 U_11v (by rw [e2]; simp [c1v]) hcompleteAllv _ rfl
    exact ⟨rfl, rfl, k1, k2, k3, k4, agr, oth⟩
