/-- m numbers are answered, c requests with them -/
def ANS (A : AA) (q : Nat) (p : Int32) (d : Int) (m c : Nat) (Z : AA) : Prop :=
  (∃ ds es : Nat → Nat → Int32, ds 0 = A 8 ∧ es 0 = A 9 ∧ (∀ i, i < c → CPL (ds i) (es i) (q % 2) p (A 22 (4 * q + i)) (A 28 (4 * q + i)) 0 (A 24 (4 * q + i)) (ds (i + 1)) (es (i + 1))) ∧ ds c = Z 8 ∧ es c = Z 9) ∧
  ((c : Int) ≤ (A 20 q).toInt ∧ (Z 20 q).toInt = (A 20 q).toInt - c ∧ ∀ k, k ≠ q → Z 20 k = A 20 k) ∧
  (∀ j, 22 ≤ j → j ≤ 29 → (∀ i : Nat, (i : Int) + c < (A 20 q).toInt → Z j (4 * q + i) = A j (4 * q + (i + c))) ∧ ∀ k, ¬ (4 * q ≤ k ∧ k < 4 * q + 4) → Z j k = A j k) ∧
  ((Z 12 q).toInt = ((A 12 q).toInt + m) % 64 ∧ ∀ j, (j = 12 ∨ 15 ≤ j ∧ j ≤ 18) → ∀ k, k ≠ q → Z j k = A j k) ∧
  (0 < m → Z 15 q = 0 ∧ Z 16 q = 0 ∧ Z 17 q = 0 ∧ Z 18 q = 0) ∧
  (m = 0 → Z = A) ∧
  (∀ j, ¬ NA1 j → Z j = A j) ∧
  (SN (A 24) q c ≤ d + m ∧ ((c : Int) < (A 20 q).toInt → d + m < SN (A 24) q (c + 1)))
theorem ANS.zero {A : AA} {q : Nat} {p : Int32} {d : Int} (h0 : 0 ≤ d) (h1 : 0 < (A 20 q).toInt → d < SN (A 24) q 1) (hn : 0 ≤ (A 20 q).toInt) (ho : 0 ≤ (A 12 q).toInt ∧ (A 12 q).toInt ≤ 63) : ANS A q p d 0 0 A :=
  ⟨⟨fun _ => A 8, fun _ => A 9, rfl, rfl, fun i hi => by omega, rfl, rfl⟩, ⟨hn, by omega, fun _ _ => rfl⟩, fun j _ _ => ⟨fun i _ => by rw [Nat.add_zero], fun _ _ => rfl⟩, ⟨by omega, fun _ _ _ _ => rfl⟩, fun h => by omega, fun _ => rfl, fun _ _ => rfl, by show (0 : Int) ≤ _; omega, fun h => by have := h1 (by omega); show _ < SN (A 24) q 1; omega⟩
/-- what the numbers of a pair are, for the answers -/
def PJD (A : AA) (q : Nat) (d : Int) : Prop := 0 ≤ d ∧ (0 < (A 20 q).toInt → d < SN (A 24) q 1) ∧ (∀ i : Nat, (i : Int) < (A 20 q).toInt → ∀ m : Int, ((A 12 q).toInt + m - (A 29 (4 * q + i)).toInt) % 64 = (d + m - SN (A 24) q i) % 64) ∧ d + ((A 13 q).toInt - (A 12 q).toInt) % 64 ≤ SN (A 24) q (A 20 q).toInt.toNat ∧ (∀ i : Nat, (i : Int) < (A 20 q).toInt → 1 ≤ NB (A 24) (4 * q + i) ∧ NB (A 24) (4 * q + i) ≤ 3) ∧ SN (A 24) q (A 20 q).toInt.toNat ≤ 12 ∧ (∀ i : Nat, (i : Int) < (A 20 q).toInt → 0 ≤ (A 29 (4 * q + i)).toInt ∧ (A 29 (4 * q + i)).toInt ≤ 63) ∧ (0 ≤ (A 12 q).toInt ∧ (A 12 q).toInt ≤ 63) ∧ (0 ≤ (A 20 q).toInt ∧ (A 20 q).toInt ≤ 4)
theorem PJ.jd {A : AA} {q : Nat} (h : PJ (A 20 q).toInt (A 29) (A 24) q (A 11 q) (A 12 q) (A 13 q)) : ∃ d, PJD A q d := by
  obtain ⟨d, h1, h2, h3, h4, h5, h6⟩ := h.sn
  have hf := h.frng
  have rg := h.rng
  have n0 := h.1
  have n4 := h.2.1
  exact ⟨d, h1, h2, h3, h4, h5, h6, hf, rg.2.1, n0, n4⟩
/-- which request the next number belongs to -/
theorem ANS.own {A : AA} {q : Nat} {p : Int32} {d : Int} {m c : Nat} {Y : AA} (hJ : PJD A q d) (h : ANS A q p d m c Y) (hm : (m : Int) < ((A 13 q).toInt - (A 12 q).toInt) % 64) : (c : Int) < (A 20 q).toInt ∧ SN (A 24) q c ≤ d + m ∧ d + m < SN (A 24) q (c + 1) := by
  obtain ⟨-, ⟨k1, -⟩, -, -, -, -, -, k2, k3⟩ := h
  obtain ⟨j1, j2, j3, j4, j5, j6, j7, j8, j9⟩ := hJ
  have hc : (c : Int) < (A 20 q).toInt := by
    by_cases e : (c : Int) < (A 20 q).toInt
    · exact e
    · exfalso
      have e2 : (A 20 q).toInt.toNat = c := by omega
      rw [e2] at j4
      omega
  exact ⟨hc, k2, k3 hc⟩
theorem ANS.step {A : AA} {q : Nat} {p : Int32} {d : Int} {m c : Nat} {Y Z : AA} (hq : q < 4) (hJ : PJD A q d) (h : ANS A q p d m c Y) (hm : (m : Int) < ((A 13 q).toInt - (A 12 q).toInt) % 64) (hd : AN1 Y q p Z) : ∃ c', ANS A q p d (m + 1) c' Z := by
  obtain ⟨o1, o2, o3⟩ := h.own hJ hm
  obtain ⟨⟨ds, es, a1, a2, a3, a4, a5⟩, ⟨b1, b2, b3⟩, g, ⟨e1, e2⟩, f1, -, f3, -⟩ := h
  obtain ⟨j1, j2, j3, j4, j5, j6, j7, j8, j9⟩ := hJ
  obtain ⟨⟨o', y1, y2⟩, y3, y4, y5, y6, y7, y8⟩ := hd
  have hz := j5 c o1
  have hf := j7 c o1
  have cg := j3 c o1 m
  have gr := (g 29 (by decide) (by decide)).1 0 (by omega)
  have gs := (g 24 (by decide) (by decide)).1 0 (by omega)
  rw [Nat.add_zero, Nat.zero_add] at gr gs
  have eN : NB (Y 24) (4 * q) = NB (A 24) (4 * q + c) := by unfold NB; rw [gs]
  have efar : (farI (Y 29 (4 * q)) (Y 12 q)).toInt = d + m - SN (A 24) q c := by
    rw [far_m (by rw [gr]; exact hf) (by rw [e1]; omega), gr, e1]
    have s1 : SN (A 24) q (c + 1) = SN (A 24) q c + NB (A 24) (4 * q + c) := rfl
    omega
  rw [efar, eN] at y8
  have s1 : SN (A 24) q (c + 1) = SN (A 24) q c + NB (A 24) (4 * q + c) := rfl
  have hZ12 : (Z 12 q).toInt = ((A 12 q).toInt + ((m + 1 : Nat) : Int)) % 64 := by rw [y2, upd_s, y1, e1]; omega
  have hoth : ∀ j, (j = 12 ∨ 15 ≤ j ∧ j ≤ 18) → ∀ k, k ≠ q → Z j k = A j k := fun j hj k hk => by
    rw [← e2 j hj k hk]
    rcases (show j = 12 ∨ j = 15 ∨ j = 16 ∨ j = 17 ∨ j = 18 by omega) with rfl | rfl | rfl | rfl | rfl
    · rw [y2, upd_n hk]
    · rw [y3, upd_n hk]
    · rw [y4, upd_n hk]
    · rw [y5, upd_n hk]
    · rw [y6, upd_n hk]
  have hcl : 0 < m + 1 → Z 15 q = 0 ∧ Z 16 q = 0 ∧ Z 17 q = 0 ∧ Z 18 q = 0 := fun _ => ⟨by rw [y3, upd_s], by rw [y4, upd_s], by rw [y5, upd_s], by rw [y6, upd_s]⟩
  have hrest : ∀ j, ¬ NA1 j → Z j = A j := fun j hj => (y7 j hj).trans (f3 j hj)
  rcases y8 with ⟨w1, w2, w3, w4, w5⟩ | ⟨w1, w2, ⟨v, w3, w4, w5⟩, w6⟩
  · refine ⟨c, ⟨ds, es, a1, a2, a3, by rw [w2]; exact a4, by rw [w3]; exact a5⟩, ⟨b1, by rw [w4]; exact b2, fun k hk => by rw [w4]; exact b3 k hk⟩, fun j h1 h2 => by rw [w5 j h1 h2]; exact g j h1 h2, ⟨hZ12, hoth⟩, hcl, fun e => by omega, hrest, by omega, fun _ => by omega⟩
  · refine ⟨c + 1, ⟨fun i => if i ≤ c then ds i else Z 8, fun i => if i ≤ c then es i else Z 9, ?_, ?_, fun i hi => ?_, ?_, ?_⟩, ⟨by omega, ?_, fun k hk => ?_⟩, fun j h1 h2 => ⟨fun i hi => ?_, fun k hk => ?_⟩, ⟨hZ12, hoth⟩, hcl, fun e => by omega, hrest, by omega, fun e => ?_⟩
    · dsimp only; rw [if_pos (Nat.zero_le c)]; exact a1
    · dsimp only; rw [if_pos (Nat.zero_le c)]; exact a2
    · by_cases e : i = c
      · subst e
        dsimp only
        rw [if_pos (Nat.le_refl i), if_pos (Nat.le_refl i), if_neg (Nat.not_succ_le_self i), if_neg (Nat.not_succ_le_self i), a4, a5]
        have g22 := (g 22 (by decide) (by decide)).1 0 (by omega)
        have g28 := (g 28 (by decide) (by decide)).1 0 (by omega)
        rw [Nat.add_zero, Nat.zero_add] at g22 g28
        rw [← g22, ← g28, ← gs]
        exact w2
      · have q1 : i ≤ c := by omega
        have q2 : i + 1 ≤ c := by omega
        dsimp only
        rw [if_pos q1, if_pos q1, if_pos q2, if_pos q2]
        exact a3 i (by omega)
    · dsimp only; rw [if_neg (Nat.not_succ_le_self c)]
    · dsimp only; rw [if_neg (Nat.not_succ_le_self c)]
    · rw [w5, upd_s, w4, b2]; omega
    · rw [w5, upd_n hk]; exact b3 k hk
    · obtain ⟨b, hb, hs⟩ := w6 j h1 h2
      rw [hs, if_pos (by omega), Nat.add_assoc, (g j h1 h2).1 (i + 1) (by omega)]
      congr 1; omega
    · obtain ⟨b, hb, hs⟩ := w6 j h1 h2
      rw [hs, if_neg (by omega)]
      exact (g j h1 h2).2 k hk
    · have hz1 := j5 (c + 1) (by omega)
      have s2 : SN (A 24) q (c + 1 + 1) = SN (A 24) q (c + 1) + NB (A 24) (4 * q + (c + 1)) := rfl
      omega
/-- the kind of the request of a number -/
theorem ANS.kind {A : AA} {q : Nat} {p : Int32} {d : Int} {m c : Nat} {Y : AA} {cd pk w : Int32} (hq : q < 4) (hJ : PJD A q d) (h : ANS A q p d m c Y) (hm : (m : Int) < ((A 13 q).toInt - (A 12 q).toInt) % 64) (hH : HC Y cd pk p q w) : (w.toInt = 0 ∧ (A 22 (4 * q + c)).toInt < 2) ∨ (w.toInt ≠ 0 ∧ ¬ (A 22 (4 * q + c)).toInt < 2) := by
  obtain ⟨o1, o2, o3⟩ := h.own hJ hm
  obtain ⟨-, -, g, ⟨e1, -⟩, -, -, -, -⟩ := h
  obtain ⟨j1, j2, j3, j4, j5, j6, j7, j8, j9⟩ := hJ
  obtain ⟨r, ⟨i, i4, er, hl, -⟩, hc⟩ := hH
  have hz := j5 c o1
  have hf := j7 c o1
  have cg := j3 c o1 m
  have gr := (g 29 (by decide) (by decide)).1 0 (by omega)
  have gs := (g 24 (by decide) (by decide)).1 0 (by omega)
  have gk := (g 22 (by decide) (by decide)).1 0 (by omega)
  rw [Nat.add_zero, Nat.zero_add] at gr gs gk
  have eN : NB (Y 24) (4 * q) = NB (A 24) (4 * q + c) := by unfold NB; rw [gs]
  have s1 : SN (A 24) q (c + 1) = SN (A 24) q c + NB (A 24) (4 * q + c) := rfl
  have efar : (farI (Y 29 (4 * q)) (Y 12 q)).toInt = d + m - SN (A 24) q c := by
    rw [far_m (by rw [gr]; exact hf) (by rw [e1]; omega), gr, e1]
    omega
  have i0 : i = 0 := by
    by_cases e : i = 0
    · exact e
    · exfalso
      have k := hl 0 (by omega)
      rw [Nat.add_zero, eN, efar] at k
      omega
  subst i0
  rcases hc with ⟨n_3, hn_3, c1, rfl⟩ | ⟨n_3, hn_3, c1, rfl⟩
  · obtain rfl : n_3 = 4 * q := by omega
    rw [gk] at c1
    exact Or.inl ⟨by decide, c1⟩
  · obtain rfl : n_3 = 4 * q := by omega
    rw [gk] at c1
    exact Or.inr ⟨by decide, c1⟩
theorem ASR.ans {A : AA} {cd pk p : Int32} {q : Nat} {d : Int} (hq : q < 4) (hp : (q : Int) = p.toInt) (hJ : PJD A q d) : ∀ (b : Nat) (Z : AA), ASR A cd pk p q b Z → (b : Int) ≤ ((A 13 q).toInt - (A 12 q).toInt) % 64 → ∃ c, ANS A q p d b c Z ∧ ∀ j : Nat, j < b → ∃ i : Nat, (i : Int) < (A 20 q).toInt ∧ SN (A 24) q i ≤ d + j ∧ d + j < SN (A 24) q (i + 1) ∧ (A 22 (4 * q + i)).toInt < 2 := by
  intro b
  induction b with
  | zero =>
    intro Z hZ _
    have e : Z = A := hZ
    subst e
    exact ⟨0, ANS.zero hJ.1 hJ.2.1 hJ.2.2.2.2.2.2.2.2.1 hJ.2.2.2.2.2.2.2.1, fun j hj => by omega⟩
  | succ b ih =>
    intro Z hZ hb
    obtain ⟨Y, h1, h2, h3⟩ := hZ
    obtain ⟨c, k1, k2⟩ := ih Y h1 (by omega)
    have hm : (b : Int) < ((A 13 q).toInt - (A 12 q).toInt) % 64 := by omega
    obtain ⟨-, -, h4⟩ := r_answerOne h3 hp
    obtain ⟨c', k3⟩ := k1.step hq hJ hm h4
    obtain ⟨o1, o2, o3⟩ := k1.own hJ hm
    have kk := k1.kind hq hJ hm h2
    refine ⟨c', k3, fun j hj => ?_⟩
    by_cases e : j = b
    · subst e
      have iz := i_0
      exact ⟨c, o1, o2, o3, by omega⟩
    · exact k2 j (by omega)
