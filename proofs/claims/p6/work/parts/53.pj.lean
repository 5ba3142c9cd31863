def farI (a b : Int32) : Int32 := (b - a + 64) - (b - a + 64) / 64 * 64
theorem farI_t {a b : Int32} (ha : 0 ≤ a.toInt ∧ a.toInt ≤ 64) (hb : 0 ≤ b.toInt ∧ b.toInt ≤ 64) : (farI a b).toInt = (b.toInt - a.toInt + 64) % 64 := far_t ha hb
/-- the numbers that request n of the row takes -/
def NB (Z : Nat → Int32) (n : Nat) : Int := ((Z n).toInt + 3) / 4
def PJ (n : Int) (F Z : Nat → Int32) (q : Nat) (fo ol cu : Int32) : Prop :=
  0 ≤ n ∧ n ≤ 4 ∧ ∃ (a : Nat → Int) (o c : Int), (∀ i : Nat, (i : Int) < n → a (i + 1) = a i + NB Z (4 * q + i) ∧ 1 ≤ (Z (4 * q + i)).toInt ∧ (Z (4 * q + i)).toInt ≤ 12 ∧ (F (4 * q + i)).toInt = a i % 64) ∧ a 0 ≤ o ∧ o ≤ c ∧ c ≤ a n.toNat ∧ (0 < n → o < a 1) ∧ fo.toInt = a n.toNat % 64 ∧ ol.toInt = o % 64 ∧ cu.toInt = c % 64
def P4 (st n F Z fo ol cu : Nat → Int32) (q : Nat) : Prop := ((st q).toInt = 1 → PJ (n q).toInt F Z q (fo q) (ol q) (cu q)) ∧ ((st q).toInt = 1 ∨ (n q).toInt = 0)
def I4 (st n F Z fo ol cu : Nat → Int32) : Prop := ∀ q, q < 4 → P4 st n F Z fo ol cu q
def RO (F Z : Nat → Int32) (q : Nat) (p : Int32) (r : Int) : Prop := ∃ i : Nat, i < 4 ∧ r = 4 * (q : Int) + i ∧ (∀ j, j < i → NB Z (4 * q + j) ≤ (farI (F (4 * q + j)) p).toInt) ∧ (i = 3 ∨ (farI (F (4 * q + i)) p).toInt < NB Z (4 * q + i))
theorem PJ.rng {n : Int} {F Z : Nat → Int32} {q : Nat} {fo ol cu : Int32} (h : PJ n F Z q fo ol cu) : (0 ≤ fo.toInt ∧ fo.toInt ≤ 63) ∧ (0 ≤ ol.toInt ∧ ol.toInt ≤ 63) ∧ (0 ≤ cu.toInt ∧ cu.toInt ≤ 63) := by
  obtain ⟨_, _, a, o, c, _, _, _, _, _, h1, h2, h3⟩ := h
  omega
theorem pj_mono {a : Nat → Int} {n : Int} {N : Nat → Int} (h : ∀ i : Nat, (i : Int) < n → a (i + 1) = a i + N i ∧ 1 ≤ N i ∧ N i ≤ 3) : ∀ k j : Nat, ((j + k : Nat) : Int) ≤ n → a j + k ≤ a (j + k) ∧ a (j + k) ≤ a j + 3 * k := by
  intro k
  induction k with
  | zero => intro j _; simp
  | succ k ih =>
    intro j hj
    have h1 := ih j (by omega)
    have h2 := h (j + k) (by omega)
    rw [show j + (k + 1) = j + k + 1 by omega]
    omega
theorem pj_N {Z : Nat → Int32} {n : Nat} (h : 1 ≤ (Z n).toInt ∧ (Z n).toInt ≤ 12) : 1 ≤ NB Z n ∧ NB Z n ≤ 3 := by
  unfold NB
  omega
/-- the request of a number that lies in the row -/
theorem pj_find {n : Int} {F Z : Nat → Int32} {q : Nat} {a : Nat → Int} {x r : Int} {p : Int32} (hn : 0 ≤ n ∧ n ≤ 4) (h : ∀ i : Nat, (i : Int) < n → a (i + 1) = a i + NB Z (4 * q + i) ∧ 1 ≤ (Z (4 * q + i)).toInt ∧ (Z (4 * q + i)).toInt ≤ 12 ∧ (F (4 * q + i)).toInt = a i % 64) (h0 : a 0 ≤ x) (h1 : x < a n.toNat) (hp : p.toInt = x % 64) (hr : RO F Z q p r) : ∃ i : Nat, i < 4 ∧ (i : Int) < n ∧ r = 4 * (q : Int) + i ∧ a i ≤ x ∧ x < a (i + 1) ∧ (farI (F (4 * q + i)) p).toInt = x - a i := by
  have hm : ∀ i : Nat, (i : Int) < n → a (i + 1) = a i + NB Z (4 * q + i) ∧ 1 ≤ NB Z (4 * q + i) ∧ NB Z (4 * q + i) ≤ 3 := fun i hi => by
    obtain ⟨e1, e2, e3, _⟩ := h i hi
    exact ⟨e1, pj_N ⟨e2, e3⟩⟩
  have hmm := pj_mono hm
  have hf : ∀ j : Nat, (j : Int) < n → a j ≤ x → (farI (F (4 * q + j)) p).toInt = x - a j := fun j hj hx => by
    have e := (h j hj).2.2.2
    have e1 := farI_t (a := F (4 * q + j)) (b := p) (by omega) (by omega)
    have e2 := hmm (n.toNat - j) j (by omega)
    rw [show j + (n.toNat - j) = n.toNat by omega] at e2
    rw [e1]
    omega
  obtain ⟨i, hi, hr, hlt, hend⟩ := hr
  have up : ∀ j : Nat, j ≤ i → (j : Int) ≤ n → a j ≤ x := by
    intro j
    induction j with
    | zero => intro _ _; exact h0
    | succ j ih =>
      intro h2 h3
      have h4 := ih (by omega) (by omega)
      have h5 := hf j (by omega) h4
      have h6 := hlt j (by omega)
      have h7 := (hm j (by omega)).1
      omega
  have hin : (i : Int) < n := by
    by_cases c : (i : Int) < n
    · exact c
    · exfalso
      have := up n.toNat (by omega) (by omega)
      omega
  have h4 := up i (Nat.le_refl i) (by omega)
  have h5 := hf i hin h4
  refine ⟨i, hi, hin, hr, h4, ?_, h5⟩
  rcases hend with e | e
  · have : n.toNat = i + 1 := by omega
    rw [this] at h1
    exact h1
  · have h7 := (hm i hin).1
    omega
theorem PJ.push {n r : Int} {F Z : Nat → Int32} {q : Nat} {fo ol cu : Int32} (h : PJ n F Z q fo ol cu) (hne : cu.toInt ≠ fo.toInt) (hr : RO F Z q cu r) : ∃ i : Nat, i < 4 ∧ r = 4 * (q : Int) + i ∧ 0 ≤ (farI (F (4 * q + i)) cu).toInt ∧ (farI (F (4 * q + i)) cu).toInt < NB Z (4 * q + i) ∧ 1 ≤ (Z (4 * q + i)).toInt ∧ (Z (4 * q + i)).toInt ≤ 12 ∧ ∀ cu' : Int32, cu'.toInt = (cu.toInt + 1) % 64 ∨ cu'.toInt = (cu.toInt + (NB Z (4 * q + i) - (farI (F (4 * q + i)) cu).toInt)) % 64 → PJ n F Z q fo ol cu' := by
  obtain ⟨n0, n4, a, o, c, hR, h0, h1, h2, h3, e1, e2, e3⟩ := h
  have hc : c < a n.toNat := by
    rcases Int.lt_or_lt_of_ne (show c ≠ a n.toNat from fun e => hne (by rw [e3, e1, e])) with h | h
    · exact h
    · omega
  obtain ⟨i, i4, hin, er, ha, hb, ef⟩ := pj_find ⟨n0, n4⟩ hR (by omega) hc e3 hr
  have hi := hR i hin
  refine ⟨i, i4, er, by omega, by omega, hi.2.1, hi.2.2.1, fun cu' hcu => ?_⟩
  have hm : ∀ i : Nat, (i : Int) < n → a (i + 1) = a i + NB Z (4 * q + i) ∧ 1 ≤ NB Z (4 * q + i) ∧ NB Z (4 * q + i) ≤ 3 := fun i hi => by
    obtain ⟨e1, e2, e3, _⟩ := hR i hi
    exact ⟨e1, pj_N ⟨e2, e3⟩⟩
  have e4 := pj_mono hm (n.toNat - (i + 1)) (i + 1) (by omega)
  rw [show i + 1 + (n.toNat - (i + 1)) = n.toNat by omega] at e4
  rcases hcu with hcu | hcu
  · exact ⟨n0, n4, a, o, c + 1, hR, h0, by omega, by omega, h3, e1, e2, by omega⟩
  · refine ⟨n0, n4, a, o, a (i + 1), hR, h0, by omega, by omega, h3, e1, e2, ?_⟩
    rw [hcu, ef, hi.1]
    omega
theorem PJ.ans {n r : Int} {F Z : Nat → Int32} {q : Nat} {fo ol cu : Int32} (h : PJ n F Z q fo ol cu) (hne : cu.toInt ≠ ol.toInt) (hr : RO F Z q ol r) : r = 4 * (q : Int) ∧ 1 ≤ n ∧ 0 ≤ (farI (F (4 * q)) ol).toInt ∧ (farI (F (4 * q)) ol).toInt < NB Z (4 * q) ∧ 1 ≤ (Z (4 * q)).toInt ∧ (Z (4 * q)).toInt ≤ 12 ∧ (∀ ol' : Int32, ol'.toInt = (ol.toInt + 1) % 64 → (farI ol' cu).toInt = (farI ol cu).toInt - 1) ∧ ((farI (F (4 * q)) ol).toInt ≠ NB Z (4 * q) - 1 → ∀ ol' : Int32, ol'.toInt = (ol.toInt + 1) % 64 → PJ n F Z q fo ol' cu) ∧ ((farI (F (4 * q)) ol).toInt = NB Z (4 * q) - 1 → ∀ (ol' : Int32) (n' : Int) (F' Z' : Nat → Int32), ol'.toInt = (ol.toInt + 1) % 64 → n' = n - 1 → (∀ i : Nat, (i : Int) < n' → F' (4 * q + i) = F (4 * q + i + 1) ∧ Z' (4 * q + i) = Z (4 * q + i + 1)) → PJ n' F' Z' q fo ol' cu) := by
  obtain ⟨n0, n4, a, o, c, hR, h0, h1, h2, h3, e1, e2, e3⟩ := h
  have hoc : o < c := by
    rcases Int.lt_or_lt_of_ne (show c ≠ o from fun e => hne (by rw [e3, e2, e])) with h | h
    · omega
    · exact h
  have hm : ∀ i : Nat, (i : Int) < n → a (i + 1) = a i + NB Z (4 * q + i) ∧ 1 ≤ NB Z (4 * q + i) ∧ NB Z (4 * q + i) ≤ 3 := fun i hi => by
    obtain ⟨e1, e2, e3, _⟩ := hR i hi
    exact ⟨e1, pj_N ⟨e2, e3⟩⟩
  have ht := pj_mono hm n.toNat 0 (by omega)
  rw [Nat.zero_add] at ht
  obtain ⟨i, i4, hin, er, ha, hb, ef⟩ := pj_find ⟨n0, n4⟩ hR (by omega) (by omega) e2 hr
  have h1n : 0 < n := by omega
  have h4 := h3 h1n
  have i0 : i = 0 := by
    by_cases c : i = 0
    · exact c
    · exfalso
      have e4 := pj_mono hm (i - 1) 1 (by omega)
      rw [show 1 + (i - 1) = i by omega] at e4
      omega
  subst i0
  have hi := hR 0 h1n
  have hmi := hm 0 h1n
  simp only [Nat.add_zero, Nat.zero_add] at ef hi hmi hb
  refine ⟨by omega, by omega, by omega, by omega, hi.2.1, hi.2.2.1, fun ol' ho => ?_, fun hk ol' ho => ?_, fun hk ol' n' F' Z' ho hn' hs => ?_⟩
  · have q1 := farI_t (a := ol') (b := cu) (by omega) (by omega)
    have q2 := farI_t (a := ol) (b := cu) (by omega) (by omega)
    omega
  · exact ⟨n0, n4, a, o + 1, c, hR, by omega, by omega, h2, fun _ => by omega, e1, by omega, e3⟩
  · subst hn'
    have ej : (n - 1).toNat + 1 = n.toNat := by omega
    refine ⟨by omega, by omega, fun i => a (i + 1), o + 1, c, fun i hi => ?_, ?_, by omega, ?_, fun hp => ?_, ?_, by omega, e3⟩
    · obtain ⟨s1, s2⟩ := hs i hi
      have t := hR (i + 1) (by omega)
      have t2 : NB Z' (4 * q + i) = NB Z (4 * q + (i + 1)) := by unfold NB; rw [s2]; rfl
      rw [s1, s2, t2]
      exact t
    · show a 1 ≤ o + 1
      omega
    · show c ≤ a ((n - 1).toNat + 1)
      rw [ej]
      exact h2
    · show o + 1 < a (1 + 1)
      have := hm 1 (by omega)
      omega
    · show fo.toInt = a ((n - 1).toNat + 1) % 64
      rw [ej]
      exact e1
theorem PJ.post {n : Int} {F Z F' Z' : Nat → Int32} {q : Nat} {fo ol cu fo' : Int32} (h : PJ n F Z q fo ol cu) (hn : n ≠ 4) (k : Nat) (hk : (k : Int) = 4 * (q : Int) + n) (eF : ∀ j, j ≠ k → F' j = F j) (eZ : ∀ j, j ≠ k → Z' j = Z j) (hF : F' k = fo) (hZ : 1 ≤ (Z' k).toInt ∧ (Z' k).toInt ≤ 12) (hf : fo'.toInt = (fo.toInt + NB Z' k) % 64) : PJ (n + 1) F' Z' q fo' ol cu := by
  obtain ⟨n0, n4, a, o, c, hR, h0, h1, h2, h3, e1, e2, e3⟩ := h
  have hb := pj_N hZ
  have hk' : k = 4 * q + n.toNat := by omega
  have e5 : (n + 1).toNat = n.toNat + 1 := by omega
  refine ⟨by omega, by omega, fun i => if i ≤ n.toNat then a i else a n.toNat + NB Z' k, o, c, fun i hi => ?_, ?_, h1, ?_, fun _ => ?_, ?_, e2, e3⟩
  · by_cases c : i = n.toNat
    · subst c
      simp only [Nat.le_refl, if_true, show ¬ (n.toNat + 1 ≤ n.toNat) by omega, if_false]
      rw [← hk', hF]
      exact ⟨rfl, hZ.1, hZ.2, e1⟩
    · have t := hR i (by omega)
      have t2 : NB Z' (4 * q + i) = NB Z (4 * q + i) := by unfold NB; rw [eZ _ (by omega)]
      simp only [show i ≤ n.toNat by omega, show i + 1 ≤ n.toNat by omega, if_true]
      rw [eF _ (by omega), eZ _ (by omega), t2]
      exact t
  · simp only [Nat.zero_le, if_true]
    exact h0
  · simp only [e5, show ¬ (n.toNat + 1 ≤ n.toNat) by omega, if_false]
    omega
  · by_cases c : n = 0
    · subst c
      simp only [Int.toNat_zero, show ¬ (1 ≤ 0) by omega, if_false]
      simp only [Int.toNat_zero] at h2
      omega
    · simp only [show 1 ≤ n.toNat by omega, if_true]
      exact h3 (by omega)
  · simp only [e5, show ¬ (n.toNat + 1 ≤ n.toNat) by omega, if_false]
    rw [hf, e1]
    omega
theorem PJ.back {n : Int} {F Z : Nat → Int32} {q : Nat} {fo ol cu cu' : Int32} (h : PJ n F Z q fo ol cu) (e : cu' = ol) : PJ n F Z q fo ol cu' := by
  obtain ⟨n0, n4, a, o, c, hR, h0, h1, h2, h3, e1, e2, e3⟩ := h
  subst e
  exact ⟨n0, n4, a, o, o, hR, h0, by omega, by omega, h3, e1, e2, e2⟩
theorem PJ.new {F Z : Nat → Int32} {q : Nat} {x : Int32} (h : 0 ≤ x.toInt ∧ x.toInt ≤ 63) : PJ 0 F Z q x x x :=
  ⟨by omega, by omega, fun _ => x.toInt, x.toInt, x.toInt, fun i hi => absurd hi (by omega), Int.le_refl _, Int.le_refl _, Int.le_refl _, fun h => absurd h (by omega), (by show x.toInt = x.toInt % 64; omega), by omega, by omega⟩
theorem PJ.cg {n n' : Int} {F Z F' Z' : Nat → Int32} {q : Nat} {fo ol cu fo' ol' cu' : Int32} (h : PJ n F Z q fo ol cu) (en : n' = n) (eF : ∀ i, i < 4 → F' (4 * q + i) = F (4 * q + i)) (eZ : ∀ i, i < 4 → Z' (4 * q + i) = Z (4 * q + i)) (e1 : fo' = fo) (e2 : ol' = ol) (e3 : cu' = cu) : PJ n' F' Z' q fo' ol' cu' := by
  subst en e1 e2 e3
  obtain ⟨n0, n4, a, o, c, hR, h⟩ := h
  refine ⟨n0, n4, a, o, c, fun i hi => ?_, h⟩
  have t := hR i hi
  have t2 : NB Z' (4 * q + i) = NB Z (4 * q + i) := by unfold NB; rw [eZ _ (by omega)]
  rw [eF _ (by omega), eZ _ (by omega), t2]
  exact t
theorem P4.cg {st n F Z fo ol cu st' n' F' Z' fo' ol' cu' : Nat → Int32} {q : Nat} (h : P4 st n F Z fo ol cu q) (es : st' q = st q) (en : n' q = n q) (eF : ∀ i, i < 4 → F' (4 * q + i) = F (4 * q + i)) (eZ : ∀ i, i < 4 → Z' (4 * q + i) = Z (4 * q + i)) (e1 : fo' q = fo q) (e2 : ol' q = ol q) (e3 : cu' q = cu q) : P4 st' n' F' Z' fo' ol' cu' q :=
  ⟨fun hs => (h.1 (by rw [← es]; exact hs)).cg (by rw [en]) eF eZ e1 e2 e3, by rw [es, en]; exact h.2⟩
/-- row n is left out -/
def Sh (f g : Nat → Int32) (a b : Nat) : Prop := ∀ n, g n = if a ≤ n ∧ n < b then f (n + 1) else f n
theorem Sh.z {f : Nat → Int32} {a : Nat} : Sh f f a a := fun n => by rw [if_neg (by omega)]
theorem Sh.s {f g g' : Nat → Int32} {a b : Nat} (h : Sh f g a b) (hab : a ≤ b) (h1 : g' b = g (b + 1)) (h2 : ∀ n, n ≠ b → g' n = g n) : Sh f g' a (b + 1) := fun n => by
  by_cases e : n = b
  · subst e
    rw [h1, h, if_neg (by omega), if_pos (by omega)]
  · rw [h2 n e, h]
    by_cases c : a ≤ n ∧ n < b
    · rw [if_pos c, if_pos (by omega)]
    · rw [if_neg c, if_neg (by omega)]
