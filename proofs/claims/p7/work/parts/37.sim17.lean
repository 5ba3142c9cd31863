theorem PJ.own {n r : Int} {F Z : Nat → Int32} {q : Nat} {fo ol cu : Int32} (h : PJ n F Z q fo ol cu) (hne : cu.toInt ≠ fo.toInt) (hr : RO F Z q cu r) : ∃ i : Nat, (i : Int) < n ∧ r = 4 * (q : Int) + i ∧ (∀ j, j < i → NB Z (4 * q + j) ≤ (farI (F (4 * q + j)) cu).toInt) ∧ 0 ≤ (farI (F (4 * q + i)) cu).toInt ∧ (farI (F (4 * q + i)) cu).toInt < NB Z (4 * q + i) ∧ (1 ≤ (Z (4 * q + i)).toInt ∧ (Z (4 * q + i)).toInt ≤ 12) := by
  obtain ⟨n0, n4, a, o, c, hR, h0, h1, h2, h3, e1, e2, e3⟩ := h
  have hc : c < a n.toNat := by
    rcases Int.lt_or_lt_of_ne (show c ≠ a n.toNat from fun e => hne (by rw [e3, e1, e])) with h | h
    · exact h
    · omega
  obtain ⟨i, i4, hin, er, ha, hb, ef⟩ := pj_find ⟨n0, n4⟩ hR (by omega) hc e3 hr
  obtain ⟨i', i4', er', hlt, -⟩ := hr
  obtain rfl : i' = i := by omega
  have hi := hR i' hin
  exact ⟨i', hin, er, hlt, by omega, by omega, hi.2.1, hi.2.2.1⟩
theorem PJ.none {n : Int} {F Z : Nat → Int32} {q : Nat} {fo ol cu : Int32} (h : PJ n F Z q fo ol cu) (he : cu.toInt = fo.toInt) (i : Nat) (hi : (i : Int) < n) : NB Z (4 * q + i) ≤ (cu.toInt - (F (4 * q + i)).toInt) % 64 := by
  obtain ⟨n0, n4, a, o, c, hR, h0, h1, h2, h3, e1, e2, e3⟩ := h
  have hm : ∀ i : Nat, (i : Int) < n → a (i + 1) = a i + NB Z (4 * q + i) ∧ 1 ≤ NB Z (4 * q + i) ∧ NB Z (4 * q + i) ≤ 3 := fun i hi => by
    obtain ⟨e1, e2, e3, _⟩ := hR i hi
    exact ⟨e1, pj_N ⟨e2, e3⟩⟩
  have e4 := pj_mono hm (n.toNat - (i + 1)) (i + 1) (by omega)
  rw [show i + 1 + (n.toNat - (i + 1)) = n.toNat by omega] at e4
  have e5 := hm i hi
  have e6 := (hR i hi).2.2.2
  rw [he, e1, e6]
  omega
theorem PJ.win {n : Int} {F Z : Nat → Int32} {q : Nat} {fo ol cu : Int32} (h : PJ n F Z q fo ol cu) : (cu.toInt - ol.toInt) % 64 ≤ 12 := by
  obtain ⟨n0, n4, a, o, c, hR, h0, h1, h2, h3, e1, e2, e3⟩ := h
  have hm : ∀ i : Nat, (i : Int) < n → a (i + 1) = a i + NB Z (4 * q + i) ∧ 1 ≤ NB Z (4 * q + i) ∧ NB Z (4 * q + i) ≤ 3 := fun i hi => by
    obtain ⟨e1, e2, e3, _⟩ := hR i hi
    exact ⟨e1, pj_N ⟨e2, e3⟩⟩
  have e4 := pj_mono hm n.toNat 0 (by omega)
  rw [Nat.zero_add] at e4
  rw [e2, e3]
  omega
theorem PJ.frng {n : Int} {F Z : Nat → Int32} {q : Nat} {fo ol cu : Int32} (h : PJ n F Z q fo ol cu) (i : Nat) (hi : (i : Int) < n) : 0 ≤ (F (4 * q + i)).toInt ∧ (F (4 * q + i)).toInt ≤ 63 := by
  obtain ⟨n0, n4, a, o, c, hR, -⟩ := h
  have := (hR i hi).2.2.2
  omega
theorem far_m {a b : Int32} (ha : 0 ≤ a.toInt ∧ a.toInt ≤ 63) (hb : 0 ≤ b.toInt ∧ b.toInt ≤ 63) : (farI a b).toInt = (b.toInt - a.toInt) % 64 := by
  rw [farI_t (by omega) (by omega)]
  omega
theorem e_owner {x q n h : Nat} {G : Nat → Nat} {B : AA} {R : RR} {A : AA} {num r : Int32} (hS : SHX x R) (hq : q < 4) (hc : C_X7_ownerOf G B R (x + 77 + 17 * q) num r) (hh : (h : Int) = (B (x + 78 + 17 * q) 3).toInt) (hn : (n : Int) = (B (x + 78 + 17 * q) 4).toInt) (h4 : n ≤ 4) (rows : ∀ i, i < n → RWQ (B (x + 80 + 17 * q + (h + i) % 4)) A (4 * q + i)) : (r.toInt = -1 ∧ ∀ i, i < n → NB (A 24) (4 * q + i) ≤ (num.toInt - (A 29 (4 * q + i)).toInt) % 64) ∨ (∃ i : Nat, i < n ∧ r.toInt = i ∧ (∀ j, j < i → NB (A 24) (4 * q + j) ≤ (num.toInt - (A 29 (4 * q + j)).toInt) % 64) ∧ (num.toInt - (A 29 (4 * q + i)).toInt) % 64 < NB (A 24) (4 * q + i)) := by
  have row : ∀ {i : Int32} {r k : Nat}, C_X5_at G B R (x + 78 + 17 * q) i r → (k : Int) = i.toInt → k < n → (B r 5).toInt = NB (A 24) (4 * q + k) ∧ ∀ y : Int32, y = (num - B r 4) &&& 63 → y.toInt = (num.toInt - (A 29 (4 * q + k)).toInt) % 64 := by
    intro i r k ha hk hkn
    have e := e_atQ hS hq ha hh hk
    have w := rows k hkn
    rw [← e] at w
    exact ⟨w.2.2.2.2.2.1, fun y hy => by rw [hy, dst, w.2.2.2.2.1]⟩
  have h6 := (hS.2.2.2.1 q hq).2.2
  unfold C_X7_ownerOf at hc
  rw [h6] at hc
  rcases hc with ⟨c1, rfl⟩ | ⟨c1, r_6, hat, x_8, ex_8, c2, c3, rfl⟩ | ⟨c1, r_6, hat, x_8, ex_8, c2, c3, r_13, hat_1, x_15, ex_15, c4, c5, rfl⟩ | ⟨c1, r_6, hat, x_8, ex_8, c2, c3, r_13, hat_1, x_15, ex_15, c4, c5, r_20, hat_2, x_22, ex_22, c6, c7, rfl⟩ | ⟨c1, r_6, hat, x_8, ex_8, c2, c3, r_13, hat_1, x_15, ex_15, c4, c5, r_20, hat_2, x_22, ex_22, c6, c7, r_27, hat_3, x_29, ex_29, c8, rfl⟩ | ⟨c1, r_6, hat, x_8, ex_8, c2, c3, r_13, hat_1, x_15, ex_15, c4, c5, r_20, hat_2, x_22, ex_22, c6, c7, r_27, hat_3, x_29, ex_29, c8, rfl⟩ | ⟨c1, r_6, hat, x_8, ex_8, c2, c3, r_13, hat_1, x_15, ex_15, c4, c5, r_20, hat_2, x_22, ex_22, c6, rfl⟩ | ⟨c1, r_6, hat, x_8, ex_8, c2, c3, r_13, hat_1, x_15, ex_15, c4, rfl⟩ | ⟨c1, r_6, hat, x_8, ex_8, c2, rfl⟩
  · skip
    refine Or.inl ⟨by decide, fun i hi => ?_⟩
    omega
  · skip
    have f0 := row hat (k := 0) (by decide) (by omega)
    have g0 := f0.2 _ ex_8
    refine Or.inl ⟨by decide, fun i hi => ?_⟩
    rcases (show i = 0 by omega) with rfl
    omega
  · skip
    have f0 := row hat (k := 0) (by decide) (by omega)
    have g0 := f0.2 _ ex_8
    have f1 := row hat_1 (k := 1) (by decide) (by omega)
    have g1 := f1.2 _ ex_15
    refine Or.inl ⟨by decide, fun i hi => ?_⟩
    rcases (show i = 0 ∨ i = 1 by omega) with rfl | rfl
    · omega
    · omega
  · skip
    have f0 := row hat (k := 0) (by decide) (by omega)
    have g0 := f0.2 _ ex_8
    have f1 := row hat_1 (k := 1) (by decide) (by omega)
    have g1 := f1.2 _ ex_15
    have f2 := row hat_2 (k := 2) (by decide) (by omega)
    have g2 := f2.2 _ ex_22
    refine Or.inl ⟨by decide, fun i hi => ?_⟩
    rcases (show i = 0 ∨ i = 1 ∨ i = 2 by omega) with rfl | rfl | rfl
    · omega
    · omega
    · omega
  · skip
    have f0 := row hat (k := 0) (by decide) (by omega)
    have g0 := f0.2 _ ex_8
    have f1 := row hat_1 (k := 1) (by decide) (by omega)
    have g1 := f1.2 _ ex_15
    have f2 := row hat_2 (k := 2) (by decide) (by omega)
    have g2 := f2.2 _ ex_22
    have f3 := row hat_3 (k := 3) (by decide) (by omega)
    have g3 := f3.2 _ ex_29
    refine Or.inl ⟨by decide, fun i hi => ?_⟩
    rcases (show i = 0 ∨ i = 1 ∨ i = 2 ∨ i = 3 by omega) with rfl | rfl | rfl | rfl
    · omega
    · omega
    · omega
    · omega
  · skip
    have f0 := row hat (k := 0) (by decide) (by omega)
    have g0 := f0.2 _ ex_8
    have f1 := row hat_1 (k := 1) (by decide) (by omega)
    have g1 := f1.2 _ ex_15
    have f2 := row hat_2 (k := 2) (by decide) (by omega)
    have g2 := f2.2 _ ex_22
    have f3 := row hat_3 (k := 3) (by decide) (by omega)
    have g3 := f3.2 _ ex_29
    refine Or.inr ⟨3, by omega, by decide, fun j hj => ?_, by omega⟩
    rcases (show j = 0 ∨ j = 1 ∨ j = 2 by omega) with rfl | rfl | rfl
    · omega
    · omega
    · omega
  · skip
    have f0 := row hat (k := 0) (by decide) (by omega)
    have g0 := f0.2 _ ex_8
    have f1 := row hat_1 (k := 1) (by decide) (by omega)
    have g1 := f1.2 _ ex_15
    have f2 := row hat_2 (k := 2) (by decide) (by omega)
    have g2 := f2.2 _ ex_22
    refine Or.inr ⟨2, by omega, by decide, fun j hj => ?_, by omega⟩
    rcases (show j = 0 ∨ j = 1 by omega) with rfl | rfl
    · omega
    · omega
  · skip
    have f0 := row hat (k := 0) (by decide) (by omega)
    have g0 := f0.2 _ ex_8
    have f1 := row hat_1 (k := 1) (by decide) (by omega)
    have g1 := f1.2 _ ex_15
    refine Or.inr ⟨1, by omega, by decide, fun j hj => ?_, by omega⟩
    rcases (show j = 0 by omega) with rfl
    omega
  · skip
    have f0 := row hat (k := 0) (by decide) (by omega)
    have g0 := f0.2 _ ex_8
    refine Or.inr ⟨0, by omega, by decide, fun j hj => ?_, by omega⟩
    omega

/-- a packet is sent with cells -/
theorem EMR.load {A A1 A2 : AA} {cd pk p kd nm mk pl va c1 pk1 r1 f sz c1' pk1' c2 pk2 : Int32} {nd f0 : Nat} (he : D_X10_emit A cd pk p kd nm mk pl va A1 c1 pk1 r1) (hl : D_X10_load A1 c1' pk1' r1 p f sz A2 c2 pk2) (hpk : 0 ≤ pk.toInt ∧ pk.toInt ≤ 24) (hq : (nd : Int) = p.toInt % 2) (hf : (f0 : Int) = f.toInt) (hsz : 0 ≤ sz.toInt ∧ sz.toInt ≤ 4) : EMR A A2 pk pk1 (peerT p) kd nm sz mk pl va (fun k => A 4 (32 * nd + f0 + k)) := by
  obtain ⟨n, hn⟩ : ∃ n : Nat, (n : Int) = pk.toInt := ⟨_, Int.toNat_of_nonneg hpk.1⟩
  obtain ⟨w, hw⟩ : ∃ w : Nat, (w : Int) = sz.toInt := ⟨_, Int.toNat_of_nonneg hsz.1⟩
  have im : (-1 : Int32).toInt = -1 := by decide
  obtain ⟨-, -, hl⟩ := r_load hl hq hf hw hsz.2
  obtain ⟨-, hr⟩ := r_emit he hn (by omega)
  clear he
  rcases hr with ⟨n24, e1, e2, e3⟩ | ⟨n24, e1, e2, e3, e4⟩
  · rcases hl with ⟨l1, l2⟩ | ⟨l1, -⟩
    · exact Or.inl ⟨by omega, by rw [l2, e1], e2⟩
    · rw [e3] at l1; omega
  · rcases hl with ⟨l1, -⟩ | ⟨l1, m, hm, l2⟩
    · rw [e1] at l1; omega
    · rw [e1] at hm
      obtain rfl : m = n := by omega
      subst e4
      refine Or.inr ⟨m, hn, n24, e2, e3, ⟨?_, ?_, ?_, ?_, ?_, ?_, ?_⟩, fun _ k k4 ks => ?_, fun k hk => ?_, fun j hj => ?_⟩
      · rw [l2]; rfl
      · rw [l2]; rfl
      · rw [l2]; rfl
      · rw [l2, uA_n (by decide), uA_s]; show upd (upd (A 44) m 0) m sz = _; rw [upd_u]
      · rw [l2]; rfl
      · rw [l2]; rfl
      · rw [l2]; rfl
      · rw [l2, uA_s]; unfold cpy; rw [if_pos (by omega)]
        show A 4 _ = A 4 _
        congr 1; omega
      · rw [l2, uA_s]; unfold cpy; rw [if_neg (by omega)]; rfl
      · rw [l2, uA_n (by omega), uA_n (by omega), uA_n (by omega), uA_n (by omega), uA_n (by omega), uA_n (by omega), uA_n (by omega), uA_n (by omega), uA_n (by omega)]
/-- a packet is sent without cells -/
theorem EMR.size {A A1 A2 : AA} {cd pk p kd nm mk pl va c1 pk1 r1 sz : Int32} {c : Nat → Int32} (he : D_X10_emit A cd pk p kd nm mk pl va A1 c1 pk1 r1) (hl : (r1.toInt < 0 ∧ A2 = A1) ∨ ∃ m : Nat, (m : Int) = r1.toInt ∧ A2 = uA A1 44 (upd (A1 44) m sz)) (hpk : 0 ≤ pk.toInt ∧ pk.toInt ≤ 24) (hk : (kd.toInt = 0 ∨ kd.toInt = 1 ∨ kd.toInt = 4) → sz.toInt ≤ 0) : EMR A A2 pk pk1 (peerT p) kd nm sz mk pl va c := by
  obtain ⟨n, hn⟩ : ∃ n : Nat, (n : Int) = pk.toInt := ⟨_, Int.toNat_of_nonneg hpk.1⟩
  have im : (-1 : Int32).toInt = -1 := by decide
  obtain ⟨-, hr⟩ := r_emit he hn (by omega)
  clear he
  rcases hr with ⟨n24, e1, e2, e3⟩ | ⟨n24, e1, e2, e3, e4⟩
  · rcases hl with ⟨l1, l2⟩ | ⟨m, l1, -⟩
    · exact Or.inl ⟨by omega, by rw [l2, e1], e2⟩
    · rw [e3] at l1; omega
  · rcases hl with ⟨l1, -⟩ | ⟨m, hm, l2⟩
    · rw [e1] at l1; omega
    · rw [e1] at hm
      obtain rfl : m = n := by omega
      subst e4
      refine Or.inr ⟨m, hn, n24, e2, e3, ⟨?_, ?_, ?_, ?_, ?_, ?_, ?_⟩, fun h k k4 ks => ?_, fun k hk => ?_, fun j hj => ?_⟩
      · rw [l2]; rfl
      · rw [l2]; rfl
      · rw [l2]; rfl
      · rw [l2, uA_s]; show upd (upd (A 44) m 0) m sz = _; rw [upd_u]
      · rw [l2]; rfl
      · rw [l2]; rfl
      · rw [l2]; rfl
      · have := hk h; omega
      · rw [l2]; rfl
      · rw [l2, uA_n (by omega), uA_n (by omega), uA_n (by omega), uA_n (by omega), uA_n (by omega), uA_n (by omega), uA_n (by omega), uA_n (by omega)]
theorem EMR.none {A A1 : AA} {cd pk p kd nm mk pl va c1 pk1 r1 : Int32} {c : Nat → Int32} (he : D_X10_emit A cd pk p kd nm mk pl va A1 c1 pk1 r1) (hpk : 0 ≤ pk.toInt ∧ pk.toInt ≤ 24) : EMR A A1 pk pk1 (peerT p) kd nm 0 mk pl va c := by
  obtain ⟨n, hn⟩ : ∃ n : Nat, (n : Int) = pk.toInt := ⟨_, Int.toNat_of_nonneg hpk.1⟩
  obtain ⟨-, hr⟩ := r_emit he hn (by omega)
  have iz := i_0
  rcases hr with ⟨n24, e1, e2, e3⟩ | ⟨n24, e1, e2, e3, e4⟩
  · exact Or.inl ⟨by omega, e1, e2⟩
  · have i44 : A1 44 = upd (A 44) n 0 := by rw [e4]; rfl
    refine EMR.size he (Or.inr ⟨n, by rw [e1]; exact hn, ?_⟩) hpk (fun _ => by omega)
    rw [i44, upd_u, ← i44, uA_ii]
/-- a packet is carried by the class -/
theorem e_carry2 {x : Nat} {G : Nat → Nat} {B : AA} {R : RR} (hS : SHX x R) {pm : Nat → Nat} {tk : Nat} (hD : DYN x R pm tk) {to kd nm : Int32} {Z0 : AA} {r n : Nat} (hc : C_X0_carry G B R (x + 1) to kd nm Z0 r) (hn : (n : Int) = (B (x + 1) 1).toInt) (h24 : n ≤ 24) : Z0 r = bc (B r) to kd nm ∧ R r 7 = r + 1 ∧ (x + 2 < r ∧ r + 1 < x + 55) ∧ (∀ a, a ≠ r → a ≠ x + 1 → Z0 a = B a) ∧ (∀ {Z : AA} {sz mk pl va : Int32} {c : Nat → Int32}, Z r 0 = to → Z r 1 = kd → Z r 2 = nm → Z r 3 = sz → Z r 4 = mk → Z r 5 = pl → Z r 6 = va → (kd.toInt = 0 ∨ kd.toInt = 1 ∨ kd.toInt = 4 → ∀ k : Nat, k < 4 → (k : Int) < sz.toInt → Z (r + 1) k = c k) → (∀ a, a ≠ r → a ≠ r + 1 → Z a = Z0 a) → EMC x pm B Z to kd nm sz mk pl va c) := by
  have h7 := hS.2.2.2.2.2.2.2.2.2
  rcases e_carry hS hD hc hn h24 with ⟨n24, er, eZ⟩ | ⟨n24, er, c, ec1, ec2, eZ⟩
  · subst er eZ
    refine ⟨uA_s, h7 1 (by decide), by omega, fun a h1 h2 => uA_n h1, ?_⟩
    intro Z sz mk pl va c v0 v1 v2 v3 v4 v5 v6 hg hZ
    exact Or.inl ⟨by omega, fun a h1 h2 => by rw [hZ a h1 h2, uA_n h1]⟩
  · subst er eZ
    have hp := hD.2.2.2.2.1 n n24
    refine ⟨?_, by rw [h7 _ hp.1]; omega, by omega, fun a h1 h2 => by rw [uA_n h1, uA_n h2], ?_⟩
    · rw [uA_s]
    · intro Z sz mk pl va c v0 v1 v2 v3 v4 v5 v6 hg hZ
      refine Or.inr ⟨n, hn, n24, _, ec1, ec2, ?_, ⟨v0, v1, v2, v3, v4, v5, v6⟩, fun h k k1 k2 => ?_, fun a h1 h2 h3 => ?_⟩
      · rw [hZ _ (by omega) (by omega), uA_n (by omega), uA_s]
      · rw [show x + 4 + 2 * pm n = x + 3 + 2 * pm n + 1 by omega]; exact hg h k k1 k2
      · rw [hZ a h2 (by omega), uA_n h2, uA_n h1]
