/-- a completion, by the two arrays alone -/
def CPL (d e : Nat → Int32) (nd : Nat) (q kd se st le : Int32) (d' e' : Nat → Int32) : Prop := ((d nd).toInt = 16 ∧ d' = d ∧ e' = e) ∨ ((d nd).toInt ≠ 16 ∧ ∃ (m : Nat) (c : Int32), (m : Int) = 80 * (nd : Int) + 5 * (d nd).toInt ∧ c.toInt = (d nd).toInt + 1 ∧ c = d nd + 1 ∧ d' = upd d nd c ∧ e' = w5 e m q kd se st le)
theorem r_cpl {A : AA} {cd pk q kd se st le : Int32} {Z : AA} {cdz pkz : Int32} {n : Nat} (h : D_X10_complete A cd pk q kd se st le Z cdz pkz) (hn : (n : Int) = q.toInt % 2) : CPL (A 8) (A 9) n q kd se st le (Z 8) (Z 9) := by
  obtain ⟨-, -, h⟩ := r_complete h hn
  rcases h with ⟨a, rfl⟩ | ⟨a, m, c, b1, b2, b3, rfl⟩
  · exact Or.inl ⟨a, rfl, rfl⟩
  · exact Or.inr ⟨a, m, c, b1, b2, b3, rfl, rfl⟩
theorem s_complete2 {x n : Nat} {G : Nat → Nat} {B : AA} {R : RR} {A : AA} (hS : SHX x R) (hn : n < 2) (hns : ∀ m, m < 2 → NS x m B (A 8) (A 9)) (hI : I3 (A 8)) {q kd se st le : Int32} {p : Nat} {Z : AA} {d' e' : Nat → Int32} (hc : C_X1_complete G B R (x + 56 + 10 * n) q p st Z) (hd2 : CPL (A 8) (A 9) n q kd se st le d' e') (e0 : B p 0 = kd) (e1 : B p 1 = se) (e2 : (if kd.toInt = 4 then B p 9 else B p 3) = le) : CMP x n B Z A (uA (uA A 8 d') 9 e') := by
  have hr : R (x + 56 + 10 * n) 2 = x + 59 + 10 * n := (hS.2.1 n hn).2.2.2.1
  obtain ⟨h, hh, h1, h2, h3⟩ := hns n hn
  have hI1 := hI n hn
  rcases e_complete hc (by rw [hr]; omega) with ⟨c1, rfl⟩ | ⟨c1, k, c, hk, hc1, hc2, rfl⟩
  · rcases hd2 with ⟨d1, rfl, rfl⟩ | ⟨d1, -⟩
    · rw [uu_id]; exact CMP.rf hns hI
    · rw [h2] at c1; exact absurd c1 d1
  · rcases hd2 with ⟨d1, -⟩ | ⟨d1, m, d, hm, hd1, hd2, rfl, rfl⟩
    · rw [h2] at c1; exact absurd d1 c1
    · rw [e0, e1, e2, hr]
      rw [h2] at hk hc1 hc2
      have ecd : c = d := by rw [hc2, hd2]
      subst ecd
      refine ⟨fun m2 hm2 => ?_, fun m2 hm2 => ?_, fun a h4 h5 => by rw [uA_n h4, uA_n h5], fun j h4 h5 => by rw [uA_n h5, uA_n h4]⟩
      · by_cases e : m2 = n
        · subst e
          refine ⟨h, hh, by rw [uA_s, upd_n (by decide)]; exact h1, by rw [uA_s, upd_s]; exact upd_s.symm, fun i p2 hi hp2 => ?_⟩
          show uA (uA B _ _) _ _ (x + 59 + 10 * m2) _ = w5 (A 9) m _ _ _ _ _ _
          have hi : (i : Int) < (upd (A 8) m2 c m2).toInt := hi
          rw [upd_s] at hi
          rw [uA_n (by omega), uA_s]
          by_cases e : (i : Int) = (A 8 m2).toInt
          · rw [show 5 * ((h + i) % 16) + p2 = k + p2 by omega, show 80 * m2 + 5 * i + p2 = m + p2 by omega]
            exact w5_i hp2
          · rw [w5_o (by omega), w5_o (by omega)]
            exact h3 i p2 (by omega) hp2
        · refine (hns m2 hm2).cg (by rw [uA_n (by omega), uA_n (by omega)]) (by rw [uA_n (by omega), uA_n (by omega)]) (upd_n e) (fun k2 h4 h5 => w5_o (by omega)) (hI m2 hm2).2
      · show 0 ≤ (upd (A 8) n c m2).toInt ∧ (upd (A 8) n c m2).toInt ≤ 16
        by_cases e : m2 = n
        · subst e; rw [upd_s]; omega
        · rw [upd_n e]; exact hI m2 hm2
theorem s_firstQ2 {x q : Nat} {G : Nat → Nat} {B : AA} {R : RR} {A : AA} (hS : SHX x R) (hq : q < 4) (hns : ∀ m, m < 2 → NS x m B (A 8) (A 9)) (hI : I3 (A 8)) {k : Nat} {p st : Int32} {Z : AA} {d' e' : Nat → Int32} (hp : (q : Int) = p.toInt) (hb0 : B (x + 78 + 17 * q) 0 = p) (hrow : ∀ h : Nat, (h : Int) = (B (x + 78 + 17 * q) 3).toInt → RWQ (B (x + 80 + 17 * q + h % 4)) A k) (h3 : 0 ≤ (B (x + 78 + 17 * q) 3).toInt ∧ (B (x + 78 + 17 * q) 3).toInt ≤ 3) (hc : C_X5_completeFirst G B R (x + 78 + 17 * q) st Z) (hd : CPL (A 8) (A 9) (q % 2) p (A 22 k) (A 28 k) st (A 24 k) d' e') : ∃ U : AA, CMP x (q % 2) B U A (uA (uA A 8 d') 9 e') ∧ ∃ h' c' : Int32, h'.toInt = ((B (x + 78 + 17 * q) 3).toInt + 1) % 4 ∧ c'.toInt = (B (x + 78 + 17 * q) 4).toInt - 1 ∧ c' = B (x + 78 + 17 * q) 4 - 1 ∧ Z = uA U (x + 78 + 17 * q) (upd (upd (B (x + 78 + 17 * q)) 3 h') 4 c') := by
  obtain ⟨r, U, h', c', hat, hco, e1, e2, e3, rfl⟩ := e_first hc
  obtain ⟨h, hh⟩ : ∃ h : Nat, (h : Int) = (B (x + 78 + 17 * q) 3).toInt := ⟨_, Int.toNat_of_nonneg h3.1⟩
  have er := e_atQ hS hq hat hh (k := 0) (by decide)
  have hw := hrow h hh
  have h4 : r = x + 80 + 17 * q + h % 4 := by rw [er]; rfl
  rw [← h4] at hw
  rw [hb0, (hS.2.2.2.2.1 q hq).1] at hco
  have c := s_complete2 hS (by omega) hns hI hco hd hw.1 hw.2.1 (by rw [if_neg (by have := hw.2.2.2.2.2.2.2.2.2.2; omega)]; exact hw.2.2.2.1)
  refine ⟨U, c, h', c', e1, e2, e3, ?_⟩
  rw [c.2.2.1 (x + 78 + 17 * q) (by omega) (by omega)]
theorem s_firstV2 {x q : Nat} {G : Nat → Nat} {B : AA} {R : RR} {A : AA} (hS : SHX x R) (hq : q < 4) (hns : ∀ m, m < 2 → NS x m B (A 8) (A 9)) (hI : I3 (A 8)) {k : Nat} {p st : Int32} {Z : AA} {d' e' : Nat → Int32} (hp : (q : Int) = p.toInt) (hb0 : B (x + 88 + 17 * q) 0 = p) (hrow : ∀ h : Nat, (h : Int) = (B (x + 88 + 17 * q) 3).toInt → RWV (B (x + 90 + 17 * q + h % 4)) A k) (h3 : 0 ≤ (B (x + 88 + 17 * q) 3).toInt ∧ (B (x + 88 + 17 * q) 3).toInt ≤ 3) (hc : C_X5_completeFirst G B R (x + 88 + 17 * q) st Z) (hd : CPL (A 8) (A 9) (q % 2) p 4 (A 34 k) st (A 35 k) d' e') : ∃ U : AA, CMP x (q % 2) B U A (uA (uA A 8 d') 9 e') ∧ ∃ h' c' : Int32, h'.toInt = ((B (x + 88 + 17 * q) 3).toInt + 1) % 4 ∧ c'.toInt = (B (x + 88 + 17 * q) 4).toInt - 1 ∧ c' = B (x + 88 + 17 * q) 4 - 1 ∧ Z = uA U (x + 88 + 17 * q) (upd (upd (B (x + 88 + 17 * q)) 3 h') 4 c') := by
  obtain ⟨r, U, h', c', hat, hco, e1, e2, e3, rfl⟩ := e_first hc
  obtain ⟨h, hh⟩ : ∃ h : Nat, (h : Int) = (B (x + 88 + 17 * q) 3).toInt := ⟨_, Int.toNat_of_nonneg h3.1⟩
  have er := e_atV hS hq hat hh (k := 0) (by decide)
  have hw := hrow h hh
  have h4 : r = x + 90 + 17 * q + h % 4 := by rw [er]; rfl
  rw [← h4] at hw
  rw [hb0, (hS.2.2.2.2.2.2.1 q hq).1] at hco
  have c := s_complete2 hS (by omega) hns hI hco hd hw.1 hw.2.1 (by rw [if_pos (by decide)]; exact hw.2.2.2.2)
  refine ⟨U, c, h', c', e1, e2, e3, ?_⟩
  rw [c.2.2.1 (x + 88 + 17 * q) (by omega) (by omega)]
theorem stepQ2 {x q h i : Nat} {G : Nat → Nat} {B : AA} {R : RR} {A Y Ay : AA} (hS : SHX x R) (hq : q < 4) {p st : Int32} {Z : AA} {d' e' : Nat → Int32} (hp : (q : Int) = p.toInt) (hb0 : B (x + 78 + 17 * q) 0 = p) (hT : STK x (q % 2) (x + 78 + 17 * q) h i B A Y Ay) (hw : RWQ (B (x + 80 + 17 * q + (h + i) % 4)) A (4 * q + i)) (hc : C_X5_completeFirst G Y R (x + 78 + 17 * q) st Z) (hd : CPL (Ay 8) (Ay 9) (q % 2) p (A 22 (4 * q + i)) (A 28 (4 * q + i)) st (A 24 (4 * q + i)) d' e') : STK x (q % 2) (x + 78 + 17 * q) h (i + 1) B A Z (uA (uA Ay 8 d') 9 e') := by
  obtain ⟨t1, t2, t3, t4, t5, t6, t7⟩ := hT
  rw [← t4 22 (by decide) (by decide), ← t4 28 (by decide) (by decide), ← t4 24 (by decide) (by decide)] at hd
  obtain ⟨U, hU, h', c', e1, e2, e3, rfl⟩ := s_firstQ2 hS hq t1 t2 hp ((t7 0 (by decide) (by decide)).trans hb0) (fun h2 hh2 => by
    obtain rfl : h2 = (h + i) % 4 := by omega
    rw [show (h + i) % 4 % 4 = (h + i) % 4 by omega]
    exact hw.cg (t3 _ (by omega) (by omega) (by omega)) (fun j h1 h2 => by rw [t4 j (by omega) (by omega)])) (by omega) hc hd
  refine ⟨fun m hm => ?_, hU.2.1, fun a h1 h2 h3 => ?_, fun j h1 h2 => (hU.2.2.2 j h1 h2).trans (t4 j h1 h2), ?_, ?_, fun j h1 h2 => ?_⟩
  · exact (hU.1 m hm).cg (uA_n (by omega)) (uA_n (by omega)) rfl (fun _ _ _ => rfl) (hU.2.1 m hm).2
  · rw [uA_n h3, hU.2.2.1 a h1 h2, t3 a h1 h2 h3]
  · rw [uA_s, upd_n (by decide), upd_s]; omega
  · rw [uA_s, upd_s]; omega
  · rw [uA_s, upd_n h2, upd_n h1, t7 j h1 h2]
theorem stepV2 {x q h i : Nat} {G : Nat → Nat} {B : AA} {R : RR} {A Y Ay : AA} (hS : SHX x R) (hq : q < 4) {p st : Int32} {Z : AA} {d' e' : Nat → Int32} (hp : (q : Int) = p.toInt) (hb0 : B (x + 88 + 17 * q) 0 = p) (hT : STK x (q % 2) (x + 88 + 17 * q) h i B A Y Ay) (hw : RWV (B (x + 90 + 17 * q + (h + i) % 4)) A (4 * q + i)) (hc : C_X5_completeFirst G Y R (x + 88 + 17 * q) st Z) (hd : CPL (Ay 8) (Ay 9) (q % 2) p 4 (A 34 (4 * q + i)) st (A 35 (4 * q + i)) d' e') : STK x (q % 2) (x + 88 + 17 * q) h (i + 1) B A Z (uA (uA Ay 8 d') 9 e') := by
  obtain ⟨t1, t2, t3, t4, t5, t6, t7⟩ := hT
  rw [← t4 34 (by decide) (by decide), ← t4 35 (by decide) (by decide)] at hd
  obtain ⟨U, hU, h', c', e1, e2, e3, rfl⟩ := s_firstV2 hS hq t1 t2 hp ((t7 0 (by decide) (by decide)).trans hb0) (fun h2 hh2 => by
    obtain rfl : h2 = (h + i) % 4 := by omega
    rw [show (h + i) % 4 % 4 = (h + i) % 4 by omega]
    exact hw.cg (t3 _ (by omega) (by omega) (by omega)) (fun j h1 h2 => by rw [t4 j (by omega) (by omega)])) (by omega) hc hd
  refine ⟨fun m hm => ?_, hU.2.1, fun a h1 h2 h3 => ?_, fun j h1 h2 => (hU.2.2.2 j h1 h2).trans (t4 j h1 h2), ?_, ?_, fun j h1 h2 => ?_⟩
  · exact (hU.1 m hm).cg (uA_n (by omega)) (uA_n (by omega)) rfl (fun _ _ _ => rfl) (hU.2.1 m hm).2
  · rw [uA_n h3, hU.2.2.1 a h1 h2, t3 a h1 h2 h3]
  · rw [uA_s, upd_n (by decide), upd_s]; omega
  · rw [uA_s, upd_s]; omega
  · rw [uA_s, upd_n h2, upd_n h1, t7 j h1 h2]
/-- how many numbers the first c requests take -/
def SN (Z : Nat → Int32) (q : Nat) : Nat → Int
  | 0 => 0
  | c + 1 => SN Z q c + NB Z (4 * q + c)
theorem PJ.sn {n : Int} {F Z : Nat → Int32} {q : Nat} {fo ol cu : Int32} (h : PJ n F Z q fo ol cu) : ∃ d : Int, 0 ≤ d ∧ (0 < n → d < SN Z q 1) ∧ (∀ i : Nat, (i : Int) < n → ∀ m : Int, (ol.toInt + m - (F (4 * q + i)).toInt) % 64 = (d + m - SN Z q i) % 64) ∧ d + (cu.toInt - ol.toInt) % 64 ≤ SN Z q n.toNat ∧ (∀ i : Nat, (i : Int) < n → 1 ≤ NB Z (4 * q + i) ∧ NB Z (4 * q + i) ≤ 3) ∧ SN Z q n.toNat ≤ 12 := by
  obtain ⟨n0, n4, a, o, c, hR, h0, h1, h2, h3, e1, e2, e3⟩ := h
  have hm : ∀ i : Nat, (i : Int) < n → a (i + 1) = a i + NB Z (4 * q + i) ∧ 1 ≤ NB Z (4 * q + i) ∧ NB Z (4 * q + i) ≤ 3 := fun i hi => by
    obtain ⟨e1, e2, e3, _⟩ := hR i hi
    exact ⟨e1, pj_N ⟨e2, e3⟩⟩
  have hs : ∀ i : Nat, (i : Int) ≤ n → a i = a 0 + SN Z q i := by
    intro i
    induction i with
    | zero => intro _; show a 0 = a 0 + 0; omega
    | succ i ih =>
      intro hi
      have k1 := ih (by omega)
      have k2 := (hm i (by omega)).1
      show a (i + 1) = a 0 + (SN Z q i + NB Z (4 * q + i))
      omega
  have t := pj_mono hm n.toNat 0 (by omega)
  rw [Nat.zero_add] at t
  have hn := hs n.toNat (by omega)
  refine ⟨o - a 0, by omega, fun hp => ?_, fun i hi m => ?_, ?_, fun i hi => (hm i hi).2, by omega⟩
  · have k1 := h3 hp
    have k2 := hs 1 (by omega)
    omega
  · have k1 := hs i (by omega)
    have k2 := (hR i hi).2.2.2
    rw [e2, k2]
    omega
  · rw [e2, e3]
    omega
/-- sums grow -/
theorem sn_le {Z : Nat → Int32} {q : Nat} {n : Int} (h : ∀ i : Nat, (i : Int) < n → 1 ≤ NB Z (4 * q + i) ∧ NB Z (4 * q + i) ≤ 3) : ∀ k i : Nat, ((i + k : Nat) : Int) ≤ n → SN Z q i + k ≤ SN Z q (i + k) := by
  intro k
  induction k with
  | zero => intro i _; simp
  | succ k ih =>
    intro i hi
    have h1 := ih i (by omega)
    have h2 := h (i + k) (by omega)
    rw [show i + (k + 1) = i + k + 1 by omega]
    show _ ≤ SN Z q (i + k) + NB Z (4 * q + (i + k))
    omega
theorem r_dropRequest {X : AA} {cd pk p : Int32} {Z : AA} {cdz pkz : Int32} {n : Nat} (h : D_X10_dropRequest X cd pk p Z cdz pkz) (hn : (n : Int) = p.toInt) : (∃ x : Int32, x = X 20 n - 1 ∧ x.toInt = (X 20 n).toInt - 1 ∧ Z 20 = upd (X 20) n x) ∧ (∀ j, 22 ≤ j → j ≤ 29 → ∃ b : Nat, (b : Int) = 4 * (n : Int) + (X 20 n).toInt - 1 ∧ Sh (X j) (Z j) (4 * n) b) ∧ ∀ j, ¬ (j = 20 ∨ 22 ≤ j ∧ j ≤ 29) → Z j = X j := by
  rcases h with ⟨n_1, hn_1, x_7, ex_7, fx_7, g_8, rfl, x_9, ex_9, fx_9, ix_10, u_10, c1, c2, c3, x_13, ex_13, fx_13, c4, rfl, rfl, rfl⟩
  obtain rfl : n_1 = n := by omega
  obtain ⟨b, hb, s1, s2, s3, s4, s5, s6, s7, s8⟩ := c3
  refine ⟨⟨x_7, ex_7, fx_7, rfl⟩, fun j h1 h2 => ⟨b, by omega, ?_⟩, fun j hj => ?_⟩
  · rcases (show j = 22 ∨ j = 23 ∨ j = 24 ∨ j = 25 ∨ j = 26 ∨ j = 27 ∨ j = 28 ∨ j = 29 by omega) with rfl | rfl | rfl | rfl | rfl | rfl | rfl | rfl
    · exact s3
    · exact s4
    · exact s2
    · exact s5
    · exact s6
    · exact s7
    · exact s8
    · exact s1
  · rw [uA_n (by omega), uA_n (by omega), uA_n (by omega), uA_n (by omega), uA_n (by omega), uA_n (by omega), uA_n (by omega), uA_n (by omega), uA_n (by omega)]
def NA1 (j : Nat) : Prop := j = 8 ∨ j = 9 ∨ j = 12 ∨ (15 ≤ j ∧ j ≤ 18) ∨ j = 20 ∨ (22 ≤ j ∧ j ≤ 29)
theorem uA16 {A : AA} {f1 f2 f3 f4 f5 f6 f7 f8 f9 f10 f11 f12 f13 f14 f15 f16 : Nat → Int32} {j : Nat} (h : ¬ NA1 j) : (uA (uA (uA (uA (uA (uA (uA (uA (uA (uA (uA (uA (uA (uA (uA (uA A 8 f1) 9 f2) 12 f3) 15 f4) 16 f5) 17 f6) 18 f7) 20 f8) 22 f9) 23 f10) 24 f11) 25 f12) 26 f13) 27 f14) 28 f15) 29 f16) j = A j := by
  unfold NA1 at h
  rw [uA_n (by omega), uA_n (by omega), uA_n (by omega), uA_n (by omega), uA_n (by omega), uA_n (by omega), uA_n (by omega), uA_n (by omega), uA_n (by omega), uA_n (by omega), uA_n (by omega), uA_n (by omega), uA_n (by omega), uA_n (by omega), uA_n (by omega), uA_n (by omega)]
theorem j22 {P : Nat → Prop} (h1 : P 22) (h2 : P 23) (h3 : P 24) (h4 : P 25) (h5 : P 26) (h6 : P 27) (h7 : P 28) (h8 : P 29) (j : Nat) (k1 : 22 ≤ j) (k2 : j ≤ 29) : P j := by
  rcases (show j = 22 ∨ j = 23 ∨ j = 24 ∨ j = 25 ∨ j = 26 ∨ j = 27 ∨ j = 28 ∨ j = 29 by omega) with rfl | rfl | rfl | rfl | rfl | rfl | rfl | rfl <;> assumption
/-- one number is answered -/
def AN1 (A : AA) (n : Nat) (p : Int32) (Z : AA) : Prop := (∃ o' : Int32, o'.toInt = ((A 12 n).toInt + 1) % 64 ∧ Z 12 = upd (A 12) n o') ∧ Z 15 = upd (A 15) n 0 ∧ Z 16 = upd (A 16) n 0 ∧ Z 17 = upd (A 17) n 0 ∧ Z 18 = upd (A 18) n 0 ∧ (∀ j, ¬ NA1 j → Z j = A j) ∧ ((¬ (farI (A 29 (4 * n)) (A 12 n)).toInt = NB (A 24) (4 * n) - 1 ∧ Z 8 = A 8 ∧ Z 9 = A 9 ∧ Z 20 = A 20 ∧ ∀ j, 22 ≤ j → j ≤ 29 → Z j = A j) ∨ ((farI (A 29 (4 * n)) (A 12 n)).toInt = NB (A 24) (4 * n) - 1 ∧ CPL (A 8) (A 9) (n % 2) p (A 22 (4 * n)) (A 28 (4 * n)) 0 (A 24 (4 * n)) (Z 8) (Z 9) ∧ (∃ x : Int32, x = A 20 n - 1 ∧ x.toInt = (A 20 n).toInt - 1 ∧ Z 20 = upd (A 20) n x) ∧ ∀ j, 22 ≤ j → j ≤ 29 → ∃ b : Nat, (b : Int) = 4 * (n : Int) + (A 20 n).toInt - 1 ∧ Sh (A j) (Z j) (4 * n) b))
theorem r_answerOne {A : AA} {cd pk p : Int32} {Z : AA} {cdz pkz : Int32} {n : Nat} (h : D_X10_answerOne A cd pk p Z cdz pkz) (hn : (n : Int) = p.toInt) : cdz = cd ∧ pkz = pk ∧ AN1 A n p Z := by
  rcases h with ⟨n_1, hn_1, r_4, c1, c2, c3, x_9, ex_9, r_10, hnumbersOf, c4, c5, x_11, ex_11, fx_11, c6, x_14, ex_14, fx_14, x_15, ex_15, fx_15, g_16, rfl, g_17, rfl, g_18, rfl, g_19, rfl, g_20, rfl, rfl, rfl, rfl⟩ | ⟨n_1, hn_1, r_4, c1, c2, c3, x_9, ex_9, r_10, hnumbersOf, c4, c5, x_11, ex_11, fx_11, fx_9, x_24, ex_24, fx_24, x_25, ex_25, fx_25, g_26, rfl, g_27, rfl, g_28, rfl, g_29, rfl, g_30, rfl, ur_41, hcomplete, c6, ur_42, hdropRequest, c7, c8, c9, rfl, rfl, rfl⟩
  · obtain rfl : n_1 = n := by omega
    have e5 := c5 (4 * n_1) c3
    refine ⟨rfl, rfl, ⟨_, by rw [fx_15, fx_14], rfl⟩, rfl, rfl, rfl, rfl, fun j hj => uA16 hj, Or.inl ⟨fun e => c6 ?_, rfl, rfl, rfl, j22 rfl rfl rfl rfl rfl rfl rfl rfl⟩⟩
    rw [fx_11, e5, ← e, ex_9]; rfl
  · obtain rfl : n_1 = n := by omega
    have e5 := c5 (4 * n_1) c3
    have hC := r_cpl hcomplete (nd2 hn)
    obtain ⟨d1, d2, d3⟩ := r_dropRequest hdropRequest hn
    refine ⟨rfl, rfl, ⟨_, by rw [fx_25, fx_24], rfl⟩, rfl, rfl, rfl, rfl, fun j hj => uA16 hj, Or.inr ⟨?_, hC, d1, j22 (d2 22 (by decide) (by decide)) (d2 23 (by decide) (by decide)) (d2 24 (by decide) (by decide)) (d2 25 (by decide) (by decide)) (d2 26 (by decide) (by decide)) (d2 27 (by decide) (by decide)) (d2 28 (by decide) (by decide)) (d2 29 (by decide) (by decide))⟩⟩
    rw [← e5, ← fx_11, ← fx_9, ex_9]; rfl
