section
theorem EMC.cgc {x : Nat} {pm : Nat → Nat} {B Z : AA} {to kd nm sz mk pl va : Int32} {c c' : Nat → Int32} (h : EMC x pm B Z to kd nm sz mk pl va c) (hc : (kd.toInt = 0 ∨ kd.toInt = 1 ∨ kd.toInt = 4) → ∀ k : Nat, k < 4 → (k : Int) < sz.toInt → c k = c' k) : EMC x pm B Z to kd nm sz mk pl va c' := by
  rcases h with h | ⟨n, h1, h2, d, h3, h4, h5, h6, h7, h8⟩
  · exact Or.inl h
  · exact Or.inr ⟨n, h1, h2, d, h3, h4, h5, h6, fun e k k1 k2 => (h7 e k k1 k2).trans (hc e k k1 k2), h8⟩
theorem EMR.pk {A A' : AA} {pk pk' to kd nm sz mk pl va : Int32} {c : Nat → Int32} (h : EMR A A' pk pk' to kd nm sz mk pl va c) (hp : 0 ≤ pk.toInt ∧ pk.toInt ≤ 24) : 0 ≤ pk'.toInt ∧ pk'.toInt ≤ 24 := by
  rcases h with ⟨-, -, rfl⟩ | ⟨n, h1, h2, -, h4, -⟩
  · exact hp
  · omega
/-- the fabric's arrays of one state, all else of another -/
def mixF (A A2 : AA) : AA := fun j => if 41 ≤ j ∧ j ≤ 48 then A2 j else A j
theorem mixF_o {A A2 : AA} {j : Nat} (h : ¬ (41 ≤ j ∧ j ≤ 48)) : mixF A A2 j = A j := if_neg h
theorem mixF_i {A A2 : AA} {j : Nat} (h : 41 ≤ j ∧ j ≤ 48) : mixF A A2 j = A2 j := if_pos h
/-- a packet is sent on both sides -/
theorem SIM.emit {x : Nat} {t0 t1 t2 : Int32} {B U : AA} {R : RR} {A A0 A2 : AA} {pk pk' : Int32} (h : SIM x t0 t1 t2 B R A pk) (hV : RW A pk) {to kd nm sz mk pl va : Int32} {c : Nat → Int32} (h0 : ∀ j, 41 ≤ j → j ≤ 48 → A0 j = A j) (hE : ∀ (pm : Nat → Nat) (tk : Nat), DYN x R pm tk → EMC x pm B U to kd nm sz mk pl va c) (hR : EMR A0 A2 pk pk' to kd nm sz mk pl va c) (hv : PKV kd nm sz mk) : SIM x t0 t1 t2 U R (mixF A A2) pk' ∧ RW (mixF A A2) pk' ∧ (∀ tk, R (x + 1) 2 = x + 3 + 2 * tk → TKP x tk B A → TKP x tk U (mixF A A2)) ∧ ∀ a, ¬ (x + 1 ≤ a ∧ a < x + 55) → U a = B a := by
  have hh := h
  obtain ⟨hS, ⟨pm, tk, hD, hF⟩, -⟩ := hh
  have hpm := hD.2.2.2.2.1
  have hF0 : FB x pm B A0 pk := hF.cg (fun _ _ _ => rfl) h0 hV.2.2.2 (fun i hi => (hpm i hi).1)
  obtain ⟨f1, f2, f3, f4⟩ := hF0.emit hD (hE pm tk hD) hR hv
  have hp := EMR.pk hR hV.2.2
  have hF1 : FB x pm U (mixF A A2) pk' := f1.cg (fun _ _ _ => rfl) (fun j a b => mixF_i ⟨a, b⟩) hp.2 (fun i hi => (hpm i hi).1)
  refine ⟨h.fbw hV hS ⟨pm, tk, hD, hF1⟩ f3 (fun j hj => mixF_o (by omega)), ⟨?_, ?_, hp⟩, fun tk2 e ht => ?_, f3⟩
  · rw [mixF_o (by omega)]; exact hV.1
  · rw [mixF_o (by omega), mixF_o (by omega)]; exact hV.2.1
  · obtain rfl : tk2 = tk := by have := hD.1; omega
    have ht0 : TKP x tk2 B A0 := ht.cg hD.2.2.1 (fun _ _ _ => rfl) h0
    exact (f2 ht0).cg hD.2.2.1 (fun _ _ _ => rfl) (fun j a b => mixF_i ⟨a, b⟩)
end
section
/-- a completion, by the two arrays alone -/
def CPL (d e : Nat → Int32) (nd : Nat) (q kd se st le : Int32) (d' e' : Nat → Int32) : Prop := ((d nd).toInt = 16 ∧ d' = d ∧ e' = e) ∨ ((d nd).toInt ≠ 16 ∧ ∃ (m : Nat) (c : Int32), (m : Int) = 80 * (nd : Int) + 5 * (d nd).toInt ∧ c.toInt = (d nd).toInt + 1 ∧ c = d nd + 1 ∧ d' = upd d nd c ∧ e' = w5 e m q kd se st le)
theorem r_cpl {A : AA} {cd pk q kd se st le : Int32} {Z : AA} {cdz pkz : Int32} {n : Nat} (h : D_X10_complete A cd pk q kd se st le Z cdz pkz) (hn : (n : Int) = q.toInt % 2) : CPL (A 8) (A 9) n q kd se st le (Z 8) (Z 9) := by
  obtain ⟨-, -, h⟩ := r_complete h hn
  rcases h with ⟨a, rfl⟩ | ⟨a, m, c, b1, b2, b3, rfl⟩
  · exact Or.inl ⟨a, rfl, rfl⟩
  · exact Or.inr ⟨a, m, c, b1, b2, b3, rfl, rfl⟩
theorem s_complete2 {x n : Nat} {G : Nat → Nat} {B : AA} {R : RR} {A : AA} (hS : SHX x R) (hn : n < 2) (hns : ∀ m, m < 2 → NS x m B (A 8) (A 9)) (hI : I3 (A 8)) {q kd se st le : Int32} {p : Nat} {Z : AA} {d' e' : Nat → Int32} (hc : C_X1_complete G B R (x + 56 + 10 * n) q p st Z) (hd2 : CPL (A 8) (A 9) n q kd se st le d' e') (e0 : B p 0 = kd) (e1 : B p 1 = se) (e2 : (if kd.toInt = 4 then B p 9 else B p 3) = le) : CMP x n B Z A (uA (uA A 8 d') 9 e') := by
  have hr : R (x + 56 + 10 * n) 2 = x + 59 + 10 * n := (hS.2.1 n hn).2.2.2.1
  obtain ⟨h, hh, h1, h2, h3⟩ := hns n hn
  have hI1 := hI n hn
  rcases e_complete hc (by rw [hr]; omega) with ⟨c1, rfl⟩ | ⟨c1, k, c, hk, hc1, hc2, rfl⟩
  · rcases hd2 with ⟨d1, rfl, rfl⟩ | ⟨d1, -⟩
    · rw [uu_id]; exact CMP.rf hns hI
    · rw [h2] at c1; exact absurd c1 d1
  · rcases hd2 with ⟨d1, -⟩ | ⟨d1, m, d, hm, hd1, hd2, rfl, rfl⟩
    · rw [h2] at c1; exact absurd d1 c1
    · rw [e0, e1, e2, hr]
      rw [h2] at hk hc1 hc2
      have ecd : c = d := by rw [hc2, hd2]
      subst ecd
      refine ⟨fun m2 hm2 => ?_, fun m2 hm2 => ?_, fun a h4 h5 => by rw [uA_n h4, uA_n h5], fun j h4 h5 => by rw [uA_n h5, uA_n h4]⟩
      · by_cases e : m2 = n
        · subst e
          refine ⟨h, hh, by rw [uA_s, upd_n (by decide)]; exact h1, by rw [uA_s, upd_s]; exact upd_s.symm, fun i p2 hi hp2 => ?_⟩
          show uA (uA B _ _) _ _ (x + 59 + 10 * m2) _ = w5 (A 9) m _ _ _ _ _ _
          have hi : (i : Int) < (upd (A 8) m2 c m2).toInt := hi
          rw [upd_s] at hi
          rw [uA_n (by omega), uA_s]
          by_cases e : (i : Int) = (A 8 m2).toInt
          · rw [show 5 * ((h + i) % 16) + p2 = k + p2 by omega, show 80 * m2 + 5 * i + p2 = m + p2 by omega]
            exact w5_i hp2
          · rw [w5_o (by omega), w5_o (by omega)]
            exact h3 i p2 (by omega) hp2
        · refine (hns m2 hm2).cg (by rw [uA_n (by omega), uA_n (by omega)]) (by rw [uA_n (by omega), uA_n (by omega)]) (upd_n e) (fun k2 h4 h5 => w5_o (by omega)) (hI m2 hm2).2
      · show 0 ≤ (upd (A 8) n c m2).toInt ∧ (upd (A 8) n c m2).toInt ≤ 16
        by_cases e : m2 = n
        · subst e; rw [upd_s]; omega
        · rw [upd_n e]; exact hI m2 hm2
theorem s_firstQ2 {x q : Nat} {G : Nat → Nat} {B : AA} {R : RR} {A : AA} (hS : SHX x R) (hq : q < 4) (hns : ∀ m, m < 2 → NS x m B (A 8) (A 9)) (hI : I3 (A 8)) {k : Nat} {p st : Int32} {Z : AA} {d' e' : Nat → Int32} (hp : (q : Int) = p.toInt) (hb0 : B (x + 78 + 17 * q) 0 = p) (hrow : ∀ h : Nat, (h : Int) = (B (x + 78 + 17 * q) 3).toInt → RWQ (B (x + 80 + 17 * q + h % 4)) A k) (h3 : 0 ≤ (B (x + 78 + 17 * q) 3).toInt ∧ (B (x + 78 + 17 * q) 3).toInt ≤ 3) (hc : C_X5_completeFirst G B R (x + 78 + 17 * q) st Z) (hd : CPL (A 8) (A 9) (q % 2) p (A 22 k) (A 28 k) st (A 24 k) d' e') : ∃ U : AA, CMP x (q % 2) B U A (uA (uA A 8 d') 9 e') ∧ ∃ h' c' : Int32, h'.toInt = ((B (x + 78 + 17 * q) 3).toInt + 1) % 4 ∧ c'.toInt = (B (x + 78 + 17 * q) 4).toInt - 1 ∧ c' = B (x + 78 + 17 * q) 4 - 1 ∧ Z = uA U (x + 78 + 17 * q) (upd (upd (B (x + 78 + 17 * q)) 3 h') 4 c') := by
  obtain ⟨r, U, h', c', hat, hco, e1, e2, e3, rfl⟩ := e_first hc
  obtain ⟨h, hh⟩ : ∃ h : Nat, (h : Int) = (B (x + 78 + 17 * q) 3).toInt := ⟨_, Int.toNat_of_nonneg h3.1⟩
  have er := e_atQ hS hq hat hh (k := 0) (by decide)
  have hw := hrow h hh
  have h4 : r = x + 80 + 17 * q + h % 4 := by rw [er]; rfl
  rw [← h4] at hw
  rw [hb0, (hS.2.2.2.2.1 q hq).1] at hco
  have c := s_complete2 hS (by omega) hns hI hco hd hw.1 hw.2.1 (by rw [if_neg (by have := hw.2.2.2.2.2.2.2.2.2.2; omega)]; exact hw.2.2.2.1)
  refine ⟨U, c, h', c', e1, e2, e3, ?_⟩
  rw [c.2.2.1 (x + 78 + 17 * q) (by omega) (by omega)]
theorem s_firstV2 {x q : Nat} {G : Nat → Nat} {B : AA} {R : RR} {A : AA} (hS : SHX x R) (hq : q < 4) (hns : ∀ m, m < 2 → NS x m B (A 8) (A 9)) (hI : I3 (A 8)) {k : Nat} {p st : Int32} {Z : AA} {d' e' : Nat → Int32} (hp : (q : Int) = p.toInt) (hb0 : B (x + 88 + 17 * q) 0 = p) (hrow : ∀ h : Nat, (h : Int) = (B (x + 88 + 17 * q) 3).toInt → RWV (B (x + 90 + 17 * q + h % 4)) A k) (h3 : 0 ≤ (B (x + 88 + 17 * q) 3).toInt ∧ (B (x + 88 + 17 * q) 3).toInt ≤ 3) (hc : C_X5_completeFirst G B R (x + 88 + 17 * q) st Z) (hd : CPL (A 8) (A 9) (q % 2) p 4 (A 34 k) st (A 35 k) d' e') : ∃ U : AA, CMP x (q % 2) B U A (uA (uA A 8 d') 9 e') ∧ ∃ h' c' : Int32, h'.toInt = ((B (x + 88 + 17 * q) 3).toInt + 1) % 4 ∧ c'.toInt = (B (x + 88 + 17 * q) 4).toInt - 1 ∧ c' = B (x + 88 + 17 * q) 4 - 1 ∧ Z = uA U (x + 88 + 17 * q) (upd (upd (B (x + 88 + 17 * q)) 3 h') 4 c') := by
  obtain ⟨r, U, h', c', hat, hco, e1, e2, e3, rfl⟩ := e_first hc
  obtain ⟨h, hh⟩ : ∃ h : Nat, (h : Int) = (B (x + 88 + 17 * q) 3).toInt := ⟨_, Int.toNat_of_nonneg h3.1⟩
  have er := e_atV hS hq hat hh (k := 0) (by decide)
  have hw := hrow h hh
  have h4 : r = x + 90 + 17 * q + h % 4 := by rw [er]; rfl
  rw [← h4] at hw
  rw [hb0, (hS.2.2.2.2.2.2.1 q hq).1] at hco
  have c := s_complete2 hS (by omega) hns hI hco hd hw.1 hw.2.1 (by rw [if_pos (by decide)]; exact hw.2.2.2.2)
  refine ⟨U, c, h', c', e1, e2, e3, ?_⟩
  rw [c.2.2.1 (x + 88 + 17 * q) (by omega) (by omega)]
theorem stepQ2 {x q h i : Nat} {G : Nat → Nat} {B : AA} {R : RR} {A Y Ay : AA} (hS : SHX x R) (hq : q < 4) {p st : Int32} {Z : AA} {d' e' : Nat → Int32} (hp : (q : Int) = p.toInt) (hb0 : B (x + 78 + 17 * q) 0 = p) (hT : STK x (q % 2) (x + 78 + 17 * q) h i B A Y Ay) (hw : RWQ (B (x + 80 + 17 * q + (h + i) % 4)) A (4 * q + i)) (hc : C_X5_completeFirst G Y R (x + 78 + 17 * q) st Z) (hd : CPL (Ay 8) (Ay 9) (q % 2) p (A 22 (4 * q + i)) (A 28 (4 * q + i)) st (A 24 (4 * q + i)) d' e') : STK x (q % 2) (x + 78 + 17 * q) h (i + 1) B A Z (uA (uA Ay 8 d') 9 e') := by
  obtain ⟨t1, t2, t3, t4, t5, t6, t7⟩ := hT
  rw [← t4 22 (by decide) (by decide), ← t4 28 (by decide) (by decide), ← t4 24 (by decide) (by decide)] at hd
  obtain ⟨U, hU, h', c', e1, e2, e3, rfl⟩ := s_firstQ2 hS hq t1 t2 hp ((t7 0 (by decide) (by decide)).trans hb0) (fun h2 hh2 => by
    obtain rfl : h2 = (h + i) % 4 := by omega
    rw [show (h + i) % 4 % 4 = (h + i) % 4 by omega]
    exact hw.cg (t3 _ (by omega) (by omega) (by omega)) (fun j h1 h2 => by rw [t4 j (by omega) (by omega)])) (by omega) hc hd
  refine ⟨fun m hm => ?_, hU.2.1, fun a h1 h2 h3 => ?_, fun j h1 h2 => (hU.2.2.2 j h1 h2).trans (t4 j h1 h2), ?_, ?_, fun j h1 h2 => ?_⟩
  · exact (hU.1 m hm).cg (uA_n (by omega)) (uA_n (by omega)) rfl (fun _ _ _ => rfl) (hU.2.1 m hm).2
  · rw [uA_n h3, hU.2.2.1 a h1 h2, t3 a h1 h2 h3]
  · rw [uA_s, upd_n (by decide), upd_s]; omega
  · rw [uA_s, upd_s]; omega
  · rw [uA_s, upd_n h2, upd_n h1, t7 j h1 h2]
theorem stepV2 {x q h i : Nat} {G : Nat → Nat} {B : AA} {R : RR} {A Y Ay : AA} (hS : SHX x R) (hq : q < 4) {p st : Int32} {Z : AA} {d' e' : Nat → Int32} (hp : (q : Int) = p.toInt) (hb0 : B (x + 88 + 17 * q) 0 = p) (hT : STK x (q % 2) (x + 88 + 17 * q) h i B A Y Ay) (hw : RWV (B (x + 90 + 17 * q + (h + i) % 4)) A (4 * q + i)) (hc : C_X5_completeFirst G Y R (x + 88 + 17 * q) st Z) (hd : CPL (Ay 8) (Ay 9) (q % 2) p 4 (A 34 (4 * q + i)) st (A 35 (4 * q + i)) d' e') : STK x (q % 2) (x + 88 + 17 * q) h (i + 1) B A Z (uA (uA Ay 8 d') 9 e') := by
  obtain ⟨t1, t2, t3, t4, t5, t6, t7⟩ := hT
  rw [← t4 34 (by decide) (by decide), ← t4 35 (by decide) (by decide)] at hd
  obtain ⟨U, hU, h', c', e1, e2, e3, rfl⟩ := s_firstV2 hS hq t1 t2 hp ((t7 0 (by decide) (by decide)).trans hb0) (fun h2 hh2 => by
    obtain rfl : h2 = (h + i) % 4 := by omega
    rw [show (h + i) % 4 % 4 = (h + i) % 4 by omega]
    exact hw.cg (t3 _ (by omega) (by omega) (by omega)) (fun j h1 h2 => by rw [t4 j (by omega) (by omega)])) (by omega) hc hd
  refine ⟨fun m hm => ?_, hU.2.1, fun a h1 h2 h3 => ?_, fun j h1 h2 => (hU.2.2.2 j h1 h2).trans (t4 j h1 h2), ?_, ?_, fun j h1 h2 => ?_⟩
  · exact (hU.1 m hm).cg (uA_n (by omega)) (uA_n (by omega)) rfl (fun _ _ _ => rfl) (hU.2.1 m hm).2
  · rw [uA_n h3, hU.2.2.1 a h1 h2, t3 a h1 h2 h3]
  · rw [uA_s, upd_n (by decide), upd_s]; omega
  · rw [uA_s, upd_s]; omega
  · rw [uA_s, upd_n h2, upd_n h1, t7 j h1 h2]
/-- how many numbers the first c requests take -/
def SN (Z : Nat → Int32) (q : Nat) : Nat → Int
  | 0 => 0
  | c + 1 => SN Z q c + NB Z (4 * q + c)
theorem PJ.sn {n : Int} {F Z : Nat → Int32} {q : Nat} {fo ol cu : Int32} (h : PJ n F Z q fo ol cu) : ∃ d : Int, 0 ≤ d ∧ (0 < n → d < SN Z q 1) ∧ (∀ i : Nat, (i : Int) < n → ∀ m : Int, (ol.toInt + m - (F (4 * q + i)).toInt) % 64 = (d + m - SN Z q i) % 64) ∧ d + (cu.toInt - ol.toInt) % 64 ≤ SN Z q n.toNat ∧ (∀ i : Nat, (i : Int) < n → 1 ≤ NB Z (4 * q + i) ∧ NB Z (4 * q + i) ≤ 3) ∧ SN Z q n.toNat ≤ 12 := by
  obtain ⟨n0, n4, a, o, c, hR, h0, h1, h2, h3, e1, e2, e3⟩ := h
  have hm : ∀ i : Nat, (i : Int) < n → a (i + 1) = a i + NB Z (4 * q + i) ∧ 1 ≤ NB Z (4 * q + i) ∧ NB Z (4 * q + i) ≤ 3 := fun i hi => by
    obtain ⟨e1, e2, e3, _⟩ := hR i hi
    exact ⟨e1, pj_N ⟨e2, e3⟩⟩
  have hs : ∀ i : Nat, (i : Int) ≤ n → a i = a 0 + SN Z q i := by
    intro i
    induction i with
    | zero => intro _; show a 0 = a 0 + 0; omega
    | succ i ih =>
      intro hi
      have k1 := ih (by omega)
      have k2 := (hm i (by omega)).1
      show a (i + 1) = a 0 + (SN Z q i + NB Z (4 * q + i))
      omega
  have t := pj_mono hm n.toNat 0 (by omega)
  rw [Nat.zero_add] at t
  have hn := hs n.toNat (by omega)
  refine ⟨o - a 0, by omega, fun hp => ?_, fun i hi m => ?_, ?_, fun i hi => (hm i hi).2, by omega⟩
  · have k1 := h3 hp
    have k2 := hs 1 (by omega)
    omega
  · have k1 := hs i (by omega)
    have k2 := (hR i hi).2.2.2
    rw [e2, k2]
    omega
  · rw [e2, e3]
    omega
/-- sums grow -/
theorem sn_le {Z : Nat → Int32} {q : Nat} {n : Int} (h : ∀ i : Nat, (i : Int) < n → 1 ≤ NB Z (4 * q + i) ∧ NB Z (4 * q + i) ≤ 3) : ∀ k i : Nat, ((i + k : Nat) : Int) ≤ n → SN Z q i + k ≤ SN Z q (i + k) := by
  intro k
  induction k with
  | zero => intro i _; simp
  | succ k ih =>
    intro i hi
    have h1 := ih i (by omega)
    have h2 := h (i + k) (by omega)
    rw [show i + (k + 1) = i + k + 1 by omega]
    show _ ≤ SN Z q (i + k) + NB Z (4 * q + (i + k))
    omega
theorem r_dropRequest {X : AA} {cd pk p : Int32} {Z : AA} {cdz pkz : Int32} {n : Nat} (h : D_X10_dropRequest X cd pk p Z cdz pkz) (hn : (n : Int) = p.toInt) : (∃ x : Int32, x = X 20 n - 1 ∧ x.toInt = (X 20 n).toInt - 1 ∧ Z 20 = upd (X 20) n x) ∧ (∀ j, 22 ≤ j → j ≤ 29 → ∃ b : Nat, (b : Int) = 4 * (n : Int) + (X 20 n).toInt - 1 ∧ Sh (X j) (Z j) (4 * n) b) ∧ ∀ j, ¬ (j = 20 ∨ 22 ≤ j ∧ j ≤ 29) → Z j = X j := by
  rcases h with ⟨n_1, hn_1, x_7, ex_7, fx_7, g_8, rfl, x_9, ex_9, fx_9, ix_10, u_10, c1, c2, c3, x_13, ex_13, fx_13, c4, rfl, rfl, rfl⟩
  obtain rfl : n_1 = n := by omega
  obtain ⟨b, hb, s1, s2, s3, s4, s5, s6, s7, s8⟩ := c3
  refine ⟨⟨x_7, ex_7, fx_7, rfl⟩, fun j h1 h2 => ⟨b, by omega, ?_⟩, fun j hj => ?_⟩
  · rcases (show j = 22 ∨ j = 23 ∨ j = 24 ∨ j = 25 ∨ j = 26 ∨ j = 27 ∨ j = 28 ∨ j = 29 by omega) with rfl | rfl | rfl | rfl | rfl | rfl | rfl | rfl
    · exact s3
    · exact s4
    · exact s2
    · exact s5
    · exact s6
    · exact s7
    · exact s8
    · exact s1
  · rw [uA_n (by omega), uA_n (by omega), uA_n (by omega), uA_n (by omega), uA_n (by omega), uA_n (by omega), uA_n (by omega), uA_n (by omega), uA_n (by omega)]
def NA1 (j : Nat) : Prop := j = 8 ∨ j = 9 ∨ j = 12 ∨ (15 ≤ j ∧ j ≤ 18) ∨ j = 20 ∨ (22 ≤ j ∧ j ≤ 29)
theorem uA16 {A : AA} {f1 f2 f3 f4 f5 f6 f7 f8 f9 f10 f11 f12 f13 f14 f15 f16 : Nat → Int32} {j : Nat} (h : ¬ NA1 j) : (uA (uA (uA (uA (uA (uA (uA (uA (uA (uA (uA (uA (uA (uA (uA (uA A 8 f1) 9 f2) 12 f3) 15 f4) 16 f5) 17 f6) 18 f7) 20 f8) 22 f9) 23 f10) 24 f11) 25 f12) 26 f13) 27 f14) 28 f15) 29 f16) j = A j := by
  unfold NA1 at h
  rw [uA_n (by omega), uA_n (by omega), uA_n (by omega), uA_n (by omega), uA_n (by omega), uA_n (by omega), uA_n (by omega), uA_n (by omega), uA_n (by omega), uA_n (by omega), uA_n (by omega), uA_n (by omega), uA_n (by omega), uA_n (by omega), uA_n (by omega), uA_n (by omega)]
theorem j22 {P : Nat → Prop} (h1 : P 22) (h2 : P 23) (h3 : P 24) (h4 : P 25) (h5 : P 26) (h6 : P 27) (h7 : P 28) (h8 : P 29) (j : Nat) (k1 : 22 ≤ j) (k2 : j ≤ 29) : P j := by
  rcases (show j = 22 ∨ j = 23 ∨ j = 24 ∨ j = 25 ∨ j = 26 ∨ j = 27 ∨ j = 28 ∨ j = 29 by omega) with rfl | rfl | rfl | rfl | rfl | rfl | rfl | rfl <;> assumption
/-- one number is answered -/
def AN1 (A : AA) (n : Nat) (p : Int32) (Z : AA) : Prop := (∃ o' : Int32, o'.toInt = ((A 12 n).toInt + 1) % 64 ∧ Z 12 = upd (A 12) n o') ∧ Z 15 = upd (A 15) n 0 ∧ Z 16 = upd (A 16) n 0 ∧ Z 17 = upd (A 17) n 0 ∧ Z 18 = upd (A 18) n 0 ∧ (∀ j, ¬ NA1 j → Z j = A j) ∧ ((¬ (farI (A 29 (4 * n)) (A 12 n)).toInt = NB (A 24) (4 * n) - 1 ∧ Z 8 = A 8 ∧ Z 9 = A 9 ∧ Z 20 = A 20 ∧ ∀ j, 22 ≤ j → j ≤ 29 → Z j = A j) ∨ ((farI (A 29 (4 * n)) (A 12 n)).toInt = NB (A 24) (4 * n) - 1 ∧ CPL (A 8) (A 9) (n % 2) p (A 22 (4 * n)) (A 28 (4 * n)) 0 (A 24 (4 * n)) (Z 8) (Z 9) ∧ (∃ x : Int32, x = A 20 n - 1 ∧ x.toInt = (A 20 n).toInt - 1 ∧ Z 20 = upd (A 20) n x) ∧ ∀ j, 22 ≤ j → j ≤ 29 → ∃ b : Nat, (b : Int) = 4 * (n : Int) + (A 20 n).toInt - 1 ∧ Sh (A j) (Z j) (4 * n) b))
theorem r_answerOne {A : AA} {cd pk p : Int32} {Z : AA} {cdz pkz : Int32} {n : Nat} (h : D_X10_answerOne A cd pk p Z cdz pkz) (hn : (n : Int) = p.toInt) : cdz = cd ∧ pkz = pk ∧ AN1 A n p Z := by
  rcases h with ⟨n_1, hn_1, r_4, c1, c2, c3, x_9, ex_9, r_10, hnumbersOf, c4, c5, x_11, ex_11, fx_11, c6, x_14, ex_14, fx_14, x_15, ex_15, fx_15, g_16, rfl, g_17, rfl, g_18, rfl, g_19, rfl, g_20, rfl, rfl, rfl, rfl⟩ | ⟨n_1, hn_1, r_4, c1, c2, c3, x_9, ex_9, r_10, hnumbersOf, c4, c5, x_11, ex_11, fx_11, fx_9, x_24, ex_24, fx_24, x_25, ex_25, fx_25, g_26, rfl, g_27, rfl, g_28, rfl, g_29, rfl, g_30, rfl, ur_41, hcomplete, c6, ur_42, hdropRequest, c7, c8, c9, rfl, rfl, rfl⟩
  · obtain rfl : n_1 = n := by omega
    have e5 := c5 (4 * n_1) c3
    refine ⟨rfl, rfl, ⟨_, by rw [fx_15, fx_14], rfl⟩, rfl, rfl, rfl, rfl, fun j hj => uA16 hj, Or.inl ⟨fun e => c6 ?_, rfl, rfl, rfl, j22 rfl rfl rfl rfl rfl rfl rfl rfl⟩⟩
    rw [fx_11, e5, ← e, ex_9]; rfl
  · obtain rfl : n_1 = n := by omega
    have e5 := c5 (4 * n_1) c3
    have hC := r_cpl hcomplete (nd2 hn)
    obtain ⟨d1, d2, d3⟩ := r_dropRequest hdropRequest hn
    refine ⟨rfl, rfl, ⟨_, by rw [fx_25, fx_24], rfl⟩, rfl, rfl, rfl, rfl, fun j hj => uA16 hj, Or.inr ⟨?_, hC, d1, j22 (d2 22 (by decide) (by decide)) (d2 23 (by decide) (by decide)) (d2 24 (by decide) (by decide)) (d2 25 (by decide) (by decide)) (d2 26 (by decide) (by decide)) (d2 27 (by decide) (by decide)) (d2 28 (by decide) (by decide)) (d2 29 (by decide) (by decide))⟩⟩
    rw [← e5, ← fx_11, ← fx_9, ex_9]; rfl
end
section
/-- m numbers are answered, c requests with them -/
def ANS (A : AA) (q : Nat) (p : Int32) (d : Int) (m c : Nat) (Z : AA) : Prop :=
  (∃ ds es : Nat → Nat → Int32, ds 0 = A 8 ∧ es 0 = A 9 ∧ (∀ i, i < c → CPL (ds i) (es i) (q % 2) p (A 22 (4 * q + i)) (A 28 (4 * q + i)) 0 (A 24 (4 * q + i)) (ds (i + 1)) (es (i + 1))) ∧ ds c = Z 8 ∧ es c = Z 9) ∧
  ((c : Int) ≤ (A 20 q).toInt ∧ (Z 20 q).toInt = (A 20 q).toInt - c ∧ ∀ k, k ≠ q → Z 20 k = A 20 k) ∧
  (∀ j, 22 ≤ j → j ≤ 29 → (∀ i : Nat, (i : Int) + c < (A 20 q).toInt → Z j (4 * q + i) = A j (4 * q + (i + c))) ∧ ∀ k, ¬ (4 * q ≤ k ∧ k < 4 * q + 4) → Z j k = A j k) ∧
  ((Z 12 q).toInt = ((A 12 q).toInt + m) % 64 ∧ ∀ j, (j = 12 ∨ 15 ≤ j ∧ j ≤ 18) → ∀ k, k ≠ q → Z j k = A j k) ∧
  (0 < m → Z 15 q = 0 ∧ Z 16 q = 0 ∧ Z 17 q = 0 ∧ Z 18 q = 0) ∧
  (m = 0 → Z = A) ∧
  (∀ j, ¬ NA1 j → Z j = A j) ∧
  (SN (A 24) q c ≤ d + m ∧ ((c : Int) < (A 20 q).toInt → d + m < SN (A 24) q (c + 1)))
theorem ANS.zero {A : AA} {q : Nat} {p : Int32} {d : Int} (h0 : 0 ≤ d) (h1 : 0 < (A 20 q).toInt → d < SN (A 24) q 1) (hn : 0 ≤ (A 20 q).toInt) (ho : 0 ≤ (A 12 q).toInt ∧ (A 12 q).toInt ≤ 63) : ANS A q p d 0 0 A :=
  ⟨⟨fun _ => A 8, fun _ => A 9, rfl, rfl, fun i hi => by omega, rfl, rfl⟩, ⟨hn, by omega, fun _ _ => rfl⟩, fun j _ _ => ⟨fun i _ => by rw [Nat.add_zero], fun _ _ => rfl⟩, ⟨by omega, fun _ _ _ _ => rfl⟩, fun h => by omega, fun _ => rfl, fun _ _ => rfl, by show (0 : Int) ≤ _; omega, fun h => by have := h1 (by omega); show _ < SN (A 24) q 1; omega⟩
/-- what the numbers of a pair are, for the answers -/
def PJD (A : AA) (q : Nat) (d : Int) : Prop := 0 ≤ d ∧ (0 < (A 20 q).toInt → d < SN (A 24) q 1) ∧ (∀ i : Nat, (i : Int) < (A 20 q).toInt → ∀ m : Int, ((A 12 q).toInt + m - (A 29 (4 * q + i)).toInt) % 64 = (d + m - SN (A 24) q i) % 64) ∧ d + ((A 13 q).toInt - (A 12 q).toInt) % 64 ≤ SN (A 24) q (A 20 q).toInt.toNat ∧ (∀ i : Nat, (i : Int) < (A 20 q).toInt → 1 ≤ NB (A 24) (4 * q + i) ∧ NB (A 24) (4 * q + i) ≤ 3) ∧ SN (A 24) q (A 20 q).toInt.toNat ≤ 12 ∧ (∀ i : Nat, (i : Int) < (A 20 q).toInt → 0 ≤ (A 29 (4 * q + i)).toInt ∧ (A 29 (4 * q + i)).toInt ≤ 63) ∧ (0 ≤ (A 12 q).toInt ∧ (A 12 q).toInt ≤ 63) ∧ (0 ≤ (A 20 q).toInt ∧ (A 20 q).toInt ≤ 4)
theorem PJ.jd {A : AA} {q : Nat} (h : PJ (A 20 q).toInt (A 29) (A 24) q (A 11 q) (A 12 q) (A 13 q)) : ∃ d, PJD A q d := by
  obtain ⟨d, h1, h2, h3, h4, h5, h6⟩ := h.sn
  have hf := h.frng
  have rg := h.rng
  have n0 := h.1
  have n4 := h.2.1
  exact ⟨d, h1, h2, h3, h4, h5, h6, hf, rg.2.1, n0, n4⟩
/-- which request the next number belongs to -/
theorem ANS.own {A : AA} {q : Nat} {p : Int32} {d : Int} {m c : Nat} {Y : AA} (hJ : PJD A q d) (h : ANS A q p d m c Y) (hm : (m : Int) < ((A 13 q).toInt - (A 12 q).toInt) % 64) : (c : Int) < (A 20 q).toInt ∧ SN (A 24) q c ≤ d + m ∧ d + m < SN (A 24) q (c + 1) := by
  obtain ⟨-, ⟨k1, -⟩, -, -, -, -, -, k2, k3⟩ := h
  obtain ⟨j1, j2, j3, j4, j5, j6, j7, j8, j9⟩ := hJ
  have hc : (c : Int) < (A 20 q).toInt := by
    by_cases e : (c : Int) < (A 20 q).toInt
    · exact e
    · exfalso
      have e2 : (A 20 q).toInt.toNat = c := by omega
      rw [e2] at j4
      omega
  exact ⟨hc, k2, k3 hc⟩
theorem ANS.step {A : AA} {q : Nat} {p : Int32} {d : Int} {m c : Nat} {Y Z : AA} (hq : q < 4) (hJ : PJD A q d) (h : ANS A q p d m c Y) (hm : (m : Int) < ((A 13 q).toInt - (A 12 q).toInt) % 64) (hd : AN1 Y q p Z) : ∃ c', ANS A q p d (m + 1) c' Z := by
  obtain ⟨o1, o2, o3⟩ := h.own hJ hm
  obtain ⟨⟨ds, es, a1, a2, a3, a4, a5⟩, ⟨b1, b2, b3⟩, g, ⟨e1, e2⟩, f1, -, f3, -⟩ := h
  obtain ⟨j1, j2, j3, j4, j5, j6, j7, j8, j9⟩ := hJ
  obtain ⟨⟨o', y1, y2⟩, y3, y4, y5, y6, y7, y8⟩ := hd
  have hz := j5 c o1
  have hf := j7 c o1
  have cg := j3 c o1 m
  have gr := (g 29 (by decide) (by decide)).1 0 (by omega)
  have gs := (g 24 (by decide) (by decide)).1 0 (by omega)
  rw [Nat.add_zero, Nat.zero_add] at gr gs
  have eN : NB (Y 24) (4 * q) = NB (A 24) (4 * q + c) := by unfold NB; rw [gs]
  have efar : (farI (Y 29 (4 * q)) (Y 12 q)).toInt = d + m - SN (A 24) q c := by
    rw [far_m (by rw [gr]; exact hf) (by rw [e1]; omega), gr, e1]
    have s1 : SN (A 24) q (c + 1) = SN (A 24) q c + NB (A 24) (4 * q + c) := rfl
    omega
  rw [efar, eN] at y8
  have s1 : SN (A 24) q (c + 1) = SN (A 24) q c + NB (A 24) (4 * q + c) := rfl
  have hZ12 : (Z 12 q).toInt = ((A 12 q).toInt + ((m + 1 : Nat) : Int)) % 64 := by rw [y2, upd_s, y1, e1]; omega
  have hoth : ∀ j, (j = 12 ∨ 15 ≤ j ∧ j ≤ 18) → ∀ k, k ≠ q → Z j k = A j k := fun j hj k hk => by
    rw [← e2 j hj k hk]
    rcases (show j = 12 ∨ j = 15 ∨ j = 16 ∨ j = 17 ∨ j = 18 by omega) with rfl | rfl | rfl | rfl | rfl
    · rw [y2, upd_n hk]
    · rw [y3, upd_n hk]
    · rw [y4, upd_n hk]
    · rw [y5, upd_n hk]
    · rw [y6, upd_n hk]
  have hcl : 0 < m + 1 → Z 15 q = 0 ∧ Z 16 q = 0 ∧ Z 17 q = 0 ∧ Z 18 q = 0 := fun _ => ⟨by rw [y3, upd_s], by rw [y4, upd_s], by rw [y5, upd_s], by rw [y6, upd_s]⟩
  have hrest : ∀ j, ¬ NA1 j → Z j = A j := fun j hj => (y7 j hj).trans (f3 j hj)
  rcases y8 with ⟨w1, w2, w3, w4, w5⟩ | ⟨w1, w2, ⟨v, w3, w4, w5⟩, w6⟩
  · refine ⟨c, ⟨ds, es, a1, a2, a3, by rw [w2]; exact a4, by rw [w3]; exact a5⟩, ⟨b1, by rw [w4]; exact b2, fun k hk => by rw [w4]; exact b3 k hk⟩, fun j h1 h2 => by rw [w5 j h1 h2]; exact g j h1 h2, ⟨hZ12, hoth⟩, hcl, fun e => by omega, hrest, by omega, fun _ => by omega⟩
  · refine ⟨c + 1, ⟨fun i => if i ≤ c then ds i else Z 8, fun i => if i ≤ c then es i else Z 9, ?_, ?_, fun i hi => ?_, ?_, ?_⟩, ⟨by omega, ?_, fun k hk => ?_⟩, fun j h1 h2 => ⟨fun i hi => ?_, fun k hk => ?_⟩, ⟨hZ12, hoth⟩, hcl, fun e => by omega, hrest, by omega, fun e => ?_⟩
    · dsimp only; rw [if_pos (Nat.zero_le c)]; exact a1
    · dsimp only; rw [if_pos (Nat.zero_le c)]; exact a2
    · by_cases e : i = c
      · subst e
        dsimp only
        rw [if_pos (Nat.le_refl i), if_pos (Nat.le_refl i), if_neg (Nat.not_succ_le_self i), if_neg (Nat.not_succ_le_self i), a4, a5]
        have g22 := (g 22 (by decide) (by decide)).1 0 (by omega)
        have g28 := (g 28 (by decide) (by decide)).1 0 (by omega)
        rw [Nat.add_zero, Nat.zero_add] at g22 g28
        rw [← g22, ← g28, ← gs]
        exact w2
      · have q1 : i ≤ c := by omega
        have q2 : i + 1 ≤ c := by omega
        dsimp only
        rw [if_pos q1, if_pos q1, if_pos q2, if_pos q2]
        exact a3 i (by omega)
    · dsimp only; rw [if_neg (Nat.not_succ_le_self c)]
    · dsimp only; rw [if_neg (Nat.not_succ_le_self c)]
    · rw [w5, upd_s, w4, b2]; omega
    · rw [w5, upd_n hk]; exact b3 k hk
    · obtain ⟨b, hb, hs⟩ := w6 j h1 h2
      rw [hs, if_pos (by omega), Nat.add_assoc, (g j h1 h2).1 (i + 1) (by omega)]
      congr 1; omega
    · obtain ⟨b, hb, hs⟩ := w6 j h1 h2
      rw [hs, if_neg (by omega)]
      exact (g j h1 h2).2 k hk
    · have hz1 := j5 (c + 1) (by omega)
      have s2 : SN (A 24) q (c + 1 + 1) = SN (A 24) q (c + 1) + NB (A 24) (4 * q + (c + 1)) := rfl
      omega
/-- the kind of the request of a number -/
theorem ANS.kind {A : AA} {q : Nat} {p : Int32} {d : Int} {m c : Nat} {Y : AA} {cd pk w : Int32} (hq : q < 4) (hJ : PJD A q d) (h : ANS A q p d m c Y) (hm : (m : Int) < ((A 13 q).toInt - (A 12 q).toInt) % 64) (hH : HC Y cd pk p q w) : (w.toInt = 0 ∧ (A 22 (4 * q + c)).toInt < 2) ∨ (w.toInt ≠ 0 ∧ ¬ (A 22 (4 * q + c)).toInt < 2) := by
  obtain ⟨o1, o2, o3⟩ := h.own hJ hm
  obtain ⟨-, -, g, ⟨e1, -⟩, -, -, -, -⟩ := h
  obtain ⟨j1, j2, j3, j4, j5, j6, j7, j8, j9⟩ := hJ
  obtain ⟨r, ⟨i, i4, er, hl, -⟩, hc⟩ := hH
  have hz := j5 c o1
  have hf := j7 c o1
  have cg := j3 c o1 m
  have gr := (g 29 (by decide) (by decide)).1 0 (by omega)
  have gs := (g 24 (by decide) (by decide)).1 0 (by omega)
  have gk := (g 22 (by decide) (by decide)).1 0 (by omega)
  rw [Nat.add_zero, Nat.zero_add] at gr gs gk
  have eN : NB (Y 24) (4 * q) = NB (A 24) (4 * q + c) := by unfold NB; rw [gs]
  have s1 : SN (A 24) q (c + 1) = SN (A 24) q c + NB (A 24) (4 * q + c) := rfl
  have efar : (farI (Y 29 (4 * q)) (Y 12 q)).toInt = d + m - SN (A 24) q c := by
    rw [far_m (by rw [gr]; exact hf) (by rw [e1]; omega), gr, e1]
    omega
  have i0 : i = 0 := by
    by_cases e : i = 0
    · exact e
    · exfalso
      have k := hl 0 (by omega)
      rw [Nat.add_zero, eN, efar] at k
      omega
  subst i0
  rcases hc with ⟨n_3, hn_3, c1, rfl⟩ | ⟨n_3, hn_3, c1, rfl⟩
  · obtain rfl : n_3 = 4 * q := by omega
    rw [gk] at c1
    exact Or.inl ⟨by decide, c1⟩
  · obtain rfl : n_3 = 4 * q := by omega
    rw [gk] at c1
    exact Or.inr ⟨by decide, c1⟩
theorem ASR.ans {A : AA} {cd pk p : Int32} {q : Nat} {d : Int} (hq : q < 4) (hp : (q : Int) = p.toInt) (hJ : PJD A q d) : ∀ (b : Nat) (Z : AA), ASR A cd pk p q b Z → (b : Int) ≤ ((A 13 q).toInt - (A 12 q).toInt) % 64 → ∃ c, ANS A q p d b c Z ∧ ∀ j : Nat, j < b → ∃ i : Nat, (i : Int) < (A 20 q).toInt ∧ SN (A 24) q i ≤ d + j ∧ d + j < SN (A 24) q (i + 1) ∧ (A 22 (4 * q + i)).toInt < 2 := by
  intro b
  induction b with
  | zero =>
    intro Z hZ _
    have e : Z = A := hZ
    subst e
    exact ⟨0, ANS.zero hJ.1 hJ.2.1 hJ.2.2.2.2.2.2.2.2.1 hJ.2.2.2.2.2.2.2.1, fun j hj => by omega⟩
  | succ b ih =>
    intro Z hZ hb
    obtain ⟨Y, h1, h2, h3⟩ := hZ
    obtain ⟨c, k1, k2⟩ := ih Y h1 (by omega)
    have hm : (b : Int) < ((A 13 q).toInt - (A 12 q).toInt) % 64 := by omega
    obtain ⟨-, -, h4⟩ := r_answerOne h3 hp
    obtain ⟨c', k3⟩ := k1.step hq hJ hm h4
    obtain ⟨o1, o2, o3⟩ := k1.own hJ hm
    have kk := k1.kind hq hJ hm h2
    refine ⟨c', k3, fun j hj => ?_⟩
    by_cases e : j = b
    · subst e
      have iz := i_0
      exact ⟨c, o1, o2, o3, by omega⟩
    · exact k2 j (by omega)
end
section
theorem e_fia {x q hd : Nat} {G : Nat → Nat} {Y : AA} {R : RR} {r : Int32} (hS : SHX x R) (hq : q < 4) (hh : (hd : Int) = (Y (x + 78 + 17 * q) 3).toInt) (h : C_X7_firstIsAnswered G Y R (x + 77 + 17 * q) r) : (r.toInt = 0 ∧ ((Y (x + 78 + 17 * q) 4).toInt ≤ 0 ∨ ((Y (x + 77 + 17 * q) 8).toInt - (Y (x + 80 + 17 * q + hd % 4) 4).toInt) % 64 < (Y (x + 80 + 17 * q + hd % 4) 5).toInt)) ∨ (¬ r.toInt = 0 ∧ ¬ (Y (x + 78 + 17 * q) 4).toInt ≤ 0 ∧ ¬ ((Y (x + 77 + 17 * q) 8).toInt - (Y (x + 80 + 17 * q + hd % 4) 4).toInt) % 64 < (Y (x + 80 + 17 * q + hd % 4) 5).toInt) := by
  have h6 := (hS.2.2.2.1 q hq).2.2
  unfold C_X7_firstIsAnswered at h
  rw [h6] at h
  rcases h with ⟨r_4, hat, c1, rfl⟩ | ⟨r_4, hat, c1, x_10, ex_10, c2, rfl⟩ | ⟨r_4, hat, c1, x_10, ex_10, c2, rfl⟩
  · exact Or.inl ⟨by decide, Or.inl c1⟩
  · have er := e_atQ hS hq hat hh (k := 0) (by decide)
    rw [Nat.add_zero] at er
    subst er
    rw [ex_10, dst] at c2
    exact Or.inl ⟨by decide, Or.inr c2⟩
  · have er := e_atQ hS hq hat hh (k := 0) (by decide)
    rw [Nat.add_zero] at er
    subst er
    rw [ex_10, dst] at c2
    exact Or.inr ⟨by decide, c1, c2⟩
/-- an answer in the class is as many single ones as the reference gives -/
theorem s_answer {x q : Nat} {G : Nat → Nat} {t0 t1 t2 : Int32} (ht : 2 ≤ t0.toInt) {B : AA} {R : RR} {A : AA} {pk : Int32} (h : SIM x t0 t1 t2 B R A pk) (hV : RW A pk) (hq : q < 4) (hst : (A 10 q).toInt = 1) {p num : Int32} (hp : (q : Int) = p.toInt) {d : Int} (hJ : PJD A q d) {m c : Nat} (hm : (m : Int) = num.toInt) (hmd : (m : Int) ≤ ((A 13 q).toInt - (A 12 q).toInt) % 64) {A' : AA} (hA : ANS A q p d m c A') {Z : AA} (hc : C_X7_answer G B R (x + 77 + 17 * q) num Z) : SIM x t0 t1 t2 Z R A' pk ∧ (∀ a, x + 1 ≤ a → a < x + 55 → Z a = B a) := by
  have hh := h
  obtain ⟨hS, -, -, -, hN, hPQ⟩ := hh
  obtain ⟨hC, hPS, hRQ, hRV, hAD⟩ := hPQ q hq
  have hPS0 := hPS
  obtain ⟨p1, p2, p3, p4, p5, p6, p7, p8, p9, p10⟩ := hPS
  have p2s := p2 hst
  have p4s := p4 (by omega)
  obtain ⟨hd, g1, g2, g3, g4, g5⟩ := hRQ
  have g3i := congrArg Int32.toInt g3
  obtain ⟨⟨ds, es, a1, a2, a3, a4, a5⟩, ⟨b1, b2, b3⟩, gr, ⟨e1, e2⟩, f1, f2, f3, f4, f5⟩ := hA
  obtain ⟨j1, j2, j3, j4, j5, j6, j7, j8, j9⟩ := hJ
  obtain ⟨n, hn⟩ : ∃ n : Nat, (n : Int) = (A 20 q).toInt := ⟨_, Int.toNat_of_nonneg j9.1⟩
  have hnn : (A 20 q).toInt.toNat = n := by omega
  rw [hnn] at j4 j6
  have hsl := sn_le j5
  by_cases m0 : m = 0
  · have e := f2 m0
    subst e
    have ez : Z = B := by
      rcases hc with ⟨c1, x_3, ex_3, B_4, rfl, B_6, rfl, B_8, rfl, B_10, rfl, B_12, rfl, r_15, hfirstIsAnswered, c2, rfl⟩ | ⟨c1, x_3, ex_3, B_4, rfl, B_6, rfl, B_8, rfl, B_10, rfl, B_12, rfl, r_15, hfirstIsAnswered, c2, U_23, hF, hcompleteFirst, r_26, hfirstIsAnswered_1, c3, rfl⟩ | ⟨c1, x_3, ex_3, B_4, rfl, B_6, rfl, B_8, rfl, B_10, rfl, B_12, rfl, r_15, hfirstIsAnswered, c2, U_23, hF, hcompleteFirst, r_26, hfirstIsAnswered_1, c3, U_32, hF_1, hcompleteFirst_1, r_35, hfirstIsAnswered_2, c4, rfl⟩ | ⟨c1, x_3, ex_3, B_4, rfl, B_6, rfl, B_8, rfl, B_10, rfl, B_12, rfl, r_15, hfirstIsAnswered, c2, U_23, hF, hcompleteFirst, r_26, hfirstIsAnswered_1, c3, U_32, hF_1, hcompleteFirst_1, r_35, hfirstIsAnswered_2, c4, U_41, hF_2, hcompleteFirst_2, r_44, hfirstIsAnswered_3, c5, rfl⟩ | ⟨c1, x_3, ex_3, B_4, rfl, B_6, rfl, B_8, rfl, B_10, rfl, B_12, rfl, r_15, hfirstIsAnswered, c2, U_23, hF, hcompleteFirst, r_26, hfirstIsAnswered_1, c3, U_32, hF_1, hcompleteFirst_1, r_35, hfirstIsAnswered_2, c4, U_41, hF_2, hcompleteFirst_2, r_44, hfirstIsAnswered_3, c5, U_50, hF_3, hcompleteFirst_3, rfl⟩ | ⟨c1, rfl⟩
      · exfalso; omega
      · exfalso; omega
      · exfalso; omega
      · exfalso; omega
      · exfalso; omega
      · rfl
    subst ez
    exact ⟨h, fun _ _ _ => rfl⟩
  obtain ⟨q1, q2, q3, q4⟩ := f1 (by omega)
  have main : ∀ x3 : Int32, x3.toInt = ((A 12 q).toInt + m) % 64 → (∀ {i : Nat} {Y : AA} {r : Int32}, i ≤ c → STK x (q % 2) (x + 78 + 17 * q) hd i (uA B (x + 77 + 17 * q) (upd (upd (upd (upd (upd (B (x + 77 + 17 * q)) 8 x3) 10 0) 11 0) 12 0) 13 0)) A Y (uA (uA A 8 (ds i)) 9 (es i)) → C_X7_firstIsAnswered G Y R (x + 77 + 17 * q) r → (r.toInt = 0 → i = c) ∧ (¬ r.toInt = 0 → i + 1 ≤ c ∧ ∀ W, C_X5_completeFirst G Y R (x + 78 + 17 * q) 0 W → STK x (q % 2) (x + 78 + 17 * q) hd (i + 1) (uA B (x + 77 + 17 * q) (upd (upd (upd (upd (upd (B (x + 77 + 17 * q)) 8 x3) 10 0) 11 0) 12 0) 13 0)) A W (uA (uA A 8 (ds (i + 1))) 9 (es (i + 1))))) ∧ STK x (q % 2) (x + 78 + 17 * q) hd 0 (uA B (x + 77 + 17 * q) (upd (upd (upd (upd (upd (B (x + 77 + 17 * q)) 8 x3) 10 0) 11 0) 12 0) 13 0)) A (uA B (x + 77 + 17 * q) (upd (upd (upd (upd (upd (B (x + 77 + 17 * q)) 8 x3) 10 0) 11 0) 12 0) 13 0)) (uA (uA A 8 (ds 0)) 9 (es 0)) ∧ (∀ W, STK x (q % 2) (x + 78 + 17 * q) hd c (uA B (x + 77 + 17 * q) (upd (upd (upd (upd (upd (B (x + 77 + 17 * q)) 8 x3) 10 0) 11 0) 12 0) 13 0)) A W (uA (uA A 8 (ds c)) 9 (es c)) → SIM x t0 t1 t2 W R A' pk ∧ (∀ a, x + 1 ≤ a → a < x + 55 → W a = B a)) := by
    intro x3 hx3
    refine ⟨?_, ?_, ?_⟩
    · intro i Y r hic hT hf
      have hT0 := hT
      obtain ⟨s1, s2, s3, s4, s5, s6, s7⟩ := hT
      have hl : SN (A 24) q i ≤ SN (A 24) q c := by
        have := hsl (c - i) i (by omega)
        rw [show i + (c - i) = c by omega] at this
        omega
      have eH : Y (x + 77 + 17 * q) 8 = x3 := by rw [s3 _ (by omega) (by omega) (by omega), uA_s]; rfl
      rw [uA_n (by omega), g3i] at s6
      have row : ∀ k, k < n → k = i → (Y (x + 80 + 17 * q + (hd + i) % 4 % 4) 4 = A 29 (4 * q + k)) ∧ (Y (x + 80 + 17 * q + (hd + i) % 4 % 4) 5).toInt = NB (A 24) (4 * q + k) := fun k hk e => by
        subst e
        have w := g5 k (by omega)
        rw [show (hd + k) % 4 % 4 = (hd + k) % 4 by omega, s3 _ (by omega) (by omega) (by omega), uA_n (by omega)]
        exact ⟨w.2.2.2.2.1, w.2.2.2.2.2.1⟩
      have far : i < n → (x3.toInt - (A 29 (4 * q + i)).toInt) % 64 = d + m - SN (A 24) q i := fun hi => by
        have k1 := j3 i (by omega) m
        have k2 := hsl i 0 (by omega)
        rw [Nat.zero_add] at k2
        have k3 : SN (A 24) q 0 = 0 := rfl
        rw [hx3]
        omega
      have sni : SN (A 24) q (i + 1) = SN (A 24) q i + NB (A 24) (4 * q + i) := rfl
      rcases e_fia hS hq s5.symm hf with ⟨r0, k⟩ | ⟨r0, k1, k2⟩
      · refine ⟨fun _ => ?_, fun e => absurd r0 e⟩
        rcases k with k | k
        · omega
        · by_cases hi : i < n
          · obtain ⟨w1, w2⟩ := row i hi rfl
            rw [eH, w1, w2, far hi] at k
            by_cases e : i = c
            · exact e
            · exfalso
              have := hsl (c - (i + 1)) (i + 1) (by omega)
              rw [show i + 1 + (c - (i + 1)) = c by omega] at this
              omega
          · omega
      · refine ⟨fun e => absurd e r0, fun _ => ?_⟩
        have hi : i < n := by omega
        obtain ⟨w1, w2⟩ := row i hi rfl
        rw [eH, w1, w2, far hi] at k2
        have hlt : i + 1 ≤ c := by
          by_cases e : i = c
          · exfalso
            subst e
            have := f5 (by omega)
            omega
          · omega
        refine ⟨hlt, fun W hW => ?_⟩
        have T := stepQ2 hS hq hp (by rw [uA_n (by omega)]; exact i32_eq (by rw [hC.2.2.2.2.2.1]; exact hp)) hT0 (by rw [uA_n (by omega)]; exact g5 i (by omega)) hW (a3 i (by omega))
        rw [uu_89] at T
        exact T
    · rw [a1, a2, uu_id]
      exact STK.rf (fun k hk => (hN k hk).cg (uA_n (by omega)) (uA_n (by omega)) rfl (fun _ _ _ => rfl) (hV.1 k hk).2) hV.1 (by rw [uA_n (by omega)]; exact g2) g1
    · intro W hT
      obtain ⟨s1, s2, s3, s4, s5, s6, s7⟩ := hT
      rw [uA_n (by omega), g3i] at s6
      have fr : ∀ a, a ≠ x + 56 + 10 * (q % 2) → a ≠ x + 59 + 10 * (q % 2) → a ≠ (x + 78 + 17 * q) → a ≠ (x + 77 + 17 * q) → W a = B a := fun a k1 k2 k3 k4 => by rw [s3 a k1 k2 k3, uA_n k4]
      have zK : ∀ j, j ≠ 3 → j ≠ 4 → W (x + 78 + 17 * q) j = B (x + 78 + 17 * q) j := fun j k1 k2 => by rw [s7 j k1 k2, uA_n (by omega)]
      have zH : W (x + 77 + 17 * q) = upd (upd (upd (upd (upd (B (x + 77 + 17 * q)) 8 x3) 10 0) 11 0) 12 0) 13 0 := by rw [s3 _ (by omega) (by omega) (by omega), uA_s]
      have nn : ∀ {j : Nat}, ¬ NA1 j → A' j = A j := fun hj => f3 _ hj
      have n10 : A' 10 = A 10 := nn (by unfold NA1; omega)
      have n11 : A' 11 = A 11 := nn (by unfold NA1; omega)
      have n13 : A' 13 = A 13 := nn (by unfold NA1; omega)
      have n14 : A' 14 = A 14 := nn (by unfold NA1; omega)
      have n19 : A' 19 = A 19 := nn (by unfold NA1; omega)
      have n21 : A' 21 = A 21 := nn (by unfold NA1; omega)
      have n36 : A' 36 = A 36 := nn (by unfold NA1; omega)
      have hi0 := i_0
      refine ⟨h.prw hV hq (n := q % 2) (by omega) (fun a k1 k2 k3 => fr a k1 k2 (by omega) (by omega)) (fun k hk => ?_) ⟨?_, ?_, ?_, ?_, ?_⟩ (fun q' hne => ⟨fun j k1 k2 => ?_, fun j hj i hi => ?_, fun j hj i hi => ?_⟩) (fun j k1 k2 k3 => f3 j (by unfold NA1; omega)), fun a k1 k2 => fr a (by omega) (by omega) (by omega) (by omega)⟩
      · rw [← a4, ← a5]; exact s1 k hk
      · exact hC.cg (fun j hj => by rw [zH, upd_n (by omega), upd_n (by omega), upd_n (by omega), upd_n (by omega), upd_n (by omega)]) (by rw [fr _ (by omega) (by omega) (by omega) (by omega)]) (zK 0 (by decide) (by decide)) (by rw [fr _ (by omega) (by omega) (by omega) (by omega)])
      · refine PS.mk1 hPS0 hst (by rw [n10]) (fr _ (by omega) (by omega) (by omega) (by omega)) (fr _ (by omega) (by omega) (by omega) (by omega)) zH (by rw [n11]; exact p2s.1) (i32_eq (by rw [e1]; exact hx3)) (by rw [n13]; exact p2s.2.2.1) (by rw [q1]; rfl) (by rw [q2]; rfl) (by rw [q3]; rfl) (by rw [q4]; rfl) (by rw [q1, q4]; exact ⟨fun _ => by omega, fun e => by omega⟩) (by rw [q4]; exact Or.inl rfl) (by rw [n14]) (by rw [n19]) (by rw [n36])
      · refine ⟨(hd + c) % 4, by omega, s5.symm, i32_eq (by rw [s6, b2]), by rw [zK 5 (by decide) (by decide), n21]; exact g4, fun i hi => ?_⟩
        refine (g5 (i + c) (by omega)).cg ?_ (fun j k1 k2 => (gr j k1 k2).1 i (by omega))
        rw [fr _ (by omega) (by omega) (by omega) (by omega)]
        congr 1; omega
      · exact hRV.cg (fr _ (by omega) (by omega) (by omega) (by omega)) (fun i _ => fr _ (by omega) (by omega) (by omega) (by omega)) (by rw [nn (j := 30) (by unfold NA1; omega)]) (by rw [nn (j := 31) (by unfold NA1; omega)]) (fun j k1 k2 i hi => by rw [nn (j := j) (by unfold NA1; omega)]) (hV.2.1 q hq).2.2
      · exact hAD.cg (fr _ (by omega) (by omega) (by omega) (by omega)) (fr _ (by omega) (by omega) (by omega) (by omega)) (by rw [nn (j := 37) (by unfold NA1; omega)]) (fun i hi => by rw [nn (j := 38) (by unfold NA1; omega)]) (fun i hi => by rw [nn (j := 39) (by unfold NA1; omega)])
      · by_cases c1 : j = 12 ∨ 15 ≤ j ∧ j ≤ 18
        · exact Or.inl (e2 j c1 q' hne)
        by_cases c2 : j = 20
        · subst c2; exact Or.inl (b3 q' hne)
        by_cases c3 : 22 ≤ j ∧ j ≤ 29
        · exact Or.inr (Or.inl c3)
        exact Or.inl (by rw [nn (j := j) (by unfold NA1; omega)])
      · by_cases c3 : 22 ≤ j ∧ j ≤ 29
        · exact (gr j c3.1 c3.2).2 _ (by omega)
        · rw [nn (j := j) (by unfold NA1; omega)]
      · rw [nn (j := j) (by unfold NA1; omega)]
  have h6 := (hS.2.2.2.1 q hq).2.2
  have e8 : ∀ {x3 : Int32}, x3 = (B (x + 77 + 17 * q) 8 + num) &&& 63 → x3.toInt = ((A 12 q).toInt + m) % 64 := fun e => by rw [e, aft, p2s.2.1, hm]
  unfold C_X7_answer at hc
  rw [h6] at hc
  rcases hc with ⟨c1, x_3, ex_3, B_4, rfl, B_6, rfl, B_8, rfl, B_10, rfl, B_12, rfl, r_15, hfirstIsAnswered, c2, rfl⟩ | ⟨c1, x_3, ex_3, B_4, rfl, B_6, rfl, B_8, rfl, B_10, rfl, B_12, rfl, r_15, hfirstIsAnswered, c2, U_23, hF, hcompleteFirst, r_26, hfirstIsAnswered_1, c3, rfl⟩ | ⟨c1, x_3, ex_3, B_4, rfl, B_6, rfl, B_8, rfl, B_10, rfl, B_12, rfl, r_15, hfirstIsAnswered, c2, U_23, hF, hcompleteFirst, r_26, hfirstIsAnswered_1, c3, U_32, hF_1, hcompleteFirst_1, r_35, hfirstIsAnswered_2, c4, rfl⟩ | ⟨c1, x_3, ex_3, B_4, rfl, B_6, rfl, B_8, rfl, B_10, rfl, B_12, rfl, r_15, hfirstIsAnswered, c2, U_23, hF, hcompleteFirst, r_26, hfirstIsAnswered_1, c3, U_32, hF_1, hcompleteFirst_1, r_35, hfirstIsAnswered_2, c4, U_41, hF_2, hcompleteFirst_2, r_44, hfirstIsAnswered_3, c5, rfl⟩ | ⟨c1, x_3, ex_3, B_4, rfl, B_6, rfl, B_8, rfl, B_10, rfl, B_12, rfl, r_15, hfirstIsAnswered, c2, U_23, hF, hcompleteFirst, r_26, hfirstIsAnswered_1, c3, U_32, hF_1, hcompleteFirst_1, r_35, hfirstIsAnswered_2, c4, U_41, hF_2, hcompleteFirst_2, r_44, hfirstIsAnswered_3, c5, U_50, hF_3, hcompleteFirst_3, rfl⟩ | ⟨c1, rfl⟩
  · obtain ⟨key, T0, fin⟩ := main _ (e8 ex_3)
    simp only [uA_u, uA_s] at hfirstIsAnswered
    simp only [uA_u, uA_s]
    have ec := (key (i := 0) (Nat.zero_le c) T0 hfirstIsAnswered).1 c2
    subst ec
    exact fin _ T0
  · obtain ⟨key, T0, fin⟩ := main _ (e8 ex_3)
    simp only [uA_u, uA_s] at hfirstIsAnswered hcompleteFirst
    obtain ⟨l0, w0⟩ := (key (i := 0) (Nat.zero_le c) T0 hfirstIsAnswered).2 c2
    have T1 := w0 _ hcompleteFirst
    have ec := (key (i := 1) l0 T1 hfirstIsAnswered_1).1 c3
    subst ec
    exact fin _ T1
  · obtain ⟨key, T0, fin⟩ := main _ (e8 ex_3)
    simp only [uA_u, uA_s] at hfirstIsAnswered hcompleteFirst
    obtain ⟨l0, w0⟩ := (key (i := 0) (Nat.zero_le c) T0 hfirstIsAnswered).2 c2
    have T1 := w0 _ hcompleteFirst
    obtain ⟨l1, w1⟩ := (key (i := 1) l0 T1 hfirstIsAnswered_1).2 c3
    have T2 := w1 _ hcompleteFirst_1
    have ec := (key (i := 2) l1 T2 hfirstIsAnswered_2).1 c4
    subst ec
    exact fin _ T2
  · obtain ⟨key, T0, fin⟩ := main _ (e8 ex_3)
    simp only [uA_u, uA_s] at hfirstIsAnswered hcompleteFirst
    obtain ⟨l0, w0⟩ := (key (i := 0) (Nat.zero_le c) T0 hfirstIsAnswered).2 c2
    have T1 := w0 _ hcompleteFirst
    obtain ⟨l1, w1⟩ := (key (i := 1) l0 T1 hfirstIsAnswered_1).2 c3
    have T2 := w1 _ hcompleteFirst_1
    obtain ⟨l2, w2⟩ := (key (i := 2) l1 T2 hfirstIsAnswered_2).2 c4
    have T3 := w2 _ hcompleteFirst_2
    have ec := (key (i := 3) l2 T3 hfirstIsAnswered_3).1 c5
    subst ec
    exact fin _ T3
  · obtain ⟨key, T0, fin⟩ := main _ (e8 ex_3)
    simp only [uA_u, uA_s] at hfirstIsAnswered hcompleteFirst
    obtain ⟨l0, w0⟩ := (key (i := 0) (Nat.zero_le c) T0 hfirstIsAnswered).2 c2
    have T1 := w0 _ hcompleteFirst
    obtain ⟨l1, w1⟩ := (key (i := 1) l0 T1 hfirstIsAnswered_1).2 c3
    have T2 := w1 _ hcompleteFirst_1
    obtain ⟨l2, w2⟩ := (key (i := 2) l1 T2 hfirstIsAnswered_2).2 c4
    have T3 := w2 _ hcompleteFirst_2
    obtain ⟨l3, w3⟩ := (key (i := 3) l2 T3 hfirstIsAnswered_3).2 c5
    have T4 := w3 _ hcompleteFirst_3
    obtain rfl : c = 4 := by omega
    exact fin _ T4
  · exfalso; omega
end
section
theorem PJD.own {A : AA} {q : Nat} {d : Int} (hJ : PJD A q d) {i : Nat} {j num : Int} (hi : (i : Int) < (A 20 q).toInt) (h1 : SN (A 24) q i ≤ d + j) (h2 : d + j < SN (A 24) q (i + 1)) (hn : num = ((A 12 q).toInt + j) % 64) : OWN A q i num := by
  obtain ⟨j1, j2, j3, j4, j5, j6, j7, j8, j9⟩ := hJ
  have hsl := sn_le j5
  have top : SN (A 24) q (i + 1) ≤ SN (A 24) q (A 20 q).toInt.toNat := by
    have l := hsl ((A 20 q).toInt.toNat - (i + 1)) (i + 1) (by omega)
    rw [show i + 1 + ((A 20 q).toInt.toNat - (i + 1)) = (A 20 q).toInt.toNat by omega] at l
    omega
  have dist : ∀ k : Nat, k ≤ i → (num - (A 29 (4 * q + k)).toInt) % 64 = d + j - SN (A 24) q k := fun k hk => by
    have e := j3 k (by omega) j
    have l1 := hsl (i - k) k (by omega)
    rw [show k + (i - k) = i by omega] at l1
    have l2 := hsl k 0 (by omega)
    rw [Nat.zero_add] at l2
    have l3 : SN (A 24) q 0 = 0 := rfl
    rw [hn]
    omega
  refine ⟨fun k hk => ?_, ?_⟩
  · rw [dist k (by omega)]
    have l1 := hsl (i - (k + 1)) (k + 1) (by omega)
    rw [show k + 1 + (i - (k + 1)) = i by omega] at l1
    have s : SN (A 24) q (k + 1) = SN (A 24) q k + NB (A 24) (4 * q + k) := rfl
    omega
  · rw [dist i (Nat.le_refl i)]
    have s : SN (A 24) q (i + 1) = SN (A 24) q i + NB (A 24) (4 * q + i) := rfl
    omega
theorem e_awaits {x q n h i : Nat} {G : Nat → Nat} {B : AA} {R : RR} {A : AA} {num r : Int32} (hS : SHX x R) (hq : q < 4) (hh : (h : Int) = (B (x + 78 + 17 * q) 3).toInt) (hn : (n : Int) = (B (x + 78 + 17 * q) 4).toInt) (h4 : n ≤ 4) (rows : ∀ i, i < n → RWQ (B (x + 80 + 17 * q + (h + i) % 4)) A (4 * q + i)) (hc : C_X7_awaitsReply G B R (x + 77 + 17 * q) num r) (hi : i < n) (ho : OWN A q i num.toInt) : (r.toInt = 0 ∧ (A 22 (4 * q + i)).toInt < 2) ∨ (¬ r.toInt = 0 ∧ ¬ (A 22 (4 * q + i)).toInt < 2) := by
  have row : ∀ {r2 : Int32} {a : Nat}, C_X7_ownerOf G B R (x + 77 + 17 * q) num r2 → ¬ r2.toInt = -1 → C_X5_at G B R (R (x + 77 + 17 * q) 6) r2 a → (B a 0).toInt = (A 22 (4 * q + i)).toInt ∧ (0 ≤ (A 22 (4 * q + i)).toInt ∧ (A 22 (4 * q + i)).toInt ≤ 3) := fun hw hne hat => by
    rcases e_owner hS hq hw hh hn h4 rows with ⟨o1, -⟩ | ⟨i', hi', ei, o3, o4⟩
    · exact absurd o1 hne
    · obtain rfl : i' = i := OWN.uniq ⟨o3, o4⟩ ho
      rw [(hS.2.2.2.1 q hq).2.2] at hat
      have er := e_atQ hS hq hat hh (k := i') (by omega)
      have w := rows i' hi
      rw [← er] at w
      exact ⟨congrArg Int32.toInt w.1, w.2.2.2.2.2.2.2.2.2.2⟩
  rcases hc with ⟨r_2, hownerOf, c1, rfl⟩ | ⟨r_2, hownerOf, c1, r_7, hat, r_9, hawaitsReply, c2, rfl⟩ | ⟨r_2, hownerOf, c1, r_7, hat, r_9, hawaitsReply, c2, rfl⟩
  · exfalso
    rcases e_owner hS hq hownerOf hh hn h4 rows with ⟨-, o2⟩ | ⟨i', hi', ei, -⟩
    · have a := o2 i hi
      have b := ho.2
      omega
    · omega
  · obtain ⟨w1, w2⟩ := row hownerOf c1 hat
    rcases hawaitsReply with ⟨c1a, rfl⟩ | ⟨c1a, c2a, rfl⟩ | ⟨c1a, c2a, rfl⟩
    · exact absurd c2 (by decide)
    · exact Or.inl ⟨by decide, by omega⟩
    · exact absurd c2 (by decide)
  · obtain ⟨w1, w2⟩ := row hownerOf c1 hat
    rcases hawaitsReply with ⟨c1a, rfl⟩ | ⟨c1a, c2a, rfl⟩ | ⟨c1a, c2a, rfl⟩
    · exact Or.inr ⟨by decide, by omega⟩
    · exact absurd i_0 c2
    · exact Or.inr ⟨by decide, by omega⟩
theorem e_open {G : Nat → Nat} {B : AA} {R : RR} {H : Nat} {num r : Int32} (h : C_X7_isOpen G B R H num r) : (r.toInt = 0 ∧ ((B H 9).toInt - (B H 8).toInt) % 64 ≤ (num.toInt - (B H 8).toInt) % 64) ∨ (¬ r.toInt = 0 ∧ (num.toInt - (B H 8).toInt) % 64 < ((B H 9).toInt - (B H 8).toInt) % 64) := by
  rcases h with ⟨x_2, ex_2, x_3, ex_3, c1, rfl⟩ | ⟨x_2, ex_2, x_3, ex_3, c1, rfl⟩
  · rw [ex_2, ex_3, dst, dst] at c1
    exact Or.inl ⟨by decide, c1⟩
  · rw [ex_2, ex_3, dst, dst] at c1
    exact Or.inr ⟨by decide, by omega⟩
theorem r_some {A : AA} {cd pk p k : Int32} {A' : AA} {cdz pkz : Int32} {q : Nat} (h : D_X10_answerSome A cd pk p k A' cdz pkz) (hq : (q : Int) = p.toInt) (hV : RW A pk) : cdz = cd ∧ pkz = pk ∧ RW A' pk ∧ ((¬ k.toInt ≤ ((A 13 q).toInt - (A 12 q).toInt) % 64 ∧ A' = A) ∨ (k.toInt ≤ ((A 13 q).toInt - (A 12 q).toInt) % 64 ∧ ∃ b : Nat, ASR A cd pk p q b A' ∧ (((b : Int) = k.toInt ∨ (k.toInt ≤ 0 ∧ b = 0)) ∨ ((b : Int) < k.toInt ∧ ∃ w : Int32, HC A' cd pk p q w ∧ w.toInt ≠ 0)))) := by
  rcases h with ⟨n_1, hn_1, x_5, ex_5, fx_5, c1, ix_7, u_7, c2, c3, c4, c5, c6, c7, c8, rfl, rfl, rfl⟩ | ⟨n_1, hn_1, x_5, ex_5, fx_5, c1, rfl, rfl, rfl⟩
  · obtain rfl : n_1 = q := by omega
    obtain ⟨-, b, hb, ho⟩ := c7
    refine ⟨rfl, rfl, RW.of c3 c6 hV.2.2, Or.inr ⟨by omega, b, hb, ?_⟩⟩
    rcases ho with ⟨o1, o2⟩ | ⟨o1, o2, o3⟩
    · rcases o2 with o2 | o2
      · exact Or.inl (Or.inl (by omega))
      · exact Or.inl (Or.inr ⟨by omega, o2⟩)
    · exact Or.inr ⟨o2, o3⟩
  · obtain rfl : n_1 = q := by omega
    have e : (uA (uA (uA (uA (uA (uA (uA (uA (uA (uA (uA (uA (uA (uA (uA (uA A 8 (A 8)) 9 (A 9)) 12 (A 12)) 15 (A 15)) 16 (A 16)) 17 (A 17)) 18 (A 18)) 20 (A 20)) 22 (A 22)) 23 (A 23)) 24 (A 24)) 25 (A 25)) 26 (A 26)) 27 (A 27)) 28 (A 28)) 29 (A 29)) = A := uu_ids
    rw [e]
    exact ⟨rfl, rfl, hV, Or.inl ⟨by omega, rfl⟩⟩
theorem s_ack {x q : Nat} {G : Nat → Nat} {t0 t1 t2 : Int32} (ht : 2 ≤ t0.toInt) {B : AA} {R : RR} {A : AA} {pk cd : Int32} (h : SIM x t0 t1 t2 B R A pk) (hV : RW A pk) (hq : q < 4) (hst : (A 10 q).toInt = 1) {p num k : Int32} (hp : (q : Int) = p.toInt) {d : Int} (hJ : PJD A q d) (hk : k.toInt = (num.toInt - (A 12 q).toInt) % 64 + 1 ∨ (k.toInt = 0 ∧ (num.toInt - (A 12 q).toInt) % 64 = 63)) {Z : AA} (hc : C_X7_takeAck G B R (x + 77 + 17 * q) num Z) {A' : AA} {cdz pkz : Int32} (hd : D_X10_answerSome A cd pk p k A' cdz pkz) : SIM x t0 t1 t2 Z R A' pk ∧ pkz = pk ∧ (∀ a, x + 1 ≤ a → a < x + 55 → Z a = B a) ∧ (∀ j, ¬ NA1 j → A' j = A j) ∧ RW A' pk := by
  have hh := h
  obtain ⟨hS, -, -, -, -, hPQ⟩ := hh
  obtain ⟨hC, hPS, hRQ, -, -⟩ := hPQ q hq
  have p2s := hPS.2.1 hst
  obtain ⟨hd4, g1, g2, g3, g4, g5⟩ := hRQ
  have g3i := congrArg Int32.toInt g3
  obtain ⟨-, epk, hW, hr⟩ := r_some hd hp hV
  clear hd
  have hJ0 := hJ
  obtain ⟨j1, j2, j3, j4, j5, j6, j7, j8, j9⟩ := hJ
  obtain ⟨n, hn⟩ : ∃ n : Nat, (n : Int) = (A 20 q).toInt := ⟨_, Int.toNat_of_nonneg j9.1⟩
  have aw : ∀ {v r : Int32} {i : Nat}, C_X7_awaitsReply G B R (x + 77 + 17 * q) v r → (i : Int) < (A 20 q).toInt → OWN A q i v.toInt → (r.toInt = 0 ∧ (A 22 (4 * q + i)).toInt < 2) ∨ (¬ r.toInt = 0 ∧ ¬ (A 22 (4 * q + i)).toInt < 2) := fun hw hi ho => e_awaits hS hq g2 (n := n) (by omega) (by omega) (fun i hi => g5 i (by omega)) hw (by omega) ho
  have hopen : ∀ {r : Int32}, C_X7_isOpen G B R (x + 77 + 17 * q) num r → (r.toInt = 0 ∧ ((A 13 q).toInt - (A 12 q).toInt) % 64 ≤ (num.toInt - (A 12 q).toInt) % 64) ∨ (¬ r.toInt = 0 ∧ (num.toInt - (A 12 q).toInt) % 64 < ((A 13 q).toInt - (A 12 q).toInt) % 64) := fun ho => by
    have e := e_open ho
    rw [p2s.2.1, p2s.2.2.1] at e
    exact e
  have d12 : ((A 13 q).toInt - (A 12 q).toInt) % 64 ≤ 12 := by omega
  have main : ∀ {i9 : Int32} {Z : AA}, C_X7_answer G B R (x + 77 + 17 * q) i9 Z → (num.toInt - (A 12 q).toInt) % 64 < ((A 13 q).toInt - (A 12 q).toInt) % 64 → 0 ≤ i9.toInt → i9.toInt ≤ (num.toInt - (A 12 q).toInt) % 64 + 1 → (∀ j : Int32, 0 ≤ j.toInt → j.toInt < i9.toInt → C_X7_awaitsReply G B R (x + 77 + 17 * q) ((B (x + 77 + 17 * q) 8 + j) &&& 63) 0) → (i9.toInt = (num.toInt - (A 12 q).toInt) % 64 + 1 ∨ ∃ r : Int32, C_X7_awaitsReply G B R (x + 77 + 17 * q) ((B (x + 77 + 17 * q) 8 + i9) &&& 63) r ∧ ¬ r.toInt = 0) → SIM x t0 t1 t2 Z R A' pk ∧ pkz = pk ∧ (∀ a, x + 1 ≤ a → a < x + 55 → Z a = B a) ∧ (∀ j, ¬ NA1 j → A' j = A j) ∧ RW A' pk := by
    intro i9 Z hZ hlt h0 hle hall hend
    rcases hr with ⟨r1, -⟩ | ⟨r1, b, hb, ho⟩
    · exfalso; omega
    · have hbd : (b : Int) ≤ ((A 13 q).toInt - (A 12 q).toInt) % 64 := by omega
      obtain ⟨c, hA, hkd⟩ := ASR.ans hq hp hJ0 b A' hb hbd
      have hbk : (b : Int) ≤ k.toInt := by omega
      have eb : (b : Int) = i9.toInt := by
        rcases Int.lt_trichotomy (b : Int) i9.toInt with l | l | l
        · exfalso
          have hb2 : (b : Int) < k.toInt := by clear ho hend; omega
          obtain ⟨w, w1, w2⟩ : ∃ w : Int32, HC A' cd pk p q w ∧ w.toInt ≠ 0 := by
            rcases ho with (e | ⟨e, -⟩) | ⟨-, e⟩
            · omega
            · omega
            · exact e
          have kd := hA.kind hq hJ0 (by omega) w1
          obtain ⟨o1, o2, o3⟩ := hA.own hJ0 (by omega)
          have eN : (nI b).toInt = b := nI_toInt (by omega)
          have ca := hall (nI b) (by omega) (by omega)
          have cb := aw ca o1 (hJ0.own o1 o2 o3 (by rw [aft, p2s.2.1, eN]))
          have iz := i_0
          omega
        · exact l
        · exfalso
          obtain ⟨i, k1, k2, k3, k4⟩ := hkd i9.toInt.toNat (by omega)
          have e9 : ((i9.toInt.toNat : Nat) : Int) = i9.toInt := Int.toNat_of_nonneg h0
          rw [e9] at k2 k3
          rcases hend with e | ⟨r, hw, hr0⟩
          · omega
          · have cb := aw hw k1 (hJ0.own k1 k2 k3 (by rw [aft, p2s.2.1]))
            omega
      obtain ⟨z1, z2⟩ := s_answer ht h hV hq hst hp hJ0 eb hbd hA hZ
      exact ⟨z1, epk, z2, hA.2.2.2.2.2.2.1, hW⟩
  have none : ((A 13 q).toInt - (A 12 q).toInt) % 64 ≤ (num.toInt - (A 12 q).toInt) % 64 → A' = A := fun hle => by
    rcases hr with ⟨-, r2⟩ | ⟨r1, b, hb, ho⟩
    · exact r2
    · have b0 : b = 0 := by
        rcases ho with (e | ⟨-, e⟩) | ⟨e, -⟩
        · omega
        · exact e
        · omega
      subst b0
      exact hb
  rcases hc with ⟨r_2, hisOpen, c1, x_5, ex_5, x_6, ex_6, fx_6, i9, c2, c3, c4, U_10, hF, hanswer, eZ⟩ | ⟨r_2, hisOpen, c1, x_5, ex_5, x_6, ex_6, fx_6, i9, c2, c3, c4, x_12, ex_12, r_13, hawaitsReply, c5, U_17, hF, hanswer, eZ⟩ | ⟨r_2, hisOpen, c1, eZ⟩
  · have ho := hopen hisOpen
    have e5 : x_5.toInt = (num.toInt - (A 12 q).toInt) % 64 := by rw [ex_5, dst, p2s.2.1]
    rw [eZ]
    exact main hanswer (by omega) (by omega) (by omega) c3 (Or.inl (by omega))
  · have ho := hopen hisOpen
    have e5 : x_5.toInt = (num.toInt - (A 12 q).toInt) % 64 := by rw [ex_5, dst, p2s.2.1]
    rw [eZ]
    exact main hanswer (by omega) (by omega) (by omega) c3 (Or.inr ⟨r_13, by rw [← ex_12]; exact hawaitsReply, c5⟩)
  · have ho := hopen hisOpen
    have e := none (by omega)
    subst e
    rw [eZ]
    exact ⟨h, epk, fun _ _ _ => rfl, fun _ _ => rfl, hV⟩
end
section
/-- a change within the nodes -/
theorem SIM.ndw {x : Nat} {t0 t1 t2 : Int32} {B Z : AA} {R : RR} {A A' : AA} {pk : Int32} (h : SIM x t0 t1 t2 B R A pk) (hV : RW A pk) (hZ : ∀ a, ¬ (x + 56 ≤ a ∧ a < x + 76) → Z a = B a) (hM : MEM x Z (A' 4)) (hG : REG x Z (A' 5) (A' 6) (A' 7)) (hN : ∀ m, m < 2 → NS x m Z (A' 8) (A' 9)) (hj : ∀ j, 10 ≤ j → A' j = A j) : SIM x t0 t1 t2 Z R A' pk := by
  obtain ⟨h1, ⟨pm, tk, h2, h3⟩, h4, h5, h6, h7⟩ := h
  refine ⟨h1, ⟨pm, tk, h2, h3.cg (fun a k1 k2 => hZ a (by omega)) (fun j k1 k2 => hj j (by omega)) hV.2.2.2 (fun i hi => (h2.2.2.2.2.1 i hi).1)⟩, hM, hG, hN, fun q' hq' => ?_⟩
  exact (h7 q' hq').cg (fun a k1 k2 => hZ a (by omega)) (AGR.of (fun j k1 _ => hj j k1)) (hV.2.1 q' hq').1.2 (hV.2.1 q' hq').2.2
/-- cells are written into a node's memory -/
theorem SIM.cells {x nd f0 w : Nat} {t0 t1 t2 : Int32} {B : AA} {R : RR} {A : AA} {pk : Int32} (h : SIM x t0 t1 t2 B R A pk) (hV : RW A pk) (hnd : nd < 2) (hw : w = 0 ∨ f0 + w ≤ 32) {g g' : Nat → Int32} (hg : ∀ k, k < w → g k = g' k) : SIM x t0 t1 t2 (uA B (x + 57 + 10 * nd) (cpy (B (x + 57 + 10 * nd)) f0 w g)) R (uA A 4 (cpy (A 4) (32 * nd + f0) w g')) pk := by
  have hh := h
  obtain ⟨-, -, hM, hG, hN, -⟩ := hh
  refine h.ndw hV (fun a k => uA_n (by omega)) (fun n hn c hc => ?_) (hG.cg (fun n hn j hj => uA_n (by omega))) (fun m hm => (hN m hm).cg (uA_n (by omega)) (uA_n (by omega)) rfl (fun _ _ _ => rfl) (hV.1 m hm).2) (fun j hj => uA_n (by omega))
  rw [uA_s]
  by_cases e : n = nd
  · subst e
    rw [uA_s]
    unfold cpy
    by_cases e2 : f0 ≤ c ∧ c < f0 + w
    · rw [if_pos e2, if_pos (by omega), hg _ (by omega)]
      congr 1; omega
    · rw [if_neg e2, if_neg (by omega)]
      exact hM n hn c hc
  · rw [uA_n (by omega)]
    unfold cpy
    rw [if_neg (by omega)]
    exact hM n hn c hc
theorem PJD.cg {A A' : AA} {q : Nat} {d : Int} (h : PJD A q d) (h12 : A' 12 = A 12) (h13 : A' 13 = A 13) (h20 : A' 20 = A 20) (h24 : A' 24 = A 24) (h29 : A' 29 = A 29) : PJD A' q d := by
  unfold PJD at h ⊢
  rw [h12, h13, h20, h24, h29]
  exact h
/-- a reply -/
theorem s_reply {x q tk : Nat} {G : Nat → Nat} {t0 t1 t2 : Int32} (ht : 2 ≤ t0.toInt) {B : AA} {R : RR} {A : AA} {pk cd : Int32} (h : SIM x t0 t1 t2 B R A pk) (hV : RW A pk) (hq : q < 4) (hst : (A 10 q).toInt = 1) {p : Int32} (hp : (q : Int) = p.toInt) {d : Int} (hJ : PJD A q d) (hcu : 0 ≤ (A 13 q).toInt ∧ (A 13 q).toInt ≤ 63) (hz : ∀ i : Nat, (i : Int) < (A 20 q).toInt → (1 ≤ (A 24 (4 * q + i)).toInt ∧ (A 24 (4 * q + i)).toInt ≤ 12) ∧ (0 ≤ (A 23 (4 * q + i)).toInt ∧ (A 23 (4 * q + i)).toInt + (A 24 (4 * q + i)).toInt ≤ 32)) (htk : tk < 26) (hT : TKP x tk B A) (hk4 : (A 42 24).toInt = 4) {Z : AA} (hc : C_X7_takeReply G B R (x + 77 + 17 * q) (x + 3 + 2 * tk) Z) {A' : AA} {cdz pkz : Int32} (hd : D_X10_replied A cd pk p A' cdz pkz) : SIM x t0 t1 t2 Z R A' pk ∧ pkz = pk := by
  have hh := h
  obtain ⟨hS, -, hM, -, -, hPQ⟩ := hh
  obtain ⟨hC, hPS, hRQ, -, -⟩ := hPQ q hq
  have p2s := hPS.2.1 hst
  obtain ⟨hd4, g1, g2, g3, g4, g5⟩ := hRQ
  have g3i := congrArg Int32.toInt g3
  obtain ⟨⟨y0, y1, y2, y3, y4, y5, y6⟩, yc, ⟨y7, y8, -, -, y9, -⟩⟩ := hT
  have ycs := yc (Or.inr (Or.inr hk4))
  have ysz := y9 (Or.inr (Or.inr hk4))
  have hJ0 := hJ
  obtain ⟨j1, j2, j3, j4, j5, j6, j7, j8, j9⟩ := hJ
  obtain ⟨n, hn⟩ : ∃ n : Nat, (n : Int) = (A 20 q).toInt := ⟨_, Int.toNat_of_nonneg j9.1⟩
  have f43 := congrArg Int32.toInt y2
  have f8 := congrArg Int32.toInt p2s.2.1
  have f9 := congrArg Int32.toInt p2s.2.2.1
  have hnoc : ¬ (A 13 q).toInt = (A 12 q).toInt → (0 : Int) < ((A 13 q).toInt - (A 12 q).toInt) % 64 ∧ 0 < n := fun e => by
    have rc := hPS
    constructor
    · by_cases e2 : 0 < ((A 13 q).toInt - (A 12 q).toInt) % 64
      · exact e2
      · exfalso
        omega
    · by_cases e2 : 0 < n
      · exact e2
      · exfalso
        have e3 : (A 20 q).toInt.toNat = 0 := by omega
        rw [e3] at j4
        have e4 : SN (A 24) q 0 = 0 := rfl
        omega
  have aw : ∀ {r : Int32}, ¬ (A 13 q).toInt = (A 12 q).toInt → C_X7_awaitsReply G B R (x + 77 + 17 * q) (B (x + 77 + 17 * q) 8) r → (r.toInt = 0 ∧ (A 22 (4 * q + 0)).toInt < 2) ∨ (¬ r.toInt = 0 ∧ ¬ (A 22 (4 * q + 0)).toInt < 2) := fun hne hw => by
    have hn0 := (hnoc hne).2
    exact e_awaits hS hq g2 (n := n) (by omega) (by omega) (fun i hi => g5 i (by omega)) hw hn0 (hJ0.own (i := 0) (j := 0) (by omega) (by show (0 : Int) ≤ _; omega) (by have := j2 (by omega); show d + 0 < SN (A 24) q 1; omega) (by rw [f8]; omega))
  have hcells : ∀ {r c : Int32}, (4 * q : Nat) = r.toInt → D_X10_hasCells A cd pk r c → (c.toInt = 0 ∧ (A 22 (4 * q)).toInt < 2) ∨ (¬ c.toInt = 0 ∧ ¬ (A 22 (4 * q)).toInt < 2) := fun hr hc => by
    rcases hc with ⟨n_3, hn_3, c1, rfl⟩ | ⟨n_3, hn_3, c1, rfl⟩
    · obtain rfl : n_3 = 4 * q := by omega
      exact Or.inl ⟨by decide, c1⟩
    · obtain rfl : n_3 = 4 * q := by omega
      exact Or.inr ⟨by decide, c1⟩
  -- what is done where the reply is taken
  have main : ∀ {Z A1 : AA} {f w mo : Int32} {x13 x15 : Int32} {rr : Nat} {cd' : Int32}, ¬ (A 13 q).toInt = (A 12 q).toInt → C_X5_at G B R (x + 78 + 17 * q) 0 rr → x13 = ((B (x + 77 + 17 * q) 8) - (B rr 4)) &&& 63 → x15.toInt = 4 * x13.toInt → f = B rr 2 + x15 → C_X4_cellsOf G B R rr x13 mo → ∀ U : AA, C_X2_unload G B R (x + 3 + 2 * tk) (R (x + 77 + 17 * q) 1) f mo U → C_X7_answer G U R (x + 77 + 17 * q) 1 Z → ∀ (to : Int32) (c1 k1 : Int32) (ur : Nat → Int32), to.toInt = 32 * (p.toInt % 2) + (A 23 (4 * q)).toInt + 4 * (farI (A 29 (4 * q)) (A 12 q)).toInt → w.toInt = (if (A 24 (4 * q)).toInt - 4 * (farI (A 29 (4 * q)) (A 12 q)).toInt ≤ (A 44 24).toInt then (A 24 (4 * q)).toInt - 4 * (farI (A 29 (4 * q)) (A 12 q)).toInt else (A 44 24).toInt) → D_X10_takeCells A cd pk to w (uA A 4 ur) c1 k1 → ∀ (c2 k2 : Int32), D_X10_answerOne (uA A 4 ur) cd' pk p A1 c2 k2 → SIM x t0 t1 t2 Z R A1 pk := by
    intro Z A1 f w mo x13 x15 rr cd' hne hat e13 e15 ef0 hco U hu hZ to c1 k1 ur eto ew htc c2 k2 han
    obtain ⟨hd0, hn0⟩ := hnoc hne
    have er := e_atQ hS hq hat g2 (k := 0) (by decide)
    have w0 := g5 0 (by omega)
    rw [← er] at w0
    rw [Nat.add_zero] at w0
    obtain ⟨v0, v1, v2, v3, v4, v5, v6, v7, v8, v9, v10⟩ := w0
    have z0 := hz 0 (by omega)
    rw [Nat.add_zero] at z0
    have fr0 := j7 0 (by omega)
    rw [Nat.add_zero] at fr0
    have hNB : NB (A 24) (4 * q) = ((A 24 (4 * q)).toInt + 3) / 4 := rfl
    have jj := j3 0 (by omega) 0
    rw [Nat.add_zero] at jj
    have s0 : SN (A 24) q 0 = 0 := rfl
    have s1 : SN (A 24) q 1 = 0 + NB (A 24) (4 * q) := rfl
    have dlt := j2 (by omega)
    have efar : (farI (A 29 (4 * q)) (A 12 q)).toInt = d := by rw [far_m fr0 j8]; omega
    rw [efar] at eto ew
    have e13t : x13.toInt = d := by rw [e13, dst, p2s.2.1, v4]; omega
    have v2i := congrArg Int32.toInt v2
    have v3i := congrArg Int32.toInt v3
    have ef : f.toInt = (B rr 2).toInt + 4 * x13.toInt := by rw [ef0, add_t (by omega) (by omega), e15]
    have emo := e_cellsOf hco (by omega) (by omega)
    have y3i := congrArg Int32.toInt y3
    have h7 := hS.2.2.2.2.2.2.2.2.2 tk htk
    rw [(hS.2.2.2.1 q hq).1] at hu
    obtain ⟨f0, hf0⟩ : ∃ f0 : Nat, (f0 : Int) = f.toInt := ⟨f.toInt.toNat, by omega⟩
    obtain ⟨w1, hw1, eU⟩ := e_unload hu (by rw [h7]; omega) (hS.2.1 (q % 2) (by omega)).2.1 (by omega) (by omega) hf0 (by omega) (by omega) (Or.inr (by rw [emo]; split <;> omega))
    have hwn : (w1 : Int) = w.toInt := by
      rw [ew]
      rw [emo, y3i] at hw1
      by_cases e4 : 4 ≤ (B rr 3).toInt - 4 * x13.toInt
      · rw [if_pos e4] at hw1
        by_cases e5 : (A 24 (4 * q)).toInt - 4 * d ≤ (A 44 24).toInt
        · rw [if_pos e5]
          by_cases e6 : (A 44 24).toInt ≤ 4
          · rw [if_pos e6] at hw1; omega
          · omega
        · rw [if_neg e5]
          by_cases e6 : (A 44 24).toInt ≤ 4
          · rw [if_pos e6] at hw1; omega
          · omega
      · rw [if_neg e4] at hw1
        by_cases e5 : (A 24 (4 * q)).toInt - 4 * d ≤ (A 44 24).toInt
        · rw [if_pos e5]
          by_cases e6 : (A 44 24).toInt ≤ (B rr 3).toInt - 4 * x13.toInt
          · rw [if_pos e6] at hw1; omega
          · rw [if_neg e6] at hw1; omega
        · rw [if_neg e5]
          by_cases e6 : (A 44 24).toInt ≤ (B rr 3).toInt - 4 * x13.toInt
          · rw [if_pos e6] at hw1; omega
          · rw [if_neg e6] at hw1; omega
    have hwb : w.toInt ≤ (A 24 (4 * q)).toInt - 4 * d ∧ w.toInt ≤ (A 44 24).toInt := by rw [ew]; split <;> omega
    obtain ⟨-, -, eA⟩ := r_take htc (f0 := 32 * (q % 2) + f0) (w := w1) (by omega) hwn (by omega)
    have sim1 := h.cells hV (nd := q % 2) (f0 := f0) (w := w1) (by omega) (Or.inr (by omega)) (g := B (x + 3 + 2 * tk + 1)) (g' := fun k => A 48 (96 + k)) (fun k hk => by
      rw [show x + 3 + 2 * tk + 1 = x + 4 + 2 * tk by omega]
      exact ycs k (by omega) (by omega))
    rw [← eA, ← eU] at sim1
    have hJ1 : PJD (uA A 4 ur) q d := hJ0.cg rfl rfl rfl rfl rfl
    obtain ⟨-, -, hN1⟩ := r_answerOne han hp
    obtain ⟨c, hA1⟩ := (ANS.zero (A := uA A 4 ur) (p := p) hJ1.1 hJ1.2.1 hJ1.2.2.2.2.2.2.2.2.1 hJ1.2.2.2.2.2.2.2.1).step hq hJ1 (by show (0 : Int) < _; exact hd0) hN1
    exact (s_answer ht sim1 (hV.cg rfl rfl rfl) hq hst hp hJ1 (m := 0 + 1) (num := 1) (by decide) (by show (1 : Int) ≤ ((A 13 q).toInt - (A 12 q).toInt) % 64; omega) hA1 hZ).1
  rcases hd with ⟨n_1d, hn_1d, c1d, eZd, rfl, rfl⟩ | ⟨n_1d, hn_1d, c1d, c2d, r_10d, c3d, c4d, c5d, r_12d, hhasCellsd, er_12d, c6d, x_17d, ex_17d, x_18d, ex_18d, fx_18d, x_24d, ex_24d, fx_24d, x_25d, ex_25d, fx_25d, x_26d, ex_26d, fx_26d, x_29d, ex_29d, fx_29d, x_30d, ex_30d, fx_30d, c7d, ur_36d, htakeCellsd, ur_37d, hanswerOned, c8d, c9d, c10d, c11d, c12d, eZd, rfl, rfl⟩ | ⟨n_1d, hn_1d, c1d, c2d, r_10d, c3d, c4d, c5d, r_12d, hhasCellsd, er_12d, c6d, x_17d, ex_17d, x_18d, ex_18d, fx_18d, x_24d, ex_24d, fx_24d, x_25d, ex_25d, fx_25d, x_26d, ex_26d, fx_26d, x_29d, ex_29d, fx_29d, x_30d, ex_30d, fx_30d, c7d, ur_39d, htakeCellsd, ur_40d, hanswerOned, c8d, c9d, c10d, c11d, c12d, eZd, rfl, rfl⟩ | ⟨n_1d, hn_1d, c1d, c2d, r_10d, c3d, c4d, c5d, r_12d, hhasCellsd, er_12d, c6d, eZd, rfl, rfl⟩ | ⟨n_1d, hn_1d, c1d, c2d, eZd, rfl, rfl⟩
  · obtain rfl : n_1d = q := by omega
    rw [eZd]
    simp only [uA_ii]
    rcases hc with ⟨c1, eZ⟩ | ⟨c1, c2, eZ⟩ | ⟨c1, c2, r_5, hawaitsReply, c3, r_10, hat, x_13, ex_13, x_15, ex_15, fx_15, x_16, ex_16, r_17, hcellsOf, U_20, hF, hunload, U_23, hF_1, hanswer, eZ⟩ | ⟨c1, c2, r_5, hawaitsReply, c3, eZ⟩
    · rw [eZ]; first | exact h | exact ⟨h, trivial⟩ | exact ⟨h, rfl⟩
    · exfalso; omega
    · exfalso; omega
    · exfalso; omega
  · obtain rfl : n_1d = q := by omega
    rcases hc with ⟨c1, eZ⟩ | ⟨c1, c2, eZ⟩ | ⟨c1, c2, r_5, hawaitsReply, c3, r_10, hat, x_13, ex_13, x_15, ex_15, fx_15, x_16, ex_16, r_17, hcellsOf, U_20, hF, hunload, U_23, hF_1, hanswer, eZ⟩ | ⟨c1, c2, r_5, hawaitsReply, c3, eZ⟩
    · exfalso; omega
    · exfalso; omega
    · rw [(hS.2.2.2.1 _ hq).2.2] at hat
      rw [eZ, eZd]
      refine ⟨main c2d hat ex_13 fx_15 ex_16 hcellsOf _ hunload hanswer _ _ _ _ (by rw [fx_30d, fx_29d, fx_26d, fx_25d, fx_18d, ex_17d]; rfl) (by rw [fx_24d, fx_18d, ex_17d, if_pos (by rw [fx_24d, fx_18d, ex_17d] at c7d; exact c7d)]; rfl) htakeCellsd _ _ hanswerOned, rfl⟩
    · have a := aw c2d hawaitsReply
      have b := hcells c5d hhasCellsd
      rw [Nat.add_zero] at a
      exfalso; omega
  · obtain rfl : n_1d = q := by omega
    rcases hc with ⟨c1, eZ⟩ | ⟨c1, c2, eZ⟩ | ⟨c1, c2, r_5, hawaitsReply, c3, r_10, hat, x_13, ex_13, x_15, ex_15, fx_15, x_16, ex_16, r_17, hcellsOf, U_20, hF, hunload, U_23, hF_1, hanswer, eZ⟩ | ⟨c1, c2, r_5, hawaitsReply, c3, eZ⟩
    · exfalso; omega
    · exfalso; omega
    · rw [(hS.2.2.2.1 _ hq).2.2] at hat
      rw [eZ, eZd]
      refine ⟨main c2d hat ex_13 fx_15 ex_16 hcellsOf _ hunload hanswer _ _ _ _ (by rw [fx_30d, fx_29d, fx_26d, fx_25d, fx_18d, ex_17d]; rfl) (by rw [if_neg (by rw [fx_24d, fx_18d, ex_17d] at c7d; exact c7d)]) htakeCellsd _ _ hanswerOned, rfl⟩
    · have a := aw c2d hawaitsReply
      have b := hcells c5d hhasCellsd
      rw [Nat.add_zero] at a
      exfalso; omega
  · obtain rfl : n_1d = q := by omega
    rw [eZd]
    simp only [uA_ii]
    rcases hc with ⟨c1, eZ⟩ | ⟨c1, c2, eZ⟩ | ⟨c1, c2, r_5, hawaitsReply, c3, r_10, hat, x_13, ex_13, x_15, ex_15, fx_15, x_16, ex_16, r_17, hcellsOf, U_20, hF, hunload, U_23, hF_1, hanswer, eZ⟩ | ⟨c1, c2, r_5, hawaitsReply, c3, eZ⟩
    · rw [eZ]; first | exact h | exact ⟨h, trivial⟩ | exact ⟨h, rfl⟩
    · rw [eZ]; first | exact h | exact ⟨h, trivial⟩ | exact ⟨h, rfl⟩
    · have a := aw c2d hawaitsReply
      have b := hcells c5d hhasCellsd
      rw [Nat.add_zero] at a
      exfalso; omega
    · rw [eZ]; first | exact h | exact ⟨h, trivial⟩ | exact ⟨h, rfl⟩
  · obtain rfl : n_1d = q := by omega
    rw [eZd]
    simp only [uA_ii]
    rcases hc with ⟨c1, eZ⟩ | ⟨c1, c2, eZ⟩ | ⟨c1, c2, r_5, hawaitsReply, c3, r_10, hat, x_13, ex_13, x_15, ex_15, fx_15, x_16, ex_16, r_17, hcellsOf, U_20, hF, hunload, U_23, hF_1, hanswer, eZ⟩ | ⟨c1, c2, r_5, hawaitsReply, c3, eZ⟩
    · rw [eZ]; first | exact h | exact ⟨h, trivial⟩ | exact ⟨h, rfl⟩
    · rw [eZ]; first | exact h | exact ⟨h, trivial⟩ | exact ⟨h, rfl⟩
    · exfalso; omega
    · exfalso; omega
end
section
theorem bef {v : Int32} : ((v + (-1)) &&& 63).toInt = (v.toInt - 1) % 64 := by
  rw [aft]
  have : (-1 : Int32).toInt = -1 := by decide
  rw [this]
  congr 1
/-- the class's rest -/
theorem e_rest {G : Nat → Nat} {B : AA} {R : RR} {H : Nat} {Z : AA} {r : Int32} (h : C_X7_rest G B R H Z r) : Z = uA B H (upd (upd (upd (B H) 13 1) 10 0) 12 (B H 12 + 1)) ∧ ((r = 0 ∧ (B H 12 + 1).toInt ≤ (B H 5).toInt) ∨ (r = 2 ∧ ¬ (B H 12 + 1).toInt ≤ (B H 5).toInt)) := by
  rcases h with ⟨B_2, rfl, B_4, rfl, x_7, ex_7, B_8, rfl, c1, rfl, rfl⟩ | ⟨B_2, rfl, B_4, rfl, x_7, ex_7, B_8, rfl, c1, rfl, rfl⟩
  · subst ex_7
    exact ⟨by simp only [uA_s, uA_u], Or.inl ⟨rfl, c1⟩⟩
  · subst ex_7
    exact ⟨by simp only [uA_s, uA_u], Or.inr ⟨rfl, c1⟩⟩
/-- a pair rests -/
theorem SIM.rest {x q : Nat} {t0 t1 t2 : Int32} (ht : 2 ≤ t0.toInt) {U : AA} {R : RR} {A : AA} {pk : Int32} (h : SIM x t0 t1 t2 U R A pk) (hV : RW A pk) (hq : q < 4) (hst : (A 10 q).toInt = 1) {v : Int32} (ev : v = A 17 q + 1) : SIM x t0 t1 t2 (uA U (x + 77 + 17 * q) (upd (upd (upd (upd (U (x + 77 + 17 * q)) 9 (U (x + 77 + 17 * q) 8)) 13 1) 10 0) 12 (A 17 q + 1))) R (uA (uA (uA (uA A 13 (upd (A 13) q (A 12 q))) 18 (upd (A 18) q 1)) 15 (upd (A 15) q 0)) 17 (upd (A 17) q v)) pk := by
  obtain ⟨y1, y2, y3, y4, y5, y6, y7, y8, y9, y10⟩ := (h.2.2.2.2.2 q hq).2.1
  have y2s := y2 hst
  have i1 := i_1t
  have iz := i_0
  refine h.rq hV hq hst (fun j hj => by rw [upd_n (by omega), upd_n (by omega), upd_n (by omega), upd_n (by omega)]) (fun j hj => by rw [uA_n (by omega), uA_n (by omega), uA_n (by omega), uA_n (by omega)]) (fun j k hk => ?_) y2s.1 y2s.2.1 (y2s.2.1.trans upd_s.symm) upd_s.symm y3.2.1 ?_ upd_s.symm ?_ ?_
  · by_cases e1 : j = 17
    · subst e1; exact upd_n hk
    by_cases e2 : j = 15
    · subst e2; exact upd_n hk
    by_cases e3 : j = 18
    · subst e3; exact upd_n hk
    by_cases e4 : j = 13
    · subst e4; exact upd_n hk
    rw [uA_n e1, uA_n e2, uA_n e3, uA_n e4]
  · show A 17 q + 1 = upd (A 17) q v q
    rw [upd_s, ev]
  · show TIM t0 (upd (A 18) q 1 q) (upd (A 15) q 0 q)
    rw [upd_s, upd_s]
    exact ⟨fun e => by omega, fun _ => by omega⟩
  · show B01 (upd (A 18) q 1 q)
    rw [upd_s]; exact Or.inr rfl
/-- the cursor goes back -/
theorem SIM.back {x q : Nat} {t0 t1 t2 : Int32} {U : AA} {R : RR} {A : AA} {pk : Int32} (h : SIM x t0 t1 t2 U R A pk) (hV : RW A pk) (hq : q < 4) (hst : (A 10 q).toInt = 1) : SIM x t0 t1 t2 (uA U (x + 77 + 17 * q) (upd (U (x + 77 + 17 * q)) 9 (U (x + 77 + 17 * q) 8))) R (uA A 13 (upd (A 13) q (A 12 q))) pk := by
  obtain ⟨y1, y2, y3, y4, y5, y6, y7, y8, y9, y10⟩ := (h.2.2.2.2.2 q hq).2.1
  have y2s := y2 hst
  have y4s := y4 (by omega)
  refine h.rq hV hq hst (fun j hj => by rw [upd_n (by omega)]) (fun j hj => by rw [uA_n (by omega)]) (fun j k hk => ?_) y2s.1 y2s.2.1 (y2s.2.1.trans upd_s.symm) y3.1 y3.2.1 y3.2.2 y4s.1 y4s.2 y8
  by_cases e4 : j = 13
  · subst e4; exact upd_n hk
  rw [uA_n e4]
/-- how a pair takes a NAK in -/
theorem s_nak {x q : Nat} {G : Nat → Nat} {t0 t1 t2 : Int32} (ht : 2 ≤ t0.toInt) {B : AA} {R : RR} {A : AA} {pk cd : Int32} (h : SIM x t0 t1 t2 B R A pk) (hV : RW A pk) (hq : q < 4) (hst : (A 10 q).toInt = 1) {p : Int32} (hp : (q : Int) = p.toInt) {d : Int} (hJ : PJD A q d) (hcu : 0 ≤ (A 13 q).toInt ∧ (A 13 q).toInt ≤ 63) {nm rs : Int32} (e43 : nm = A 43 24) (e45 : rs = A 45 24) (b43 : 0 ≤ (A 43 24).toInt ∧ (A 43 24).toInt ≤ 63) (b45 : 1 ≤ (A 45 24).toInt ∧ (A 45 24).toInt ≤ 4) {U : AA} {r : Int32} (hc : C_X7_takeNak G B R (x + 77 + 17 * q) nm rs U r) {Z : AA} (hf : (r.toInt = 0 ∧ Z = U) ∨ (¬ r.toInt = 0 ∧ C_X3_fail G U R (x + 84 + 17 * q) r 5 Z)) {A' : AA} {cdz pkz : Int32} (hd : D_X10_refused t0 t1 t2 A cd pk p A' cdz pkz) : SIM x t0 t1 t2 Z R A' pk ∧ pkz = pk := by
  subst e43 e45
  have hh := h
  obtain ⟨hS, -, -, -, -, hPQ⟩ := hh
  obtain ⟨hC, hPS, -, -, -⟩ := hPQ q hq
  have p2s := hPS.2.1 hst
  have j8 := hJ.2.2.2.2.2.2.2.1
  have hopen : ∀ {v : Int32}, C_X7_isOpen G B R (x + 77 + 17 * q) (A 43 24) v → (v.toInt = 0 ∧ ((A 13 q).toInt - (A 12 q).toInt) % 64 ≤ ((A 43 24).toInt - (A 12 q).toInt) % 64) ∨ (¬ v.toInt = 0 ∧ ((A 43 24).toInt - (A 12 q).toInt) % 64 < ((A 13 q).toInt - (A 12 q).toInt) % 64) := fun ho => by
    have e := e_open ho
    rw [p2s.2.1, p2s.2.2.1] at e
    exact e
  have e5 : ∀ {v : Int32}, v = ((((A 43) 24) - ((A 12) q)) + 64) - ((((A 43) 24) - ((A 12) q)) + 64) / 64 * 64 → v.toInt = ((A 43 24).toInt - (A 12 q).toInt) % 64 := fun e => by rw [e]; exact far_m j8 b43
  have iz := i_0
  -- after the answers
  have ack : ∀ {A1 U7 : AA} {v k c1 k1 : Int32}, v = (A 43 24 + (-1)) &&& 63 → k.toInt = ((A 43 24).toInt - (A 12 q).toInt) % 64 → C_X7_takeAck G B R (x + 77 + 17 * q) v U7 → D_X10_answerSome A cd pk p k A1 c1 k1 → SIM x t0 t1 t2 U7 R A1 pk ∧ k1 = pk ∧ (∀ a, x + 1 ≤ a → a < x + 55 → U7 a = B a) ∧ (∀ j, ¬ NA1 j → A1 j = A j) ∧ RW A1 pk := fun ev ek ha hd => s_ack ht h hV hq hst hp hJ (by rw [ev, bef, ek]; omega) ha hd
  have post : ∀ {A1 U7 : AA}, SIM x t0 t1 t2 U7 R A1 pk → (∀ j, ¬ NA1 j → A1 j = A j) → (A1 10 q).toInt = 1 ∧ U7 (x + 77 + 17 * q) 8 = A1 12 q ∧ A1 43 = A 43 ∧ A1 45 = A 45 ∧ PS x q t0 U7 A1 ∧ CST x q t0 t1 t2 U7 := fun {A1 U7} hs hn => by
    have hst1 : (A1 10 q).toInt = 1 := by rw [hn 10 (by unfold NA1; omega)]; exact hst
    have hp1 := (hs.2.2.2.2.2 q hq).2.1
    exact ⟨hst1, (hp1.2.1 hst1).2.1, hn 43 (by unfold NA1; omega), hn 45 (by unfold NA1; omega), hp1, (hs.2.2.2.2.2 q hq).1⟩
  rcases hd with ⟨n_1d, hn_1d, x_5d, ex_5d, x_9d, ex_9d, fx_9d, c1d, ur_11d, hanswerSomed, c2d, c3d, c4d, c5d, c6d, c7d, g_17d, rfl, c8d, g_19d, rfl, g_20d, rfl, x_22d, ex_22d, g_23d, rfl, c9d, eZd, rfl, rfl⟩ | ⟨n_1d, hn_1d, x_5d, ex_5d, x_9d, ex_9d, fx_9d, c1d, ur_11d, hanswerSomed, c2d, c3d, c4d, c5d, c6d, c7d, g_17d, rfl, c8d, g_19d, rfl, g_20d, rfl, x_22d, ex_22d, g_23d, rfl, c9d, ur_28d, hfailPaird, c10d, c11d, c12d, eZd, rfl, rfl⟩ | ⟨n_1d, hn_1d, x_5d, ex_5d, x_9d, ex_9d, fx_9d, c1d, ur_11d, hanswerSomed, c2d, c3d, c4d, c5d, c6d, c7d, g_17d, rfl, c8d, eZd, rfl, rfl⟩ | ⟨n_1d, hn_1d, x_5d, ex_5d, x_9d, ex_9d, fx_9d, c1d, ur_11d, hanswerSomed, c2d, c3d, c4d, c5d, c6d, c7d, ur_30d, hfailPaird, c8d, c9d, c10d, eZd, rfl, rfl⟩ | ⟨n_1d, hn_1d, x_5d, ex_5d, x_9d, ex_9d, fx_9d, c1d, ur_11d, hanswerSomed, c2d, c3d, c4d, c5d, c6d, eZd, rfl, rfl⟩ | ⟨n_1d, hn_1d, x_5d, ex_5d, x_9d, ex_9d, fx_9d, c1d, eZd, rfl, rfl⟩
  all_goals obtain rfl : n_1d = q := by omega
  · have hx : x_9d.toInt = ((A 13 n_1d).toInt - (A 12 n_1d).toInt) % 64 := by rw [fx_9d]; omega
    have hx5 := e5 ex_5d
    rcases hc with ⟨r_2, hisOpen, c1, r_4, er_4, U_7, hF, htakeAck, c2, c3, eZ, rfl⟩ | ⟨r_2, hisOpen, c1, r_4, er_4, U_7, hF, htakeAck, c2, c3, c4, B_12, rfl, c5, eZ, rfl⟩ | ⟨r_2, hisOpen, c1, r_4, er_4, U_7, hF, htakeAck, c2, c3, c4, B_12, rfl, c5, r_15, U_16, hF_1, hrest, eZ, rfl⟩ | ⟨r_2, hisOpen, c1, r_4, er_4, U_7, hF, htakeAck, c2, c3, c4, eZ, rfl⟩ | ⟨r_2, hisOpen, c1, r_4, er_4, U_7, hF, htakeAck, c2, eZ, rfl⟩ | ⟨r_2, hisOpen, c1, eZ, rfl⟩
    · obtain ⟨a1, a2, a3, a4, a5⟩ := ack er_4 (e5 ex_5d) htakeAck hanswerSomed
      obtain ⟨b1, b2, b3, b4, b5, b6⟩ := post a1 a4
      have b2i := congrArg Int32.toInt b2
      exfalso
      omega
    · obtain ⟨a1, a2, a3, a4, a5⟩ := ack er_4 (e5 ex_5d) htakeAck hanswerSomed
      obtain ⟨b1, b2, b3, b4, b5, b6⟩ := post a1 a4
      have b2i := congrArg Int32.toInt b2
      exfalso
      omega
    · obtain ⟨a1, a2, a3, a4, a5⟩ := ack er_4 (e5 ex_5d) htakeAck hanswerSomed
      obtain ⟨b1, b2, b3, b4, b5, b6⟩ := post a1 a4
      have b2i := congrArg Int32.toInt b2
      obtain ⟨r1, r2⟩ := e_rest hrest
      simp only [uA_u, uA_s] at r1 r2
      have u12 : upd (U_7 (x + 77 + 17 * n_1d)) 9 (U_7 (x + 77 + 17 * n_1d) 8) 12 = U_7 (x + 77 + 17 * n_1d) 12 := rfl
      have u5 : upd (U_7 (x + 77 + 17 * n_1d)) 9 (U_7 (x + 77 + 17 * n_1d) 8) 5 = U_7 (x + 77 + 17 * n_1d) 5 := rfl
      rw [u12] at r1
      rw [u12, u5, b6.2.2.2.1] at r2
      obtain ⟨y1, y2, y3, y4, y5, y6, y7, y8, y9, y10⟩ := b5
      have y2s := y2 b1
      rw [y3.2.2] at r1 r2
      rw [ex_22d] at c9d
      rw [eZd]
      have hu : r = 0 := by
        rcases r2 with ⟨e, -⟩ | ⟨-, e⟩
        · exact e
        · exact absurd c9d e
      rw [hu] at hf
      have hf := (hf.resolve_right (fun e => e.1 iz)).2
      rw [hf, eZ, r1]
      refine ⟨?_, rfl⟩
      exact SIM.rest ht a1 a5 hq b1 ex_22d
    · obtain ⟨a1, a2, a3, a4, a5⟩ := ack er_4 (e5 ex_5d) htakeAck hanswerSomed
      obtain ⟨b1, b2, b3, b4, b5, b6⟩ := post a1 a4
      have b2i := congrArg Int32.toInt b2
      exfalso
      omega
    · obtain ⟨a1, a2, a3, a4, a5⟩ := ack er_4 (e5 ex_5d) htakeAck hanswerSomed
      obtain ⟨b1, b2, b3, b4, b5, b6⟩ := post a1 a4
      have b2i := congrArg Int32.toInt b2
      exfalso
      exact c2 (c6d.trans b2i.symm)
    · have := hopen hisOpen; exfalso; omega
  · have hx : x_9d.toInt = ((A 13 n_1d).toInt - (A 12 n_1d).toInt) % 64 := by rw [fx_9d]; omega
    have hx5 := e5 ex_5d
    rcases hc with ⟨r_2, hisOpen, c1, r_4, er_4, U_7, hF, htakeAck, c2, c3, eZ, rfl⟩ | ⟨r_2, hisOpen, c1, r_4, er_4, U_7, hF, htakeAck, c2, c3, c4, B_12, rfl, c5, eZ, rfl⟩ | ⟨r_2, hisOpen, c1, r_4, er_4, U_7, hF, htakeAck, c2, c3, c4, B_12, rfl, c5, r_15, U_16, hF_1, hrest, eZ, rfl⟩ | ⟨r_2, hisOpen, c1, r_4, er_4, U_7, hF, htakeAck, c2, c3, c4, eZ, rfl⟩ | ⟨r_2, hisOpen, c1, r_4, er_4, U_7, hF, htakeAck, c2, eZ, rfl⟩ | ⟨r_2, hisOpen, c1, eZ, rfl⟩
    · obtain ⟨a1, a2, a3, a4, a5⟩ := ack er_4 (e5 ex_5d) htakeAck hanswerSomed
      obtain ⟨b1, b2, b3, b4, b5, b6⟩ := post a1 a4
      have b2i := congrArg Int32.toInt b2
      exfalso
      omega
    · obtain ⟨a1, a2, a3, a4, a5⟩ := ack er_4 (e5 ex_5d) htakeAck hanswerSomed
      obtain ⟨b1, b2, b3, b4, b5, b6⟩ := post a1 a4
      have b2i := congrArg Int32.toInt b2
      exfalso
      omega
    · obtain ⟨a1, a2, a3, a4, a5⟩ := ack er_4 (e5 ex_5d) htakeAck hanswerSomed
      obtain ⟨b1, b2, b3, b4, b5, b6⟩ := post a1 a4
      have b2i := congrArg Int32.toInt b2
      obtain ⟨r1, r2⟩ := e_rest hrest
      simp only [uA_u, uA_s] at r1 r2
      have u12 : upd (U_7 (x + 77 + 17 * n_1d)) 9 (U_7 (x + 77 + 17 * n_1d) 8) 12 = U_7 (x + 77 + 17 * n_1d) 12 := rfl
      have u5 : upd (U_7 (x + 77 + 17 * n_1d)) 9 (U_7 (x + 77 + 17 * n_1d) 8) 5 = U_7 (x + 77 + 17 * n_1d) 5 := rfl
      rw [u12] at r1
      rw [u12, u5, b6.2.2.2.1] at r2
      obtain ⟨y1, y2, y3, y4, y5, y6, y7, y8, y9, y10⟩ := b5
      have y2s := y2 b1
      rw [y3.2.2] at r1 r2
      rw [ex_22d] at c9d
      have hu : r = 2 := by
        rcases r2 with ⟨-, e⟩ | ⟨e, -⟩
        · exact absurd e c9d
        · exact e
      rw [hu] at hf
      obtain ⟨-, hf⟩ := hf.resolve_left (fun e => by have := i_2; omega)
      rw [eZ, r1] at hf
      obtain ⟨-, -, f3, -, -⟩ := (SIM.rest ht a1 a5 hq b1 ex_22d).fail (st := 2) (rs := 0) (a5.cg rfl rfl rfl) hq hp (by decide) (by decide) hf hfailPaird
      rw [eZd]
      exact ⟨f3, rfl⟩
    · obtain ⟨a1, a2, a3, a4, a5⟩ := ack er_4 (e5 ex_5d) htakeAck hanswerSomed
      obtain ⟨b1, b2, b3, b4, b5, b6⟩ := post a1 a4
      have b2i := congrArg Int32.toInt b2
      exfalso
      omega
    · obtain ⟨a1, a2, a3, a4, a5⟩ := ack er_4 (e5 ex_5d) htakeAck hanswerSomed
      obtain ⟨b1, b2, b3, b4, b5, b6⟩ := post a1 a4
      have b2i := congrArg Int32.toInt b2
      exfalso
      exact c2 (c6d.trans b2i.symm)
    · have := hopen hisOpen; exfalso; omega
  · have hx : x_9d.toInt = ((A 13 n_1d).toInt - (A 12 n_1d).toInt) % 64 := by rw [fx_9d]; omega
    have hx5 := e5 ex_5d
    rcases hc with ⟨r_2, hisOpen, c1, r_4, er_4, U_7, hF, htakeAck, c2, c3, eZ, rfl⟩ | ⟨r_2, hisOpen, c1, r_4, er_4, U_7, hF, htakeAck, c2, c3, c4, B_12, rfl, c5, eZ, rfl⟩ | ⟨r_2, hisOpen, c1, r_4, er_4, U_7, hF, htakeAck, c2, c3, c4, B_12, rfl, c5, r_15, U_16, hF_1, hrest, eZ, rfl⟩ | ⟨r_2, hisOpen, c1, r_4, er_4, U_7, hF, htakeAck, c2, c3, c4, eZ, rfl⟩ | ⟨r_2, hisOpen, c1, r_4, er_4, U_7, hF, htakeAck, c2, eZ, rfl⟩ | ⟨r_2, hisOpen, c1, eZ, rfl⟩
    · obtain ⟨a1, a2, a3, a4, a5⟩ := ack er_4 (e5 ex_5d) htakeAck hanswerSomed
      obtain ⟨b1, b2, b3, b4, b5, b6⟩ := post a1 a4
      have b2i := congrArg Int32.toInt b2
      exfalso
      omega
    · obtain ⟨a1, a2, a3, a4, a5⟩ := ack er_4 (e5 ex_5d) htakeAck hanswerSomed
      obtain ⟨b1, b2, b3, b4, b5, b6⟩ := post a1 a4
      have b2i := congrArg Int32.toInt b2
      rw [eZ] at hf
      have hf := (hf.resolve_right (fun e => e.1 iz)).2
      rw [hf, eZd]
      exact ⟨SIM.back a1 a5 hq b1, rfl⟩
    · obtain ⟨a1, a2, a3, a4, a5⟩ := ack er_4 (e5 ex_5d) htakeAck hanswerSomed
      obtain ⟨b1, b2, b3, b4, b5, b6⟩ := post a1 a4
      have b2i := congrArg Int32.toInt b2
      exfalso
      omega
    · obtain ⟨a1, a2, a3, a4, a5⟩ := ack er_4 (e5 ex_5d) htakeAck hanswerSomed
      obtain ⟨b1, b2, b3, b4, b5, b6⟩ := post a1 a4
      have b2i := congrArg Int32.toInt b2
      exfalso
      omega
    · obtain ⟨a1, a2, a3, a4, a5⟩ := ack er_4 (e5 ex_5d) htakeAck hanswerSomed
      obtain ⟨b1, b2, b3, b4, b5, b6⟩ := post a1 a4
      have b2i := congrArg Int32.toInt b2
      exfalso
      exact c2 (c6d.trans b2i.symm)
    · have := hopen hisOpen; exfalso; omega
  · have hx : x_9d.toInt = ((A 13 n_1d).toInt - (A 12 n_1d).toInt) % 64 := by rw [fx_9d]; omega
    have hx5 := e5 ex_5d
    rcases hc with ⟨r_2, hisOpen, c1, r_4, er_4, U_7, hF, htakeAck, c2, c3, eZ, rfl⟩ | ⟨r_2, hisOpen, c1, r_4, er_4, U_7, hF, htakeAck, c2, c3, c4, B_12, rfl, c5, eZ, rfl⟩ | ⟨r_2, hisOpen, c1, r_4, er_4, U_7, hF, htakeAck, c2, c3, c4, B_12, rfl, c5, r_15, U_16, hF_1, hrest, eZ, rfl⟩ | ⟨r_2, hisOpen, c1, r_4, er_4, U_7, hF, htakeAck, c2, c3, c4, eZ, rfl⟩ | ⟨r_2, hisOpen, c1, r_4, er_4, U_7, hF, htakeAck, c2, eZ, rfl⟩ | ⟨r_2, hisOpen, c1, eZ, rfl⟩
    · obtain ⟨a1, a2, a3, a4, a5⟩ := ack er_4 (e5 ex_5d) htakeAck hanswerSomed
      obtain ⟨b1, b2, b3, b4, b5, b6⟩ := post a1 a4
      have b2i := congrArg Int32.toInt b2
      rw [eZ] at hf
      obtain ⟨-, hf⟩ := hf.resolve_left (fun e => by omega)
      obtain ⟨-, -, f3, -, -⟩ := a1.fail (rs := 0) a5 hq hp (by rw [if_pos (by omega)]) (by decide) hf hfailPaird
      rw [eZd]
      exact ⟨f3, rfl⟩
    · obtain ⟨a1, a2, a3, a4, a5⟩ := ack er_4 (e5 ex_5d) htakeAck hanswerSomed
      obtain ⟨b1, b2, b3, b4, b5, b6⟩ := post a1 a4
      have b2i := congrArg Int32.toInt b2
      exfalso
      omega
    · obtain ⟨a1, a2, a3, a4, a5⟩ := ack er_4 (e5 ex_5d) htakeAck hanswerSomed
      obtain ⟨b1, b2, b3, b4, b5, b6⟩ := post a1 a4
      have b2i := congrArg Int32.toInt b2
      exfalso
      omega
    · obtain ⟨a1, a2, a3, a4, a5⟩ := ack er_4 (e5 ex_5d) htakeAck hanswerSomed
      obtain ⟨b1, b2, b3, b4, b5, b6⟩ := post a1 a4
      have b2i := congrArg Int32.toInt b2
      rw [eZ] at hf
      obtain ⟨-, hf⟩ := hf.resolve_left (fun e => by omega)
      obtain ⟨-, -, f3, -, -⟩ := a1.fail (rs := 0) a5 hq hp (by rw [if_pos (by omega)]) (by decide) hf hfailPaird
      rw [eZd]
      exact ⟨f3, rfl⟩
    · obtain ⟨a1, a2, a3, a4, a5⟩ := ack er_4 (e5 ex_5d) htakeAck hanswerSomed
      obtain ⟨b1, b2, b3, b4, b5, b6⟩ := post a1 a4
      have b2i := congrArg Int32.toInt b2
      exfalso
      exact c2 (c6d.trans b2i.symm)
    · have := hopen hisOpen; exfalso; omega
  · have hx : x_9d.toInt = ((A 13 n_1d).toInt - (A 12 n_1d).toInt) % 64 := by rw [fx_9d]; omega
    have hx5 := e5 ex_5d
    rcases hc with ⟨r_2, hisOpen, c1, r_4, er_4, U_7, hF, htakeAck, c2, c3, eZ, rfl⟩ | ⟨r_2, hisOpen, c1, r_4, er_4, U_7, hF, htakeAck, c2, c3, c4, B_12, rfl, c5, eZ, rfl⟩ | ⟨r_2, hisOpen, c1, r_4, er_4, U_7, hF, htakeAck, c2, c3, c4, B_12, rfl, c5, r_15, U_16, hF_1, hrest, eZ, rfl⟩ | ⟨r_2, hisOpen, c1, r_4, er_4, U_7, hF, htakeAck, c2, c3, c4, eZ, rfl⟩ | ⟨r_2, hisOpen, c1, r_4, er_4, U_7, hF, htakeAck, c2, eZ, rfl⟩ | ⟨r_2, hisOpen, c1, eZ, rfl⟩
    · obtain ⟨a1, a2, a3, a4, a5⟩ := ack er_4 (e5 ex_5d) htakeAck hanswerSomed
      obtain ⟨b1, b2, b3, b4, b5, b6⟩ := post a1 a4
      have b2i := congrArg Int32.toInt b2
      exfalso
      exact c6d (c2.trans b2i)
    · obtain ⟨a1, a2, a3, a4, a5⟩ := ack er_4 (e5 ex_5d) htakeAck hanswerSomed
      obtain ⟨b1, b2, b3, b4, b5, b6⟩ := post a1 a4
      have b2i := congrArg Int32.toInt b2
      exfalso
      exact c6d (c2.trans b2i)
    · obtain ⟨a1, a2, a3, a4, a5⟩ := ack er_4 (e5 ex_5d) htakeAck hanswerSomed
      obtain ⟨b1, b2, b3, b4, b5, b6⟩ := post a1 a4
      have b2i := congrArg Int32.toInt b2
      exfalso
      exact c6d (c2.trans b2i)
    · obtain ⟨a1, a2, a3, a4, a5⟩ := ack er_4 (e5 ex_5d) htakeAck hanswerSomed
      obtain ⟨b1, b2, b3, b4, b5, b6⟩ := post a1 a4
      have b2i := congrArg Int32.toInt b2
      exfalso
      exact c6d (c2.trans b2i)
    · obtain ⟨a1, a2, a3, a4, a5⟩ := ack er_4 (e5 ex_5d) htakeAck hanswerSomed
      obtain ⟨b1, b2, b3, b4, b5, b6⟩ := post a1 a4
      have b2i := congrArg Int32.toInt b2
      rw [eZ] at hf
      have hf := (hf.resolve_right (fun e => e.1 iz)).2
      rw [hf, eZd]
      exact ⟨a1, rfl⟩
    · have := hopen hisOpen; exfalso; omega
  · rw [eZd]
    have hx : x_9d.toInt = ((A 13 n_1d).toInt - (A 12 n_1d).toInt) % 64 := by rw [fx_9d]; omega
    have hx5 := e5 ex_5d
    rcases hc with ⟨r_2, hisOpen, c1, r_4, er_4, U_7, hF, htakeAck, c2, c3, eZ, rfl⟩ | ⟨r_2, hisOpen, c1, r_4, er_4, U_7, hF, htakeAck, c2, c3, c4, B_12, rfl, c5, eZ, rfl⟩ | ⟨r_2, hisOpen, c1, r_4, er_4, U_7, hF, htakeAck, c2, c3, c4, B_12, rfl, c5, r_15, U_16, hF_1, hrest, eZ, rfl⟩ | ⟨r_2, hisOpen, c1, r_4, er_4, U_7, hF, htakeAck, c2, c3, c4, eZ, rfl⟩ | ⟨r_2, hisOpen, c1, r_4, er_4, U_7, hF, htakeAck, c2, eZ, rfl⟩ | ⟨r_2, hisOpen, c1, eZ, rfl⟩
    · have := hopen hisOpen; exfalso; omega
    · have := hopen hisOpen; exfalso; omega
    · have := hopen hisOpen; exfalso; omega
    · have := hopen hisOpen; exfalso; omega
    · have := hopen hisOpen; exfalso; omega
    · rw [eZ] at hf
      have hf := (hf.resolve_right (fun e => e.1 iz)).2
      rw [hf]
      exact ⟨h, rfl⟩
end
section
theorem j8 {P : Nat → Prop} (h1 : P 41) (h2 : P 42) (h3 : P 43) (h4 : P 44) (h5 : P 45) (h6 : P 46) (h7 : P 47) (h8 : P 48) (j : Nat) (k1 : 41 ≤ j) (k2 : j ≤ 48) : P j := by
  rcases (show j = 41 ∨ j = 42 ∨ j = 43 ∨ j = 44 ∨ j = 45 ∨ j = 46 ∨ j = 47 ∨ j = 48 by omega) with rfl | rfl | rfl | rfl | rfl | rfl | rfl | rfl <;> assumption
theorem EMR.gen {A A1 A' : AA} {cd pk p kd nm mk pl va c1 pk1 r1 sz : Int32} {c : Nat → Int32} (he : D_X10_emit A cd pk p kd nm mk pl va A1 c1 pk1 r1) (hpk : 0 ≤ pk.toInt ∧ pk.toInt ≤ 24) (ho : ∀ j, (j < 41 ∨ 48 < j) → A' j = A j) (h7 : A' 41 = A1 41 ∧ A' 42 = A1 42 ∧ A' 43 = A1 43 ∧ A' 45 = A1 45 ∧ A' 46 = A1 46 ∧ A' 47 = A1 47) (hs : (r1.toInt < 0 ∧ A' 44 = A1 44 ∧ A' 48 = A 48) ∨ ∃ m : Nat, (m : Int) = r1.toInt ∧ A' 44 = upd (A1 44) m sz ∧ (∀ k, ¬ (4 * m ≤ k ∧ k < 4 * m + 4) → A' 48 k = A 48 k) ∧ (kd.toInt = 0 ∨ kd.toInt = 1 ∨ kd.toInt = 4 → ∀ k : Nat, k < 4 → (k : Int) < sz.toInt → A' 48 (4 * m + k) = c k)) : EMR A A' pk pk1 (peerT p) kd nm sz mk pl va c := by
  obtain ⟨n, hn⟩ : ∃ n : Nat, (n : Int) = pk.toInt := ⟨_, Int.toNat_of_nonneg hpk.1⟩
  have im : (-1 : Int32).toInt = -1 := by decide
  obtain ⟨-, hr⟩ := r_emit he hn (by omega)
  clear he
  obtain ⟨a1, a2, a3, a5, a6, a7⟩ := h7
  rcases hr with ⟨n24, e1, e2, e3⟩ | ⟨n24, e1, e2, e3, e4⟩
  · subst e1
    rcases hs with ⟨l1, l2, l3⟩ | ⟨m, l1, -⟩
    · refine Or.inl ⟨by omega, ?_, e2⟩
      funext j
      by_cases e : 41 ≤ j ∧ j ≤ 48
      · exact j8 (P := fun j => A' j = A1 j) a1 a2 a3 l2 a5 a6 a7 l3 j e.1 e.2
      · exact ho j (by omega)
    · rw [e3] at l1; omega
  · rcases hs with ⟨l1, -⟩ | ⟨m, hm, l2, l3, l4⟩
    · rw [e1] at l1; omega
    · rw [e1] at hm
      obtain rfl : m = n := by omega
      subst e4
      refine Or.inr ⟨m, hn, n24, e2, e3, ⟨a1, a2, a3, ?_, a5, a6, a7⟩, l4, l3, ho⟩
      rw [l2]
      show upd (upd (A 44) m 0) m sz = _
      rw [upd_u]
theorem EMR.oth {A A' : AA} {pk pk' to kd nm sz mk pl va : Int32} {c : Nat → Int32} (h : EMR A A' pk pk' to kd nm sz mk pl va c) : ∀ j, (j < 41 ∨ 48 < j) → A' j = A j := by
  rcases h with ⟨-, rfl, -⟩ | ⟨n, -, -, -, -, -, -, -, h⟩
  · exact fun _ _ => rfl
  · exact h
theorem EMR.r24 {A A' : AA} {pk pk' to kd nm sz mk pl va : Int32} {c : Nat → Int32} (h : EMR A A' pk pk' to kd nm sz mk pl va c) : ∀ j, 41 ≤ j → j ≤ 47 → A' j 24 = A j 24 := by
  rcases h with ⟨-, rfl, -⟩ | ⟨n, -, h2, -, -, ⟨e1, e2, e3, e4, e5, e6, e7⟩, -⟩
  · exact fun _ _ _ => rfl
  · intro j a b
    rcases (show j = 41 ∨ j = 42 ∨ j = 43 ∨ j = 44 ∨ j = 45 ∨ j = 46 ∨ j = 47 by omega) with rfl | rfl | rfl | rfl | rfl | rfl | rfl
    · rw [e1, upd_n (by omega)]
    · rw [e2, upd_n (by omega)]
    · rw [e3, upd_n (by omega)]
    · rw [e4, upd_n (by omega)]
    · rw [e5, upd_n (by omega)]
    · rw [e6, upd_n (by omega)]
    · rw [e7, upd_n (by omega)]
/-- a packet is sent on both sides, nothing else is done -/
theorem SIM.em {x : Nat} {t0 t1 t2 : Int32} {B U : AA} {R : RR} {A A2 : AA} {pk pk' : Int32} (h : SIM x t0 t1 t2 B R A pk) (hV : RW A pk) {to kd nm sz mk pl va : Int32} {c : Nat → Int32} (hE : ∀ (pm : Nat → Nat) (tk : Nat), DYN x R pm tk → EMC x pm B U to kd nm sz mk pl va c) (hR : EMR A A2 pk pk' to kd nm sz mk pl va c) (hv : PKV kd nm sz mk) : SIM x t0 t1 t2 U R A2 pk' ∧ RW A2 pk' ∧ (∀ tk, R (x + 1) 2 = x + 3 + 2 * tk → TKP x tk B A → TKP x tk U A2) ∧ (∀ a, ¬ (x + 1 ≤ a ∧ a < x + 55) → U a = B a) ∧ (∀ j, (j < 41 ∨ 48 < j) → A2 j = A j) ∧ ∀ j, 41 ≤ j → j ≤ 47 → A2 j 24 = A j 24 := by
  have ho := hR.oth
  have e : mixF A A2 = A2 := by
    funext j
    by_cases k : 41 ≤ j ∧ j ≤ 48
    · exact mixF_i k
    · rw [mixF_o k, ho j (by omega)]
  obtain ⟨m1, m2, m3, m4⟩ := h.emit hV (A0 := A) (fun _ _ _ => rfl) hE hR hv
  rw [e] at m1 m2 m3
  exact ⟨m1, m2, m3, m4, ho, hR.r24⟩
/-- how many packets the fabric holds -/
theorem SIM.np {x : Nat} {t0 t1 t2 : Int32} {B : AA} {R : RR} {A : AA} {pk : Int32} (h : SIM x t0 t1 t2 B R A pk) (hV : RW A pk) : ∃ n : Nat, (n : Int) = (B (x + 1) 1).toInt ∧ n ≤ 24 := by
  obtain ⟨-, ⟨pm, tk, -, hF⟩, -⟩ := h
  have e := congrArg Int32.toInt hF.1
  have hp := hV.2.2
  exact ⟨pk.toInt.toNat, by omega, by omega⟩
theorem e_refuse {x q n : Nat} {G : Nat → Nat} {B : AA} {R : RR} (hS : SHX x R) (hq : q < 4) (hn : (n : Int) = (B (x + 1) 1).toInt) (h24 : n ≤ 24) {nm mk : Int32} {Z : AA} {c : Nat → Int32} (hc : C_X8_refuse G B R (x + 85 + 17 * q) nm mk Z) : ∀ (pm : Nat → Nat) (tk : Nat), DYN x R pm tk → EMC x pm B Z (B (x + 85 + 17 * q) 0) 6 nm 0 mk (-1) 0 c := by
  intro pm tk hD
  have i6 : (6 : Int32).toInt = 6 := by decide
  rcases hc with ⟨r_5, U_6, hF, hcarry, B_8, rfl, rfl⟩
  rw [(hS.2.2.2.2.2.1 q hq).2.1] at hcarry
  obtain ⟨b1, -⟩ := e_carry2 hS hD hcarry hn h24
  have k := EMC.put hS hD hcarry hn h24 (f := upd (U_6 r_5) 4 mk) (c := c) (by rw [b1]; rfl) (by rw [b1]; rfl) (by rw [b1]; rfl) (fun h => by omega)
  have e3 : upd (U_6 r_5) 4 mk 3 = 0 := by rw [b1]; rfl
  have e5 : upd (U_6 r_5) 4 mk 5 = -1 := by rw [b1]; rfl
  have e6 : upd (U_6 r_5) 4 mk 6 = 0 := by rw [b1]; rfl
  rw [e3, e5, e6, upd_s] at k
  exact k
theorem e_ack {x q n : Nat} {G : Nat → Nat} {B : AA} {R : RR} (hS : SHX x R) (hq : q < 4) (hn : (n : Int) = (B (x + 1) 1).toInt) (h24 : n ≤ 24) {nm : Int32} {Z : AA} {c : Nat → Int32} (hc : C_X8_acknowledge G B R (x + 85 + 17 * q) nm Z) : ∀ (pm : Nat → Nat) (tk : Nat), DYN x R pm tk → EMC x pm B Z (B (x + 85 + 17 * q) 0) 5 nm 0 (-1) (-1) 0 c := by
  intro pm tk hD
  rcases hc with ⟨r_5, U_6, hF, hcarry, rfl⟩
  rw [(hS.2.2.2.2.2.1 q hq).2.1] at hcarry
  obtain ⟨b1, b2, b3, b4, b5⟩ := e_carry2 hS hD hcarry hn h24
  have i5 : (5 : Int32).toInt = 5 := by decide
  exact b5 (by rw [b1]; rfl) (by rw [b1]; rfl) (by rw [b1]; rfl) (by rw [b1]; rfl) (by rw [b1]; rfl) (by rw [b1]; rfl) (by rw [b1]; rfl) (fun h => by omega) (fun _ _ _ => rfl)
theorem e_replyOne {x q n : Nat} {G : Nat → Nat} {B : AA} {R : RR} (hS : SHX x R) (hq : q < 4) (hn : (n : Int) = (B (x + 1) 1).toInt) (h24 : n ≤ 24) {nm v : Int32} {Z : AA} (hc : C_X8_replyOne G B R (x + 85 + 17 * q) nm v Z) : ∀ (pm : Nat → Nat) (tk : Nat), DYN x R pm tk → EMC x pm B Z (B (x + 85 + 17 * q) 0) 4 nm 1 (-1) (-1) 0 (fun _ => v) := by
  intro pm tk hD
  rcases hc with ⟨r_5, U_6, hF, hcarry, B_9, rfl, B_13, rfl, rfl⟩
  rw [(hS.2.2.2.2.2.1 q hq).2.1] at hcarry
  obtain ⟨b1, b2, b3, b4, b5⟩ := e_carry2 hS hD hcarry hn h24
  rw [b2]
  have i1 := i_1t
  have zr : ∀ g, uA (uA U_6 r_5 (upd (U_6 r_5) 3 1)) (r_5 + 1) g r_5 = upd (bc (B r_5) (B (x + 85 + 17 * q) 0) 4 nm) 3 1 := fun g => by rw [uA_n (by omega), uA_s, b1]
  refine b5 (by rw [zr]; rfl) (by rw [zr]; rfl) (by rw [zr]; rfl) (by rw [zr]; rfl) (by rw [zr]; rfl) (by rw [zr]; rfl) (by rw [zr]; rfl) (fun _ k k1 k2 => ?_) (fun a h1 h2 => by rw [uA_n h2, uA_n h1])
  obtain rfl : k = 0 := by omega
  rw [uA_s, upd_s]
theorem r_ack {A : AA} {cd pk p nm : Int32} {A' : AA} {cdz pkz : Int32} {c : Nat → Int32} (h : D_X10_ack A cd pk p nm A' cdz pkz) (hpk : 0 ≤ pk.toInt ∧ pk.toInt ≤ 24) : EMR A A' pk pkz (peerT p) 5 nm 0 (-1) (-1) 0 c := by
  have i5 : (5 : Int32).toInt = 5 := by decide
  rcases h with ⟨ur_1, r_1, hemit, c1, c2, c3, c4, c5, c6, rfl, rfl, rfl⟩ | ⟨ur_1, r_1, hemit, c1, c2, c3, c4, c5, c6, n_5, hn_5, g_4, rfl, rfl, rfl, rfl⟩
  · exact EMR.gen hemit hpk (fun j hj => by rw [uA_n (by omega), uA_n (by omega), uA_n (by omega), uA_n (by omega), uA_n (by omega), uA_n (by omega), uA_n (by omega)]) ⟨rfl, rfl, rfl, rfl, rfl, rfl⟩ (Or.inl ⟨c6, rfl, rfl⟩)
  · exact EMR.gen hemit hpk (fun j hj => by rw [uA_n (by omega), uA_n (by omega), uA_n (by omega), uA_n (by omega), uA_n (by omega), uA_n (by omega), uA_n (by omega)]) ⟨rfl, rfl, rfl, rfl, rfl, rfl⟩ (Or.inr ⟨n_5, hn_5, rfl, fun _ _ => rfl, fun h => by omega⟩)
theorem r_replyOld {A : AA} {cd pk p v : Int32} {A' : AA} {cdz pkz : Int32} (h : D_X10_replyOld A cd pk p v A' cdz pkz) (hpk : 0 ≤ pk.toInt ∧ pk.toInt ≤ 24) : EMR A A' pk pkz (peerT p) 4 (A 43 24) 1 (-1) (-1) 0 (fun _ => v) := by
  have i1 := i_1t
  rcases h with ⟨ur_2, r_2, hemit, c1, c2, c3, c4, c5, c6, n_6, hn_6, g_5, rfl, x_7, ex_7, fx_7, n_10, hn_10, g_9, rfl, rfl, rfl, rfl⟩ | ⟨ur_2, r_2, hemit, c1, c2, c3, c4, c5, c6, rfl, rfl, rfl⟩
  · refine EMR.gen hemit hpk (fun j hj => by rw [uA_n (by omega), uA_n (by omega), uA_n (by omega), uA_n (by omega), uA_n (by omega), uA_n (by omega), uA_n (by omega), uA_n (by omega)]) ⟨rfl, rfl, rfl, rfl, rfl, rfl⟩ (Or.inr ⟨n_6, hn_6, rfl, fun k hk => ?_, fun _ k k1 k2 => ?_⟩)
    · rw [uA_s, upd_n (by omega)]
    · obtain rfl : n_10 = 4 * n_6 := by omega
      obtain rfl : k = 0 := by omega
      rw [uA_s, Nat.add_zero, upd_s]
  · exact EMR.gen hemit hpk (fun j hj => by rw [uA_n (by omega), uA_n (by omega), uA_n (by omega), uA_n (by omega), uA_n (by omega), uA_n (by omega), uA_n (by omega), uA_n (by omega)]) ⟨rfl, rfl, rfl, rfl, rfl, rfl⟩ (Or.inl ⟨by omega, rfl, rfl⟩)
/-- a reply with cells -/
theorem s_load {x nd q f0 : Nat} {G : Nat → Nat} {t0 t1 t2 : Int32} {B : AA} {R : RR} {A : AA} {pk : Int32} (h : SIM x t0 t1 t2 B R A pk) (hV : RW A pk) (hnd : nd < 2) (hq : q < 4) {p to : Int32} (hp : (q : Int) = p.toInt) (eto : to = peerT p) (end2 : nd = q % 2) {nm : Int32} (hnm : 0 ≤ nm.toInt ∧ nm.toInt ≤ 63) {U : AA} {r : Nat} (hcar : C_X0_carry G B R (x + 1) to 4 nm U r) {s s2 : Int32} {Z : AA} (hl : C_X2_load G U R r (x + 56 + 10 * nd) s s2 Z) (hf : (f0 : Int) = s.toInt) (h1 : 1 ≤ s2.toInt) (h32 : s.toInt + s2.toInt ≤ 32) {A1 A2 : AA} {cd c1 pk1 r1 c1' pk1' f sz c2 pk2 : Int32} (he : D_X10_emit A cd pk p 4 nm (-1) (-1) 0 A1 c1 pk1 r1) (hld : D_X10_load A1 c1' pk1' r1 p f sz A2 c2 pk2) (hf2 : f.toInt = s.toInt) (hsz : sz.toInt = if 4 < s2.toInt then 4 else s2.toInt) : SIM x t0 t1 t2 Z R A2 pk1 ∧ RW A2 pk1 ∧ (∀ tk, R (x + 1) 2 = x + 3 + 2 * tk → TKP x tk B A → TKP x tk Z A2) ∧ (∀ a, ¬ (x + 1 ≤ a ∧ a < x + 55) → Z a = B a) ∧ (∀ j, (j < 41 ∨ 48 < j) → A2 j = A j) ∧ ∀ j, 41 ≤ j → j ≤ 47 → A2 j 24 = A j 24 := by
  have i4 := i_4
  have hsz1 : 1 ≤ sz.toInt ∧ sz.toInt ≤ 4 ∧ sz.toInt ≤ s2.toInt := by rw [hsz]; split <;> omega
  have hR := EMR.load (nd := nd) (f0 := f0) he hld hV.2.2 (by subst end2; exact nd2 hp) (by omega) (by omega)
  obtain ⟨n, hn, h24⟩ := h.np hV
  refine h.em hV (fun pm tk hD => ?_) hR ⟨hnm, by omega, fun e => by omega, fun e => by omega, fun _ => by omega, fun e => by omega⟩
  obtain ⟨b1, -⟩ := e_carry2 h.1 hD hcar hn h24
  have hl' : C_X2_load G (uA U r (U r)) R r (x + 56 + 10 * nd) s s2 Z := by rw [uA_ii]; exact hl
  obtain ⟨sz', es, hE⟩ := EMC.load h.1 hnd hD hcar hn h24 (f := U r) (by rw [b1]; rfl) (by rw [b1]; rfl) (by rw [b1]; rfl) hl' hf (by omega) h32
  have e4 : U r 4 = -1 := by rw [b1]; rfl
  have e5 : U r 5 = -1 := by rw [b1]; rfl
  have e6 : U r 6 = 0 := by rw [b1]; rfl
  have ez : sz' = sz := i32_eq (by rw [es, hsz])
  rw [e4, e5, e6, ez, eto] at hE
  refine hE.cgc (fun _ k k4 ks => ?_)
  show B (x + 57 + 10 * nd) (f0 + k) = A 4 (32 * nd + f0 + k)
  rw [h.2.2.1 nd hnd (f0 + k) (by omega), Nat.add_assoc]
end
