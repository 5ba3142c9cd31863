def bc (b : Nat → Int32) (p k n : Int32) : Nat → Int32 := upd (upd (upd (upd (upd (upd (upd b 0 p) 1 k) 2 n) 3 0) 4 (-1)) 5 (-1)) 6 0
theorem e_become {G : Nat → Nat} {B : AA} {R : RR} {a : Nat} {p k n : Int32} {Z : AA} (h : C_X2_become G B R a p k n Z) : Z = uA B a (bc (B a) p k n) := by
  rcases h with ⟨B_3, rfl, B_5, rfl, B_7, rfl, B_10, rfl, B_12, rfl, B_14, rfl, B_16, rfl, rfl⟩
  simp only [uA_u, uA_s]
  rfl
theorem e_carry {x : Nat} {G : Nat → Nat} {B : AA} {R : RR} (hS : SHX x R) {pm : Nat → Nat} {tk : Nat} (hD : DYN x R pm tk) {pr kd nm : Int32} {Z : AA} {r n : Nat} (hc : C_X0_carry G B R (x + 1) pr kd nm Z r) (hn : (n : Int) = (B (x + 1) 1).toInt) (h24 : n ≤ 24) : (n = 24 ∧ r = x + 5 ∧ Z = uA B (x + 5) (bc (B (x + 5)) pr kd nm)) ∨ (n < 24 ∧ r = x + 3 + 2 * pm n ∧ ∃ c : Int32, c = B (x + 1) 1 + 1 ∧ c.toInt = (B (x + 1) 1).toInt + 1 ∧ Z = uA (uA B (x + 1) (upd (B (x + 1)) 1 c)) (x + 3 + 2 * pm n) (bc (B (x + 3 + 2 * pm n)) pr kd nm)) := by
  have r0 := hS.2.2.2.2.2.2.2
  rcases hc with ⟨r_2, hisFull, c1, x_7, ex_7, fx_7, B_9, rfl, n_12, hn_12, U_16, hF, hbecome, rfl, rfl⟩ | ⟨r_2, hisFull, c1, U_21, hF, hbecome, rfl, rfl⟩
  · rcases hisFull with ⟨c1a, rfl⟩ | ⟨c1a, rfl⟩
    · right
      obtain rfl : n_12 = n := by omega
      have hlt : n_12 < 24 := by omega
      rw [r0.1, hD.2.1 n_12 hlt] at hbecome
      refine ⟨hlt, by rw [r0.1, hD.2.1 n_12 hlt], x_7, ex_7, fx_7, ?_⟩
      have e := e_become hbecome
      rw [uA_n (show x + 3 + 2 * pm n_12 ≠ x + 1 by omega)] at e
      exact e
    · exact absurd c1 (by decide)
  · rcases hisFull with ⟨c1a, rfl⟩ | ⟨c1a, rfl⟩
    · exact absurd i_0 c1
    · left
      rw [r0.2.1] at hbecome
      exact ⟨by omega, r0.2.1, e_become hbecome⟩
/-- a packet was sent: the class -/
def EMC (x : Nat) (pm : Nat → Nat) (B Z : AA) (to kd nm sz mk pl va : Int32) (c : Nat → Int32) : Prop := ((B (x + 1) 1).toInt = 24 ∧ ∀ a, a ≠ x + 5 → a ≠ x + 6 → Z a = B a) ∨ ∃ n : Nat, (n : Int) = (B (x + 1) 1).toInt ∧ n < 24 ∧ ∃ d : Int32, d = B (x + 1) 1 + 1 ∧ d.toInt = (B (x + 1) 1).toInt + 1 ∧ Z (x + 1) = upd (B (x + 1)) 1 d ∧ (Z (x + 3 + 2 * pm n) 0 = to ∧ Z (x + 3 + 2 * pm n) 1 = kd ∧ Z (x + 3 + 2 * pm n) 2 = nm ∧ Z (x + 3 + 2 * pm n) 3 = sz ∧ Z (x + 3 + 2 * pm n) 4 = mk ∧ Z (x + 3 + 2 * pm n) 5 = pl ∧ Z (x + 3 + 2 * pm n) 6 = va) ∧ (kd.toInt = 0 ∨ kd.toInt = 1 ∨ kd.toInt = 4 → ∀ k : Nat, k < 4 → (k : Int) < sz.toInt → Z (x + 4 + 2 * pm n) k = c k) ∧ ∀ a, a ≠ x + 1 → a ≠ x + 3 + 2 * pm n → a ≠ x + 4 + 2 * pm n → Z a = B a
/-- a packet was sent: the reference -/
def EMR (A A' : AA) (pk pk' to kd nm sz mk pl va : Int32) (c : Nat → Int32) : Prop := (pk.toInt = 24 ∧ A' = A ∧ pk' = pk) ∨ ∃ n : Nat, (n : Int) = pk.toInt ∧ n < 24 ∧ pk' = pk + 1 ∧ pk'.toInt = pk.toInt + 1 ∧ (A' 41 = upd (A 41) n to ∧ A' 42 = upd (A 42) n kd ∧ A' 43 = upd (A 43) n nm ∧ A' 44 = upd (A 44) n sz ∧ A' 45 = upd (A 45) n mk ∧ A' 46 = upd (A 46) n pl ∧ A' 47 = upd (A 47) n va) ∧ (kd.toInt = 0 ∨ kd.toInt = 1 ∨ kd.toInt = 4 → ∀ k : Nat, k < 4 → (k : Int) < sz.toInt → A' 48 (4 * n + k) = c k) ∧ (∀ k, ¬ (4 * n ≤ k ∧ k < 4 * n + 4) → A' 48 k = A 48 k) ∧ ∀ j, (j < 41 ∨ 48 < j) → A' j = A j
def PKV (kd nm sz mk : Int32) : Prop := (0 ≤ nm.toInt ∧ nm.toInt ≤ 63) ∧ (0 ≤ kd.toInt ∧ kd.toInt ≤ 6) ∧ (kd.toInt = 0 → 0 ≤ mk.toInt ∧ mk.toInt ≤ 3) ∧ (kd.toInt = 6 → 1 ≤ mk.toInt ∧ mk.toInt ≤ 4) ∧ (kd.toInt = 0 ∨ kd.toInt = 1 ∨ kd.toInt = 4 → 1 ≤ sz.toInt ∧ sz.toInt ≤ 4) ∧ (kd.toInt = 2 → 1 ≤ sz.toInt ∧ sz.toInt ≤ 12)
/-- the taken packet is row 24 -/
def TKP (x : Nat) (tk : Nat) (B A : AA) : Prop := PKT (B (x + 3 + 2 * tk)) (B (x + 4 + 2 * tk)) A 24
theorem FB.emit {x : Nat} {R : RR} {pm : Nat → Nat} {tk : Nat} {B Z A A' : AA} {pk pk' to kd nm sz mk pl va : Int32} {c : Nat → Int32} (hD : DYN x R pm tk) (h : FB x pm B A pk) (h1 : EMC x pm B Z to kd nm sz mk pl va c) (h2 : EMR A A' pk pk' to kd nm sz mk pl va c) (hv : PKV kd nm sz mk) : FB x pm Z A' pk' ∧ (TKP x tk B A → TKP x tk Z A') ∧ (∀ a, ¬ (x + 1 ≤ a ∧ a < x + 55) → Z a = B a) ∧ ∀ j, (j < 41 ∨ 48 < j) → A' j = A j := by
  have hf := h.1
  have hfi := congrArg Int32.toInt hf
  obtain ⟨d1, d2, d3, d4, d5, d6⟩ := hD
  rcases h1 with ⟨a1, a2⟩ | ⟨n, a1, a2, d, a3, a4, a5, a6, a7, a8⟩
  · rcases h2 with ⟨b1, rfl, rfl⟩ | ⟨n, b1, b2, _⟩
    · refine ⟨⟨by rw [a2 _ (by omega) (by omega)]; exact hf, fun i hi => ?_⟩, fun t => ?_, fun a k => a2 a (by omega) (by omega), fun _ _ => rfl⟩
      · have := d5 i (by omega)
        exact (h.2 i hi).cg (a2 _ (by omega) (by omega)) (a2 _ (by omega) (by omega)) (fun _ _ _ => rfl) (fun _ _ => rfl)
      · exact PKT.cg t (a2 _ (by omega) (by omega)) (a2 _ (by omega) (by omega)) (fun _ _ _ => rfl) (fun _ _ => rfl)
    · exfalso; omega
  · rcases h2 with ⟨b1, -⟩ | ⟨m, b1, b2, b3, b4, ⟨e1, e2, e3, e4, e5, e6, e7⟩, b6, b7, b8⟩
    · exfalso; omega
    · obtain rfl : m = n := by omega
      have hp := d5 m b2
      have oth : ∀ j, 41 ≤ j → j ≤ 47 → ∀ i, i ≠ m → A' j i = A j i := fun j k1 k2 i hi => by
        rcases (show j = 41 ∨ j = 42 ∨ j = 43 ∨ j = 44 ∨ j = 45 ∨ j = 46 ∨ j = 47 by omega) with rfl | rfl | rfl | rfl | rfl | rfl | rfl
        · rw [e1, upd_n hi]
        · rw [e2, upd_n hi]
        · rw [e3, upd_n hi]
        · rw [e4, upd_n hi]
        · rw [e5, upd_n hi]
        · rw [e6, upd_n hi]
        · rw [e7, upd_n hi]
      refine ⟨⟨?_, fun i hi => ?_⟩, fun t => ?_, fun a k => a8 a (by omega) (by omega) (by omega), b8⟩
      · rw [a5, upd_s, a3, b3, hf]
      · by_cases e : i = m
        · subst e
          unfold PKT PKR
          rw [e1, e2, e3, e4, e5, e6, e7, upd_s, upd_s, upd_s, upd_s, upd_s, upd_s, upd_s]
          exact ⟨a6, fun hk k k1 k2 => by rw [a7 hk k k1 k2, b6 hk k k1 k2], hv⟩
        · have hpi := d5 i (by omega)
          have hne : pm i ≠ pm m := fun k => e (d6 _ _ (by omega) b2 k)
          exact (h.2 i (by omega)).cg (a8 _ (by omega) (by omega) (by omega)) (a8 _ (by omega) (by omega) (by omega)) (fun j k1 k2 => oth j k1 k2 i e) (fun k k1 => b7 _ (by omega))
      · exact PKT.cg t (a8 _ (by omega) (by omega) (by omega)) (a8 _ (by omega) (by omega) (by omega)) (fun j k1 k2 => oth j k1 k2 24 (by omega)) (fun k k1 => b7 _ (by omega))
/-- the reference's emit -/
theorem r_emit {A : AA} {cd pk q kd nm mk pl va : Int32} {Z : AA} {cdz pkz r : Int32} {n : Nat} (h : D_X10_emit A cd pk q kd nm mk pl va Z cdz pkz r) (hn : (n : Int) = pk.toInt) (h24 : n ≤ 24) : cdz = cd ∧ ((n = 24 ∧ Z = A ∧ pkz = pk ∧ r = -1) ∨ (n < 24 ∧ r = pk ∧ pkz = pk + 1 ∧ pkz.toInt = pk.toInt + 1 ∧ Z = uA (uA (uA (uA (uA (uA (uA A 41 (upd (A 41) n (peerT q))) 42 (upd (A 42) n kd)) 43 (upd (A 43) n nm)) 44 (upd (A 44) n 0)) 45 (upd (A 45) n mk)) 46 (upd (A 46) n pl)) 47 (upd (A 47) n va))) := by
  rcases h with ⟨c1, x_2, ex_2, fx_2, x_3, ex_3, n_6, hn_6, g_5, rfl, g_7, rfl, g_8, rfl, g_9, rfl, g_10, rfl, g_11, rfl, g_12, rfl, rfl, rfl, rfl, rfl⟩ | ⟨c1, rfl, rfl, rfl, rfl⟩
  · obtain rfl : n_6 = n := by omega
    subst ex_3
    exact ⟨rfl, Or.inr ⟨by omega, rfl, ex_2, fx_2, rfl⟩⟩
  · exact ⟨rfl, Or.inl ⟨by omega, by simp only [uA_ii], rfl, rfl⟩⟩
theorem peer_e {q : Nat} (hq : q < 4) {p : Int32} (hp : (q : Int) = p.toInt) : (peerT p).toInt = (q : Int) + 1 - 2 * ((q % 2 : Nat) : Int) := by
  obtain ⟨j, hj, rfl⟩ := vp_in_of (x := p) (n := 4) (vp_in_iff.mpr ⟨by omega, by omega⟩) (by decide)
  rw [nI_toInt (by omega)] at hp
  obtain rfl : q = j := by omega
  rcases (show q = 0 ∨ q = 1 ∨ q = 2 ∨ q = 3 by omega) with rfl | rfl | rfl | rfl <;> decide
