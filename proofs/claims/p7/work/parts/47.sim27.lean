theorem j8 {P : Nat → Prop} (h1 : P 41) (h2 : P 42) (h3 : P 43) (h4 : P 44) (h5 : P 45) (h6 : P 46) (h7 : P 47) (h8 : P 48) (j : Nat) (k1 : 41 ≤ j) (k2 : j ≤ 48) : P j := by
  rcases (show j = 41 ∨ j = 42 ∨ j = 43 ∨ j = 44 ∨ j = 45 ∨ j = 46 ∨ j = 47 ∨ j = 48 by omega) with rfl | rfl | rfl | rfl | rfl | rfl | rfl | rfl <;> assumption
theorem EMR.gen {A A1 A' : AA} {cd pk p kd nm mk pl va c1 pk1 r1 sz : Int32} {c : Nat → Int32} (he : D_X10_emit A cd pk p kd nm mk pl va A1 c1 pk1 r1) (hpk : 0 ≤ pk.toInt ∧ pk.toInt ≤ 24) (ho : ∀ j, (j < 41 ∨ 48 < j) → A' j = A j) (h7 : A' 41 = A1 41 ∧ A' 42 = A1 42 ∧ A' 43 = A1 43 ∧ A' 45 = A1 45 ∧ A' 46 = A1 46 ∧ A' 47 = A1 47) (hs : (r1.toInt < 0 ∧ A' 44 = A1 44 ∧ A' 48 = A 48) ∨ ∃ m : Nat, (m : Int) = r1.toInt ∧ A' 44 = upd (A1 44) m sz ∧ (∀ k, ¬ (4 * m ≤ k ∧ k < 4 * m + 4) → A' 48 k = A 48 k) ∧ (kd.toInt = 0 ∨ kd.toInt = 1 ∨ kd.toInt = 4 → ∀ k : Nat, k < 4 → (k : Int) < sz.toInt → A' 48 (4 * m + k) = c k)) : EMR A A' pk pk1 (peerT p) kd nm sz mk pl va c := by
  obtain ⟨n, hn⟩ : ∃ n : Nat, (n : Int) = pk.toInt := ⟨_, Int.toNat_of_nonneg hpk.1⟩
  have im : (-1 : Int32).toInt = -1 := by decide
  obtain ⟨-, hr⟩ := r_emit he hn (by omega)
  clear he
  obtain ⟨a1, a2, a3, a5, a6, a7⟩ := h7
  rcases hr with ⟨n24, e1, e2, e3⟩ | ⟨n24, e1, e2, e3, e4⟩
  · subst e1
    rcases hs with ⟨l1, l2, l3⟩ | ⟨m, l1, -⟩
    · refine Or.inl ⟨by omega, ?_, e2⟩
      funext j
      by_cases e : 41 ≤ j ∧ j ≤ 48
      · exact j8 (P := fun j => A' j = A1 j) a1 a2 a3 l2 a5 a6 a7 l3 j e.1 e.2
      · exact ho j (by omega)
    · rw [e3] at l1; omega
  · rcases hs with ⟨l1, -⟩ | ⟨m, hm, l2, l3, l4⟩
    · rw [e1] at l1; omega
    · rw [e1] at hm
      obtain rfl : m = n := by omega
      subst e4
      refine Or.inr ⟨m, hn, n24, e2, e3, ⟨a1, a2, a3, ?_, a5, a6, a7⟩, l4, l3, ho⟩
      rw [l2]
      show upd (upd (A 44) m 0) m sz = _
      rw [upd_u]
theorem EMR.oth {A A' : AA} {pk pk' to kd nm sz mk pl va : Int32} {c : Nat → Int32} (h : EMR A A' pk pk' to kd nm sz mk pl va c) : ∀ j, (j < 41 ∨ 48 < j) → A' j = A j := by
  rcases h with ⟨-, rfl, -⟩ | ⟨n, -, -, -, -, -, -, -, h⟩
  · exact fun _ _ => rfl
  · exact h
theorem EMR.r24 {A A' : AA} {pk pk' to kd nm sz mk pl va : Int32} {c : Nat → Int32} (h : EMR A A' pk pk' to kd nm sz mk pl va c) : ∀ j, 41 ≤ j → j ≤ 47 → A' j 24 = A j 24 := by
  rcases h with ⟨-, rfl, -⟩ | ⟨n, -, h2, -, -, ⟨e1, e2, e3, e4, e5, e6, e7⟩, -⟩
  · exact fun _ _ _ => rfl
  · intro j a b
    rcases (show j = 41 ∨ j = 42 ∨ j = 43 ∨ j = 44 ∨ j = 45 ∨ j = 46 ∨ j = 47 by omega) with rfl | rfl | rfl | rfl | rfl | rfl | rfl
    · rw [e1, upd_n (by omega)]
    · rw [e2, upd_n (by omega)]
    · rw [e3, upd_n (by omega)]
    · rw [e4, upd_n (by omega)]
    · rw [e5, upd_n (by omega)]
    · rw [e6, upd_n (by omega)]
    · rw [e7, upd_n (by omega)]
/-- a packet is sent on both sides, nothing else is done -/
theorem SIM.em {x : Nat} {t0 t1 t2 : Int32} {B U : AA} {R : RR} {A A2 : AA} {pk pk' : Int32} (h : SIM x t0 t1 t2 B R A pk) (hV : RW A pk) {to kd nm sz mk pl va : Int32} {c : Nat → Int32} (hE : ∀ (pm : Nat → Nat) (tk : Nat), DYN x R pm tk → EMC x pm B U to kd nm sz mk pl va c) (hR : EMR A A2 pk pk' to kd nm sz mk pl va c) (hv : PKV kd nm sz mk) : SIM x t0 t1 t2 U R A2 pk' ∧ RW A2 pk' ∧ (∀ tk, R (x + 1) 2 = x + 3 + 2 * tk → TKP x tk B A → TKP x tk U A2) ∧ (∀ a, ¬ (x + 1 ≤ a ∧ a < x + 55) → U a = B a) ∧ (∀ j, (j < 41 ∨ 48 < j) → A2 j = A j) ∧ ∀ j, 41 ≤ j → j ≤ 47 → A2 j 24 = A j 24 := by
  have ho := hR.oth
  have e : mixF A A2 = A2 := by
    funext j
    by_cases k : 41 ≤ j ∧ j ≤ 48
    · exact mixF_i k
    · rw [mixF_o k, ho j (by omega)]
  obtain ⟨m1, m2, m3, m4⟩ := h.emit hV (A0 := A) (fun _ _ _ => rfl) hE hR hv
  rw [e] at m1 m2 m3
  exact ⟨m1, m2, m3, m4, ho, hR.r24⟩
/-- how many packets the fabric holds -/
theorem SIM.np {x : Nat} {t0 t1 t2 : Int32} {B : AA} {R : RR} {A : AA} {pk : Int32} (h : SIM x t0 t1 t2 B R A pk) (hV : RW A pk) : ∃ n : Nat, (n : Int) = (B (x + 1) 1).toInt ∧ n ≤ 24 := by
  obtain ⟨-, ⟨pm, tk, -, hF⟩, -⟩ := h
  have e := congrArg Int32.toInt hF.1
  have hp := hV.2.2
  exact ⟨pk.toInt.toNat, by omega, by omega⟩
theorem e_refuse {x q n : Nat} {G : Nat → Nat} {B : AA} {R : RR} (hS : SHX x R) (hq : q < 4) (hn : (n : Int) = (B (x + 1) 1).toInt) (h24 : n ≤ 24) {nm mk : Int32} {Z : AA} {c : Nat → Int32} (hc : C_X8_refuse G B R (x + 85 + 17 * q) nm mk Z) : ∀ (pm : Nat → Nat) (tk : Nat), DYN x R pm tk → EMC x pm B Z (B (x + 85 + 17 * q) 0) 6 nm 0 mk (-1) 0 c := by
  intro pm tk hD
  have i6 : (6 : Int32).toInt = 6 := by decide
  rcases hc with ⟨r_5, U_6, hF, hcarry, B_8, rfl, rfl⟩
  rw [(hS.2.2.2.2.2.1 q hq).2.1] at hcarry
  obtain ⟨b1, -⟩ := e_carry2 hS hD hcarry hn h24
  have k := EMC.put hS hD hcarry hn h24 (f := upd (U_6 r_5) 4 mk) (c := c) (by rw [b1]; rfl) (by rw [b1]; rfl) (by rw [b1]; rfl) (fun h => by omega)
  have e3 : upd (U_6 r_5) 4 mk 3 = 0 := by rw [b1]; rfl
  have e5 : upd (U_6 r_5) 4 mk 5 = -1 := by rw [b1]; rfl
  have e6 : upd (U_6 r_5) 4 mk 6 = 0 := by rw [b1]; rfl
  rw [e3, e5, e6, upd_s] at k
  exact k
theorem e_ack {x q n : Nat} {G : Nat → Nat} {B : AA} {R : RR} (hS : SHX x R) (hq : q < 4) (hn : (n : Int) = (B (x + 1) 1).toInt) (h24 : n ≤ 24) {nm : Int32} {Z : AA} {c : Nat → Int32} (hc : C_X8_acknowledge G B R (x + 85 + 17 * q) nm Z) : ∀ (pm : Nat → Nat) (tk : Nat), DYN x R pm tk → EMC x pm B Z (B (x + 85 + 17 * q) 0) 5 nm 0 (-1) (-1) 0 c := by
  intro pm tk hD
  rcases hc with ⟨r_5, U_6, hF, hcarry, rfl⟩
  rw [(hS.2.2.2.2.2.1 q hq).2.1] at hcarry
  obtain ⟨b1, b2, b3, b4, b5⟩ := e_carry2 hS hD hcarry hn h24
  have i5 : (5 : Int32).toInt = 5 := by decide
  exact b5 (by rw [b1]; rfl) (by rw [b1]; rfl) (by rw [b1]; rfl) (by rw [b1]; rfl) (by rw [b1]; rfl) (by rw [b1]; rfl) (by rw [b1]; rfl) (fun h => by omega) (fun _ _ _ => rfl)
theorem e_replyOne {x q n : Nat} {G : Nat → Nat} {B : AA} {R : RR} (hS : SHX x R) (hq : q < 4) (hn : (n : Int) = (B (x + 1) 1).toInt) (h24 : n ≤ 24) {nm v : Int32} {Z : AA} (hc : C_X8_replyOne G B R (x + 85 + 17 * q) nm v Z) : ∀ (pm : Nat → Nat) (tk : Nat), DYN x R pm tk → EMC x pm B Z (B (x + 85 + 17 * q) 0) 4 nm 1 (-1) (-1) 0 (fun _ => v) := by
  intro pm tk hD
  rcases hc with ⟨r_5, U_6, hF, hcarry, B_9, rfl, B_13, rfl, rfl⟩
  rw [(hS.2.2.2.2.2.1 q hq).2.1] at hcarry
  obtain ⟨b1, b2, b3, b4, b5⟩ := e_carry2 hS hD hcarry hn h24
  rw [b2]
  have i1 := i_1t
  have zr : ∀ g, uA (uA U_6 r_5 (upd (U_6 r_5) 3 1)) (r_5 + 1) g r_5 = upd (bc (B r_5) (B (x + 85 + 17 * q) 0) 4 nm) 3 1 := fun g => by rw [uA_n (by omega), uA_s, b1]
  refine b5 (by rw [zr]; rfl) (by rw [zr]; rfl) (by rw [zr]; rfl) (by rw [zr]; rfl) (by rw [zr]; rfl) (by rw [zr]; rfl) (by rw [zr]; rfl) (fun _ k k1 k2 => ?_) (fun a h1 h2 => by rw [uA_n h2, uA_n h1])
  obtain rfl : k = 0 := by omega
  rw [uA_s, upd_s]
theorem r_ack {A : AA} {cd pk p nm : Int32} {A' : AA} {cdz pkz : Int32} {c : Nat → Int32} (h : D_X10_ack A cd pk p nm A' cdz pkz) (hpk : 0 ≤ pk.toInt ∧ pk.toInt ≤ 24) : EMR A A' pk pkz (peerT p) 5 nm 0 (-1) (-1) 0 c := by
  have i5 : (5 : Int32).toInt = 5 := by decide
  rcases h with ⟨ur_1, r_1, hemit, c1, c2, c3, c4, c5, c6, rfl, rfl, rfl⟩ | ⟨ur_1, r_1, hemit, c1, c2, c3, c4, c5, c6, n_5, hn_5, g_4, rfl, rfl, rfl, rfl⟩
  · exact EMR.gen hemit hpk (fun j hj => by rw [uA_n (by omega), uA_n (by omega), uA_n (by omega), uA_n (by omega), uA_n (by omega), uA_n (by omega), uA_n (by omega)]) ⟨rfl, rfl, rfl, rfl, rfl, rfl⟩ (Or.inl ⟨c6, rfl, rfl⟩)
  · exact EMR.gen hemit hpk (fun j hj => by rw [uA_n (by omega), uA_n (by omega), uA_n (by omega), uA_n (by omega), uA_n (by omega), uA_n (by omega), uA_n (by omega)]) ⟨rfl, rfl, rfl, rfl, rfl, rfl⟩ (Or.inr ⟨n_5, hn_5, rfl, fun _ _ => rfl, fun h => by omega⟩)
theorem r_replyOld {A : AA} {cd pk p v : Int32} {A' : AA} {cdz pkz : Int32} (h : D_X10_replyOld A cd pk p v A' cdz pkz) (hpk : 0 ≤ pk.toInt ∧ pk.toInt ≤ 24) : EMR A A' pk pkz (peerT p) 4 (A 43 24) 1 (-1) (-1) 0 (fun _ => v) := by
  have i1 := i_1t
  rcases h with ⟨ur_2, r_2, hemit, c1, c2, c3, c4, c5, c6, n_6, hn_6, g_5, rfl, x_7, ex_7, fx_7, n_10, hn_10, g_9, rfl, rfl, rfl, rfl⟩ | ⟨ur_2, r_2, hemit, c1, c2, c3, c4, c5, c6, rfl, rfl, rfl⟩
  · refine EMR.gen hemit hpk (fun j hj => by rw [uA_n (by omega), uA_n (by omega), uA_n (by omega), uA_n (by omega), uA_n (by omega), uA_n (by omega), uA_n (by omega), uA_n (by omega)]) ⟨rfl, rfl, rfl, rfl, rfl, rfl⟩ (Or.inr ⟨n_6, hn_6, rfl, fun k hk => ?_, fun _ k k1 k2 => ?_⟩)
    · rw [uA_s, upd_n (by omega)]
    · obtain rfl : n_10 = 4 * n_6 := by omega
      obtain rfl : k = 0 := by omega
      rw [uA_s, Nat.add_zero, upd_s]
  · exact EMR.gen hemit hpk (fun j hj => by rw [uA_n (by omega), uA_n (by omega), uA_n (by omega), uA_n (by omega), uA_n (by omega), uA_n (by omega), uA_n (by omega), uA_n (by omega)]) ⟨rfl, rfl, rfl, rfl, rfl, rfl⟩ (Or.inl ⟨by omega, rfl, rfl⟩)
/-- a reply with cells -/
theorem s_load {x nd q f0 : Nat} {G : Nat → Nat} {t0 t1 t2 : Int32} {B : AA} {R : RR} {A : AA} {pk : Int32} (h : SIM x t0 t1 t2 B R A pk) (hV : RW A pk) (hnd : nd < 2) (hq : q < 4) {p to : Int32} (hp : (q : Int) = p.toInt) (eto : to = peerT p) (end2 : nd = q % 2) {nm : Int32} (hnm : 0 ≤ nm.toInt ∧ nm.toInt ≤ 63) {U : AA} {r : Nat} (hcar : C_X0_carry G B R (x + 1) to 4 nm U r) {s s2 : Int32} {Z : AA} (hl : C_X2_load G U R r (x + 56 + 10 * nd) s s2 Z) (hf : (f0 : Int) = s.toInt) (h1 : 1 ≤ s2.toInt) (h32 : s.toInt + s2.toInt ≤ 32) {A1 A2 : AA} {cd c1 pk1 r1 c1' pk1' f sz c2 pk2 : Int32} (he : D_X10_emit A cd pk p 4 nm (-1) (-1) 0 A1 c1 pk1 r1) (hld : D_X10_load A1 c1' pk1' r1 p f sz A2 c2 pk2) (hf2 : f.toInt = s.toInt) (hsz : sz.toInt = if 4 < s2.toInt then 4 else s2.toInt) : SIM x t0 t1 t2 Z R A2 pk1 ∧ RW A2 pk1 ∧ (∀ tk, R (x + 1) 2 = x + 3 + 2 * tk → TKP x tk B A → TKP x tk Z A2) ∧ (∀ a, ¬ (x + 1 ≤ a ∧ a < x + 55) → Z a = B a) ∧ (∀ j, (j < 41 ∨ 48 < j) → A2 j = A j) ∧ ∀ j, 41 ≤ j → j ≤ 47 → A2 j 24 = A j 24 := by
  have i4 := i_4
  have hsz1 : 1 ≤ sz.toInt ∧ sz.toInt ≤ 4 ∧ sz.toInt ≤ s2.toInt := by rw [hsz]; split <;> omega
  have hR := EMR.load (nd := nd) (f0 := f0) he hld hV.2.2 (by subst end2; exact nd2 hp) (by omega) (by omega)
  obtain ⟨n, hn, h24⟩ := h.np hV
  refine h.em hV (fun pm tk hD => ?_) hR ⟨hnm, by omega, fun e => by omega, fun e => by omega, fun _ => by omega, fun e => by omega⟩
  obtain ⟨b1, -⟩ := e_carry2 h.1 hD hcar hn h24
  have hl' : C_X2_load G (uA U r (U r)) R r (x + 56 + 10 * nd) s s2 Z := by rw [uA_ii]; exact hl
  obtain ⟨sz', es, hE⟩ := EMC.load h.1 hnd hD hcar hn h24 (f := U r) (by rw [b1]; rfl) (by rw [b1]; rfl) (by rw [b1]; rfl) hl' hf (by omega) h32
  have e4 : U r 4 = -1 := by rw [b1]; rfl
  have e5 : U r 5 = -1 := by rw [b1]; rfl
  have e6 : U r 6 = 0 := by rw [b1]; rfl
  have ez : sz' = sz := i32_eq (by rw [es, hsz])
  rw [e4, e5, e6, ez, eto] at hE
  refine hE.cgc (fun _ k k4 ks => ?_)
  show B (x + 57 + 10 * nd) (f0 + k) = A 4 (32 * nd + f0 + k)
  rw [h.2.2.1 nd hnd (f0 + k) (by omega), Nat.add_assoc]
