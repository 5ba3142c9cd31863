theorem r_cplo {A : AA} {cd pk q kd se st le : Int32} {Z : AA} {cdz pkz : Int32} {n : Nat} (h : D_X10_complete A cd pk q kd se st le Z cdz pkz) (hn : (n : Int) = q.toInt % 2) : ∀ j, j ≠ 8 → j ≠ 9 → Z j = A j := by
  obtain ⟨-, -, h⟩ := r_complete h hn
  rcases h with ⟨a, rfl⟩ | ⟨a, m, c, b1, b2, b3, rfl⟩
  · exact fun _ _ _ => rfl
  · exact fun j h1 h2 => by rw [uA_n h2, uA_n h1]
theorem r_dropReceive {X : AA} {cd pk p : Int32} {Z : AA} {cdz pkz : Int32} {n : Nat} (h : D_X10_dropReceive X cd pk p Z cdz pkz) (hn : (n : Int) = p.toInt) : (∃ x : Int32, x = X 30 n - 1 ∧ x.toInt = (X 30 n).toInt - 1 ∧ Z 30 = upd (X 30) n x) ∧ (∀ j, 32 ≤ j → j ≤ 35 → ∃ b : Nat, (b : Int) = 4 * (n : Int) + (X 30 n).toInt - 1 ∧ Sh (X j) (Z j) (4 * n) b) ∧ ∀ j, ¬ (j = 30 ∨ 32 ≤ j ∧ j ≤ 35) → Z j = X j := by
  rcases h with ⟨n_1, hn_1, x_7, ex_7, fx_7, g_8, rfl, x_9, ex_9, fx_9, ix_10, u_10, c1, c2, c3, x_13, ex_13, fx_13, c4, rfl, rfl, rfl⟩
  obtain rfl : n_1 = n := by omega
  obtain ⟨b, hb, s1, s2, s3, s4⟩ := c3
  refine ⟨⟨x_7, ex_7, fx_7, rfl⟩, fun j h1 h2 => ⟨b, by omega, ?_⟩, fun j hj => ?_⟩
  · rcases (show j = 32 ∨ j = 33 ∨ j = 34 ∨ j = 35 by omega) with rfl | rfl | rfl | rfl
    · exact s1
    · exact s2
    · exact s3
    · exact s4
  · rw [uA_n (by omega), uA_n (by omega), uA_n (by omega), uA_n (by omega), uA_n (by omega)]
/-- cells came for the first receive -/
theorem SIM.came {x q r : Nat} {t0 t1 t2 v : Int32} {B : AA} {R : RR} {A : AA} {pk : Int32} (h : SIM x t0 t1 t2 B R A pk) (hV : RW A pk) (hq : q < 4) (hr : ∀ hd : Nat, (hd : Int) = (B (x + 88 + 17 * q) 3).toInt → r = x + 90 + 17 * q + hd % 4) : SIM x t0 t1 t2 (uA B r (upd (B r) 9 v)) R (uA A 35 (upd (A 35) (4 * q) v)) pk ∧ RW (uA A 35 (upd (A 35) (4 * q) v)) pk := by
  have hh := h
  obtain ⟨-, -, -, -, hN, hPQ⟩ := hh
  obtain ⟨hC, hPS, hRQ, hRV, hAD⟩ := hPQ q hq
  obtain ⟨hd, g1, g2, g3, g4, g5⟩ := hRV
  have er := hr hd g2
  have c4 := hV.2.1 q hq
  refine ⟨h.prw hV hq (n := 0) (by omega) (fun a k1 k2 k3 => uA_n (by omega)) (fun m hm => (hN m hm).cg (uA_n (by omega)) (uA_n (by omega)) rfl (fun _ _ _ => rfl) (hV.1 m hm).2) ⟨?_, ?_, ?_, ?_, ?_⟩ (fun q' hne => ⟨fun j k1 k2 => ?_, fun j hj i hi => ?_, fun j hj i hi => by rw [uA_n (by omega)]⟩) (fun j k1 k2 k3 => uA_n (by omega)), hV.cg rfl rfl rfl⟩
  · exact hC.cg (fun j _ => by rw [uA_n (by omega)]) (by rw [uA_n (by omega)]) (by rw [uA_n (by omega)]) (by rw [uA_n (by omega)])
  · exact hPS.cg (uA_n (by omega)) (uA_n (by omega)) (uA_n (by omega)) (fun j hj => by rw [uA_n (by omega)])
  · exact hRQ.cg (uA_n (by omega)) (fun i _ => uA_n (by omega)) rfl rfl (fun j k1 k2 i hi => by rw [uA_n (by omega)]) c4.1.2
  · refine ⟨hd, g1, by rw [uA_n (by omega)]; exact g2, by rw [uA_n (by omega)]; exact g3, by rw [uA_n (by omega)]; exact g4, fun i hi => ?_⟩
    have hi : (i : Int) < (A 30 q).toInt := hi
    have w := g5 i hi
    by_cases e : i = 0
    · subst e
      have ea : x + 90 + 17 * q + (hd + 0) % 4 = r := by rw [er]; rfl
      rw [ea] at w ⊢
      rw [uA_s]
      obtain ⟨w0, w1, w2, w3, w4⟩ := w
      refine ⟨w0, w1, w2, w3, ?_⟩
      show upd (B r) 9 v 9 = upd (A 35) (4 * q) v (4 * q + 0)
      rw [upd_s, Nat.add_zero, upd_s]
    · rw [uA_n (by omega)]
      refine w.cg rfl (fun j k1 k2 => ?_)
      by_cases e2 : j = 35
      · subst e2; exact upd_n (by omega)
      · rw [uA_n e2]
  · exact hAD.cg (uA_n (by omega)) (uA_n (by omega)) rfl (fun _ _ => rfl) (fun _ _ => rfl)
  · by_cases e2 : j = 35
    · exact Or.inr (Or.inr (by omega))
    · exact Or.inl (by rw [uA_n e2])
  · by_cases e2 : j = 35
    · subst e2; exact upd_n (by omega)
    · rw [uA_n e2]
/-- the first receive is done -/
theorem SIM.vdone {x q : Nat} {G : Nat → Nat} {t0 t1 t2 : Int32} {B : AA} {R : RR} {A A' : AA} {pk : Int32} (h : SIM x t0 t1 t2 B R A pk) (hV : RW A pk) (hq : q < 4) {p : Int32} (hp : (q : Int) = p.toInt) (h30 : 1 ≤ (A 30 q).toInt) {Z : AA} (hc : C_X5_completeFirst G B R (x + 88 + 17 * q) 0 Z) (hcp : CPL (A 8) (A 9) (q % 2) p 4 (A 34 (4 * q)) 0 (A 35 (4 * q)) (A' 8) (A' 9)) {v : Int32} (ev : v = A 30 q - 1) (evt : v.toInt = (A 30 q).toInt - 1) (e30 : A' 30 = upd (A 30) q v) (hsh : ∀ j, 32 ≤ j → j ≤ 35 → ∃ b : Nat, (b : Int) = 4 * (q : Int) + (A 30 q).toInt - 1 ∧ Sh (A j) (A' j) (4 * q) b) (ho : ∀ j, ¬ (j = 8 ∨ j = 9 ∨ j = 30 ∨ 32 ≤ j ∧ j ≤ 35) → A' j = A j) : SIM x t0 t1 t2 Z R A' pk ∧ RW A' pk ∧ (∀ a, a ≠ x + 56 + 10 * (q % 2) → a ≠ x + 59 + 10 * (q % 2) → a ≠ x + 88 + 17 * q → Z a = B a) := by
  have hh := h
  obtain ⟨hS, -, -, -, hN, hPQ⟩ := hh
  obtain ⟨hC, hPS, hRQ, hRV, hAD⟩ := hPQ q hq
  obtain ⟨hd, g1, g2, g3, g4, g5⟩ := hRV
  have c4 := hV.2.1 q hq
  have T0 := STK.rf (n := q % 2) (K := x + 88 + 17 * q) hN hV.1 g2 g1
  have w := g5 0 (by omega)
  have ep2 : B (x + 88 + 17 * q) 0 = p := i32_eq (by rw [hC.2.2.2.2.2.2]; exact hp)
  obtain ⟨s1, s2, s3, s4, s5, s6, s7⟩ := stepV2 hS hq hp ep2 T0 w hc hcp
  rw [g3] at s6
  have hI3 : I3 (A' 8) := s2
  refine ⟨h.prw hV hq (n := q % 2) (by omega) (fun a k1 k2 k3 => s3 a k1 k2 (by omega)) s1 ⟨?_, ?_, ?_, ?_, ?_⟩ (fun q' hne => ⟨fun j k1 k2 => ?_, fun j hj i hi => ?_, fun j hj i hi => by rw [ho j (by omega)]⟩) (fun j k1 k2 k3 => ho j (by omega)), ⟨hI3, fun q' hq' => ?_, hV.2.2⟩, s3⟩
  · exact hC.cg (fun j _ => by rw [s3 _ (by omega) (by omega) (by omega)]) (by rw [s3 _ (by omega) (by omega) (by omega)]) (by rw [s3 _ (by omega) (by omega) (by omega)]) (s7 0 (by decide) (by decide))
  · exact hPS.cg (s3 _ (by omega) (by omega) (by omega)) (s3 _ (by omega) (by omega) (by omega)) (s3 _ (by omega) (by omega) (by omega)) (fun j hj => by rw [ho j (by omega)])
  · exact hRQ.cg (s3 _ (by omega) (by omega) (by omega)) (fun i _ => s3 _ (by omega) (by omega) (by omega)) (by rw [ho 20 (by omega)]) (by rw [ho 21 (by omega)]) (fun j k1 k2 i hi => by rw [ho j (by omega)]) c4.1.2
  · refine ⟨(hd + (0 + 1)) % 4, by omega, s5.symm, i32_eq (by rw [s6, e30, upd_s, evt]; omega), by rw [s7 5 (by decide) (by decide), ho 31 (by omega)]; exact g4, fun i hi => ?_⟩
    rw [e30, upd_s, evt] at hi
    have w := g5 (i + 1) (by omega)
    have ea : x + 90 + 17 * q + ((hd + (0 + 1)) % 4 + i) % 4 = x + 90 + 17 * q + (hd + (i + 1)) % 4 := by omega
    rw [ea]
    refine w.cg (s3 _ (by omega) (by omega) (by omega)) (fun j k1 k2 => ?_)
    obtain ⟨b, hb, hs⟩ := hsh j k1 k2
    rw [hs, if_pos (by omega), Nat.add_assoc]
  · exact hAD.cg (s3 _ (by omega) (by omega) (by omega)) (s3 _ (by omega) (by omega) (by omega)) (by rw [ho 37 (by omega)]) (fun i hi => by rw [ho 38 (by omega)]) (fun i hi => by rw [ho 39 (by omega)])
  · by_cases e1 : j = 30
    · subst e1; exact Or.inl (by rw [e30, upd_n hne])
    by_cases e2 : 32 ≤ j ∧ j ≤ 35
    · exact Or.inr (Or.inr e2)
    exact Or.inl (by rw [ho j (by omega)])
  · by_cases e2 : 32 ≤ j ∧ j ≤ 35
    · obtain ⟨b, hb, hs⟩ := hsh j e2.1 e2.2
      rw [hs, if_neg (by omega)]
    · rw [ho j (by omega)]
  · rw [ho 20 (by omega), e30]
    refine ⟨(hV.2.1 q' hq').1, ?_⟩
    by_cases e : q' = q
    · subst e; rw [upd_s, evt]; omega
    · rw [upd_n e]; exact (hV.2.1 q' hq').2
/-- the last part of a message was taken -/
theorem s_sendLast {x q : Nat} {G : Nat → Nat} {t0 t1 t2 : Int32} {B : AA} {R : RR} {A : AA} {pk cd : Int32} (h : SIM x t0 t1 t2 B R A pk) (hV : RW A pk) (hq : q < 4) (hst : (A 10 q).toInt = 1) {p nm : Int32} (hp : (q : Int) = p.toInt) (h30 : 1 ≤ (A 30 q).toInt) (bnm : 0 ≤ nm.toInt ∧ nm.toInt ≤ 63) {A4 A5 A6 A7 A8 : AA} {c1 k1 c2 c3 k3 c4 k4 c5 k5 c6 k6 pk' kse kle : Int32} (ha : D_X10_accept A cd pk p 1 A4 c1 k1) (hk : D_X10_ack A4 c2 pk p nm A5 c3 pk') (hse : kse = A 34 (4 * q)) (hle : kle = A 35 (4 * q)) (hcp : D_X10_complete A5 c4 k4 p 4 kse 0 kle A6 c5 k5) (h7 : A7 = uA A6 36 (upd (A6 36) q 0)) (hdr : D_X10_dropReceive A7 c6 k6 p A8 c5 k3) {U V Z : AA} (hcf : C_X5_completeFirst G B R (x + 88 + 17 * q) 0 U) (hadv : C_X8_advance G (uA U (x + 85 + 17 * q) (upd (U (x + 85 + 17 * q)) 5 0)) R (x + 85 + 17 * q) 1 V) (hack : C_X8_acknowledge G V R (x + 85 + 17 * q) nm Z) : SIM x t0 t1 t2 Z R A8 pk' := by
  subst hse hle
  obtain ⟨p1, p2, p3, p4, p5, p6, p7, p8, p9, p10⟩ := (h.2.2.2.2.2 q hq).2.1
  obtain ⟨v, ev, e4⟩ := r_accept ha hp p6 (by decide)
  have hE := r_ack (c := fun _ => 0) hk hV.2.2
  have o5 := hE.oth
  have hC := r_cpl hcp (nd2 hp)
  have o6 := r_cplo hcp (nd2 hp)
  obtain ⟨⟨y, y1, y2, y3⟩, d2, d3⟩ := r_dropReceive hdr hp
  have x4 : ∀ j, j ≠ 14 → j ≠ 19 → A4 j = A j := fun j a b => by rw [e4, uA_n b, uA_n a]
  have x5 : ∀ j, j ≠ 14 → j ≠ 19 → (j < 41 ∨ 48 < j) → A5 j = A j := fun j a b c => (o5 j c).trans (x4 j a b)
  have x7 : ∀ j, j ≠ 36 → A7 j = A6 j := fun j a => by rw [h7, uA_n a]
  have x8 : ∀ j, j ≠ 8 → j ≠ 9 → ¬ (j = 30 ∨ 32 ≤ j ∧ j ≤ 35) → j ≠ 36 → A8 j = A5 j := fun j a b c d => (d3 j c).trans ((x7 j d).trans (o6 j a b))
  have a7 : ∀ j, (j = 30 ∨ 32 ≤ j ∧ j ≤ 35) → A7 j = A j := fun j c => (x7 j (by omega)).trans ((o6 j (by omega) (by omega)).trans (x5 j (by omega) (by omega) (by omega)))
  have e8 : A8 8 = A6 8 := (d3 8 (by omega)).trans (x7 8 (by omega))
  have e9 : A8 9 = A6 9 := (d3 9 (by omega)).trans (x7 9 (by omega))
  have e36 : A8 36 = upd (A 36) q 0 := by rw [d3 36 (by omega), h7, uA_s, o6 36 (by omega) (by omega), x5 36 (by omega) (by omega) (by omega)]
  rw [x5 8 (by omega) (by omega) (by omega), x5 9 (by omega) (by omega) (by omega)] at hC
  rw [a7 30 (by omega)] at y1 y2 y3
  -- the class's order
  obtain ⟨s1, s2, s3⟩ := h.vdone (A' := fun j => if j = 8 ∨ j = 9 ∨ j = 30 ∨ 32 ≤ j ∧ j ≤ 35 then A8 j else A j) hV hq hp h30 hcf (by
    show CPL _ _ _ _ _ _ _ _ (A8 8) (A8 9)
    rw [e8, e9]; exact hC) y1 y2 (by show A8 30 = _; exact y3) (fun j k1 k2 => by
    obtain ⟨b, hb, hs⟩ := d2 j k1 k2
    rw [a7 30 (by omega)] at hb
    rw [a7 j (by omega)] at hs
    refine ⟨b, hb, ?_⟩
    rw [if_pos (by omega)]; exact hs) (fun j hj => by rw [if_neg hj])
  have eS : U (x + 85 + 17 * q) = B (x + 85 + 17 * q) := s3 _ (by omega) (by omega) (by omega)
  have p2s := p2 hst
  obtain ⟨b1, b2⟩ := s1.rs (A' := uA (fun j => if j = 8 ∨ j = 9 ∨ j = 30 ∨ 32 ≤ j ∧ j ≤ 35 then A8 j else A j) 36 (upd (A 36) q 0)) (f := upd (U (x + 85 + 17 * q)) 5 0) s2 hq rfl (fun j hj => by rw [uA_n (by omega)]) (fun j k hk => by
    by_cases e : j = 36
    · subst e; exact upd_n hk
    · rw [uA_n e]) (by rw [eS]; exact p2s.2.2.2) (by rw [eS]; exact p5.1) upd_s.symm p6 p9 (by
    show B01 (upd (A 36) q 0 q)
    rw [upd_s]; exact Or.inl rfl)
  obtain ⟨f1, f2, f3⟩ := b1.adv b2 hq hst hadv (v := v) ev
  obtain ⟨n, hn, h24⟩ := f1.np f2
  have hCC := (f1.2.2.2.2.2 q hq).1
  have eto : V (x + 85 + 17 * q) 0 = peerT p := i32_eq (by rw [hCC.2.2.2.2.1, peer_e hq hp])
  have hEC := e_ack (c := fun _ => 0) f1.1 hq hn h24 hack
  rw [eto] at hEC
  have i5 : (5 : Int32).toInt = 5 := by decide
  obtain ⟨m1, -, -, -⟩ := f1.emit f2 (A0 := A4) (fun j a b => by rw [x4 j (by omega) (by omega), uA_n (by omega), uA_n (by omega), uA_n (by omega), if_neg (by omega)]) hEC hE ⟨bnm, by omega, fun e => by omega, fun e => by omega, fun e => by omega, fun e => by omega⟩
  have fin : ∀ {X Y : AA}, X = Y → SIM x t0 t1 t2 Z R X pk' → SIM x t0 t1 t2 Z R Y pk' := fun e k => e ▸ k
  refine fin ?_ m1
  funext j
  by_cases k1 : 41 ≤ j ∧ j ≤ 48
  · rw [mixF_i k1, x8 j (by omega) (by omega) (by omega) (by omega)]
  rw [mixF_o k1]
  by_cases k2 : j = 19
  · subst k2
    rw [uA_s, x8 19 (by omega) (by omega) (by omega) (by omega), o5 19 (by omega), e4, uA_s]
    rfl
  rw [uA_n k2]
  by_cases k3 : j = 14
  · subst k3
    rw [uA_s, x8 14 (by omega) (by omega) (by omega) (by omega), o5 14 (by omega), e4]
    rfl
  rw [uA_n k3]
  by_cases k4 : j = 36
  · subst k4
    rw [uA_s, e36]
  rw [uA_n k4]
  by_cases k5 : j = 8 ∨ j = 9 ∨ j = 30 ∨ 32 ≤ j ∧ j ≤ 35
  · rw [if_pos k5]
  · rw [if_neg k5, x8 j (by omega) (by omega) (by omega) k4, x5 j k3 k2 (by omega)]
