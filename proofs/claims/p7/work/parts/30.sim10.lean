theorem SHX.cg {x : Nat} {R Y : RR} (h : SHX x R) (hR : ∀ a, a ≠ x + 1 → a ≠ x + 2 → Y a = R a) (h0 : Y (x + 1) 0 = R (x + 1) 0) (h3 : Y (x + 1) 3 = R (x + 1) 3) : SHX x Y := by
  obtain ⟨a1, a2, a3, a4, a5, a6, a7, a8⟩ := h
  refine ⟨?_, fun n hn => ?_, fun q hq => ?_, fun q hq => ?_, fun q hq => ?_, fun q hq => ?_, fun q hq => ?_, ?_⟩
  · rw [hR x (by omega) (by omega)]; exact a1
  · rw [hR (x + 55) (by omega) (by omega), hR (x + 56 + 10 * n) (by omega) (by omega), hR (x + 58 + 10 * n) (by omega) (by omega)]; exact a2 n hn
  · rw [hR (x + 76) (by omega) (by omega), hR (x + 84 + 17 * q) (by omega) (by omega)]; exact a3 q hq
  · rw [hR (x + 77 + 17 * q) (by omega) (by omega)]; exact a4 q hq
  · rw [hR (x + 78 + 17 * q) (by omega) (by omega), hR (x + 79 + 17 * q) (by omega) (by omega)]; exact a5 q hq
  · rw [hR (x + 85 + 17 * q) (by omega) (by omega)]; exact a6 q hq
  · rw [hR (x + 88 + 17 * q) (by omega) (by omega), hR (x + 89 + 17 * q) (by omega) (by omega)]; exact a7 q hq
  · rw [h0, h3]
    exact ⟨a8.1, a8.2.1, fun p hp => by rw [hR _ (by omega) (by omega)]; exact a8.2.2 p hp⟩
/-- what taking a packet out does in the class -/
theorem e_takeOut {x : Nat} {G : Nat → Nat} {B : AA} {R : RR} (hS : SHX x R) {pm : Nat → Nat} {tk : Nat} (hD : DYN x R pm tk) {p : Int32} {Z : AA} {Y : RR} {r k n : Nat} (hc : C_X0_takeOut G B R (x + 1) p Z Y r) (hk : (k : Int) = p.toInt) (hn : (n : Int) = (B (x + 1) 1).toInt) (hkn : k < n) (h24 : n ≤ 24) : r = x + 3 + 2 * pm k ∧ SHX x Y ∧ DYN x Y (fun i => if i = n - 1 then tk else if k ≤ i ∧ i < n - 1 then pm (i + 1) else pm i) (pm k) ∧ ∃ c : Int32, c = B (x + 1) 1 - 1 ∧ c.toInt = (B (x + 1) 1).toInt - 1 ∧ Z = uA B (x + 1) (upd (B (x + 1)) 1 c) ∧ ∀ a, a ≠ x + 1 → a ≠ x + 2 → Y a = R a := by
  rcases hc with ⟨n_5, hn_5, i9, R9, c1, rfl, c2, x_11, ex_11, fx_11, B_13, rfl, n_21, hn_21, R_22, rfl, R_24, rfl, eZ, eZR, rfl⟩
  obtain rfl : n_5 = k := by omega
  obtain rfl : n_21 = n - 1 := by omega
  have ei : (i9.toInt - 1).toNat = n - 1 := by omega
  rw [ei] at eZR
  have r0 := hS.2.2.2.2.2.2.2.1
  have hd0 := hD
  obtain ⟨d1, d2, d3, d4, d5, d6⟩ := hd0
  have dk := d2 n_5 (by omega)
  rw [r0] at eZR
  have q1 : uR R (x + 2) (ShN (R (x + 2)) n_5 (n - 1)) (x + 1) = R (x + 1) := uR_n (by omega)
  have q2 : uR R (x + 2) (ShN (R (x + 2)) n_5 (n - 1)) (x + 2) = ShN (R (x + 2)) n_5 (n - 1) := uR_s
  rw [q1, r0, q2] at eZR
  have y1 : Y (x + 1) = updN (R (x + 1)) 2 (R (x + 2) n_5) := by rw [eZR, uR_s, uR_n (by omega), q1]
  have y2 : Y (x + 2) = updN (ShN (R (x + 2)) n_5 (n - 1)) (n - 1) (R (x + 1) 2) := by rw [eZR, uR_n (by omega), uR_s]
  have yo : ∀ a, a ≠ x + 1 → a ≠ x + 2 → Y a = R a := fun a h1 h2 => by rw [eZR, uR_n h1, uR_n h2, uR_n h2]
  refine ⟨by rw [r0]; exact dk, hS.cg yo (by rw [y1, updN_n (by decide)]) (by rw [y1, updN_n (by decide)]), ⟨?_, fun i hi => ?_, ?_, ?_, fun i hi => ?_, fun i j hi hj e => ?_⟩, x_11, ex_11, fx_11, eZ, yo⟩
  · rw [y1, updN_s, dk]
  · rw [y2]
    show _ = x + 3 + 2 * (if i = n - 1 then tk else if n_5 ≤ i ∧ i < n - 1 then pm (i + 1) else pm i)
    by_cases e : i = n - 1
    · rw [if_pos e, e, updN_s, d1]
    · rw [if_neg e, updN_n e]
      unfold ShN
      by_cases e2 : n_5 ≤ i ∧ i < n - 1
      · rw [if_pos e2, if_pos e2, d2 _ (by omega)]
      · rw [if_neg e2, if_neg e2, d2 _ hi]
  · exact (d5 n_5 (by omega)).1
  · exact (d5 n_5 (by omega)).2.1
  · show (if i = n - 1 then tk else if n_5 ≤ i ∧ i < n - 1 then pm (i + 1) else pm i) < 26 ∧ (if i = n - 1 then tk else if n_5 ≤ i ∧ i < n - 1 then pm (i + 1) else pm i) ≠ 1 ∧ (if i = n - 1 then tk else if n_5 ≤ i ∧ i < n - 1 then pm (i + 1) else pm i) ≠ pm n_5
    by_cases e : i = n - 1
    · rw [if_pos e]; exact ⟨d3, d4, fun k => (d5 n_5 (by omega)).2.2 k.symm⟩
    · rw [if_neg e]
      by_cases e2 : n_5 ≤ i ∧ i < n - 1
      · rw [if_pos e2]
        exact ⟨(d5 _ (by omega)).1, (d5 _ (by omega)).2.1, fun k => by have := d6 _ _ (by omega) (by omega) k; omega⟩
      · rw [if_neg e2]
        exact ⟨(d5 _ hi).1, (d5 _ hi).2.1, fun k => by have := d6 _ _ hi (by omega) k; omega⟩
  · have e : (if i = n - 1 then tk else if n_5 ≤ i ∧ i < n - 1 then pm (i + 1) else pm i) = (if j = n - 1 then tk else if n_5 ≤ j ∧ j < n - 1 then pm (j + 1) else pm j) := e
    by_cases a1 : i = n - 1
    · by_cases a2 : j = n - 1
      · omega
      · rw [if_pos a1, if_neg a2] at e
        exfalso
        by_cases a3 : n_5 ≤ j ∧ j < n - 1
        · rw [if_pos a3] at e; exact (d5 _ (by omega)).2.2 e.symm
        · rw [if_neg a3] at e; exact (d5 _ hj).2.2 e.symm
    · rw [if_neg a1] at e
      by_cases a2 : j = n - 1
      · rw [if_pos a2] at e
        exfalso
        by_cases a3 : n_5 ≤ i ∧ i < n - 1
        · rw [if_pos a3] at e; exact (d5 _ (by omega)).2.2 e
        · rw [if_neg a3] at e; exact (d5 _ hi).2.2 e
      · rw [if_neg a2] at e
        by_cases a3 : n_5 ≤ i ∧ i < n - 1
        · rw [if_pos a3] at e
          by_cases a4 : n_5 ≤ j ∧ j < n - 1
          · rw [if_pos a4] at e; have := d6 _ _ (by omega) (by omega) e; omega
          · rw [if_neg a4] at e; have := d6 _ _ (by omega) hj e; omega
        · rw [if_neg a3] at e
          by_cases a4 : n_5 ≤ j ∧ j < n - 1
          · rw [if_pos a4] at e; have := d6 _ _ hi (by omega) e; omega
          · rw [if_neg a4] at e; exact d6 _ _ hi hj e
/-- and what drop does in the reference -/
theorem r_drop {A : AA} {cd pk p : Int32} {Z : AA} {cdz pkz : Int32} {k n : Nat} (h : D_X10_drop A cd pk p Z cdz pkz) (hk : (k : Int) = p.toInt) (hn : (n : Int) = pk.toInt) (hkn : k < n) : cdz = cd ∧ pkz = pk - 1 ∧ pkz.toInt = pk.toInt - 1 ∧ (∀ j, 41 ≤ j → j ≤ 47 → Sh (A j) (Z j) k (n - 1)) ∧ Sh4 (A 48) (Z 48) k (n - 1) ∧ ∀ j, (j < 41 ∨ 48 < j) → Z j = A j := by
  rcases h with ⟨n_1, hn_1, x_2, ex_2, fx_2, ix_3, u_3, c1, c2, c3, c4, rfl, rfl, rfl⟩
  obtain rfl : n_1 = k := by omega
  obtain ⟨b, hb, hb1, s1, s2, s3, s4, s5, s6, s7, s8⟩ := c3
  obtain rfl : b = n - 1 := by omega
  refine ⟨rfl, ex_2, fx_2, fun j h1 h2 => ?_, s8, fun j hj => ?_⟩
  · rcases (show j = 41 ∨ j = 42 ∨ j = 43 ∨ j = 44 ∨ j = 45 ∨ j = 46 ∨ j = 47 by omega) with rfl | rfl | rfl | rfl | rfl | rfl | rfl
    · exact s1
    · exact s2
    · exact s3
    · exact s4
    · exact s5
    · exact s6
    · exact s7
  · rw [uA_n (by omega), uA_n (by omega), uA_n (by omega), uA_n (by omega), uA_n (by omega), uA_n (by omega), uA_n (by omega), uA_n (by omega)]
/-- the fabric after a packet was taken out -/
theorem FB.drop {x : Nat} {pm : Nat → Nat} {tk : Nat} {B Z A A' : AA} {pk pk' : Int32} {k n : Nat} (h : FB x pm B A pk) (hn : (n : Int) = pk.toInt) (hkn : k < n) (h24 : n ≤ 24) (hpm : ∀ i, i < 24 → pm i < 26) (e1 : pk' = pk - 1) (e2 : pk'.toInt = pk.toInt - 1) (hZ : Z = uA B (x + 1) (upd (B (x + 1)) 1 pk')) (hA : ∀ j, 41 ≤ j → j ≤ 47 → Sh (A j) (A' j) k (n - 1)) (hA8 : Sh4 (A 48) (A' 48) k (n - 1)) : FB x (fun i => if i = n - 1 then tk else if k ≤ i ∧ i < n - 1 then pm (i + 1) else pm i) Z A' pk' := by
  refine ⟨by rw [hZ, uA_s, upd_s], fun i hi => ?_⟩
  show PKT (Z (x + 3 + 2 * (if i = n - 1 then tk else if k ≤ i ∧ i < n - 1 then pm (i + 1) else pm i))) (Z (x + 4 + 2 * (if i = n - 1 then tk else if k ≤ i ∧ i < n - 1 then pm (i + 1) else pm i))) A' i
  rw [if_neg (by omega)]
  by_cases e : k ≤ i ∧ i < n - 1
  · rw [if_pos e]
    exact (h.2 (i + 1) (by omega)).cg (by rw [hZ, uA_n (by omega)]) (by rw [hZ, uA_n (by omega)]) (fun j h1 h2 => by rw [hA j h1 h2, if_pos e]) (fun c hc => by rw [hA8, if_pos (by omega)]; congr 1; omega)
  · rw [if_neg e]
    exact (h.2 i (by omega)).cg (by rw [hZ, uA_n (by omega)]) (by rw [hZ, uA_n (by omega)]) (fun j h1 h2 => by rw [hA j h1 h2, if_neg e]) (fun c hc => by rw [hA8, if_neg (by omega)])
/-- a change of the fabric alone -/
theorem SIM.fb {x : Nat} {t0 t1 t2 : Int32} {B Z : AA} {R Y : RR} {A A' : AA} {pk pk' : Int32} (h : SIM x t0 t1 t2 B R A pk) (hV : RIV A pk) (hS : SHX x Y) (hF : ∃ (pm : Nat → Nat) (tk : Nat), DYN x Y pm tk ∧ FB x pm Z A' pk') (hZ : ∀ a, ¬ (x + 1 ≤ a ∧ a < x + 55) → Z a = B a) (hj : ∀ j, j < 41 → A' j = A j) : SIM x t0 t1 t2 Z Y A' pk' := by
  obtain ⟨h1, -, h4, h5, h6, h7⟩ := h
  refine ⟨hS, hF, fun m hm c hc => ?_, fun m hm j hj2 => ?_, fun m hm => ?_, fun q' hq' => ?_⟩
  · rw [hZ _ (by omega), hj 4 (by omega)]; exact h4 m hm c hc
  · rw [hZ _ (by omega), hj 5 (by omega), hj 6 (by omega), hj 7 (by omega)]; exact h5 m hm j hj2
  · exact (h6 m hm).cg (hZ _ (by omega)) (hZ _ (by omega)) (by rw [hj 8 (by omega)]) (fun k _ _ => by rw [hj 9 (by omega)]) (hV.1.2.1 m hm).2
  · exact (h7 q' hq').cg (fun a k1 k2 => hZ a (by omega)) (AGR.of (fun j _ k2 => hj j (by omega))) (hV.c4 hq').1.2 (hV.c4 hq').2.2
