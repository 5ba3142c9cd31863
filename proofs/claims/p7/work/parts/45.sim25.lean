/-- a change within the nodes -/
theorem SIM.ndw {x : Nat} {t0 t1 t2 : Int32} {B Z : AA} {R : RR} {A A' : AA} {pk : Int32} (h : SIM x t0 t1 t2 B R A pk) (hV : RW A pk) (hZ : ∀ a, ¬ (x + 56 ≤ a ∧ a < x + 76) → Z a = B a) (hM : MEM x Z (A' 4)) (hG : REG x Z (A' 5) (A' 6) (A' 7)) (hN : ∀ m, m < 2 → NS x m Z (A' 8) (A' 9)) (hj : ∀ j, 10 ≤ j → A' j = A j) : SIM x t0 t1 t2 Z R A' pk := by
  obtain ⟨h1, ⟨pm, tk, h2, h3⟩, h4, h5, h6, h7⟩ := h
  refine ⟨h1, ⟨pm, tk, h2, h3.cg (fun a k1 k2 => hZ a (by omega)) (fun j k1 k2 => hj j (by omega)) hV.2.2.2 (fun i hi => (h2.2.2.2.2.1 i hi).1)⟩, hM, hG, hN, fun q' hq' => ?_⟩
  exact (h7 q' hq').cg (fun a k1 k2 => hZ a (by omega)) (AGR.of (fun j k1 _ => hj j k1)) (hV.2.1 q' hq').1.2 (hV.2.1 q' hq').2.2
/-- cells are written into a node's memory -/
theorem SIM.cells {x nd f0 w : Nat} {t0 t1 t2 : Int32} {B : AA} {R : RR} {A : AA} {pk : Int32} (h : SIM x t0 t1 t2 B R A pk) (hV : RW A pk) (hnd : nd < 2) (hw : w = 0 ∨ f0 + w ≤ 32) {g g' : Nat → Int32} (hg : ∀ k, k < w → g k = g' k) : SIM x t0 t1 t2 (uA B (x + 57 + 10 * nd) (cpy (B (x + 57 + 10 * nd)) f0 w g)) R (uA A 4 (cpy (A 4) (32 * nd + f0) w g')) pk := by
  have hh := h
  obtain ⟨-, -, hM, hG, hN, -⟩ := hh
  refine h.ndw hV (fun a k => uA_n (by omega)) (fun n hn c hc => ?_) (hG.cg (fun n hn j hj => uA_n (by omega))) (fun m hm => (hN m hm).cg (uA_n (by omega)) (uA_n (by omega)) rfl (fun _ _ _ => rfl) (hV.1 m hm).2) (fun j hj => uA_n (by omega))
  rw [uA_s]
  by_cases e : n = nd
  · subst e
    rw [uA_s]
    unfold cpy
    by_cases e2 : f0 ≤ c ∧ c < f0 + w
    · rw [if_pos e2, if_pos (by omega), hg _ (by omega)]
      congr 1; omega
    · rw [if_neg e2, if_neg (by omega)]
      exact hM n hn c hc
  · rw [uA_n (by omega)]
    unfold cpy
    rw [if_neg (by omega)]
    exact hM n hn c hc
theorem PJD.cg {A A' : AA} {q : Nat} {d : Int} (h : PJD A q d) (h12 : A' 12 = A 12) (h13 : A' 13 = A 13) (h20 : A' 20 = A 20) (h24 : A' 24 = A 24) (h29 : A' 29 = A 29) : PJD A' q d := by
  unfold PJD at h ⊢
  rw [h12, h13, h20, h24, h29]
  exact h
/-- a reply -/
theorem s_reply {x q tk : Nat} {G : Nat → Nat} {t0 t1 t2 : Int32} (ht : 2 ≤ t0.toInt) {B : AA} {R : RR} {A : AA} {pk cd : Int32} (h : SIM x t0 t1 t2 B R A pk) (hV : RW A pk) (hq : q < 4) (hst : (A 10 q).toInt = 1) {p : Int32} (hp : (q : Int) = p.toInt) {d : Int} (hJ : PJD A q d) (hcu : 0 ≤ (A 13 q).toInt ∧ (A 13 q).toInt ≤ 63) (hz : ∀ i : Nat, (i : Int) < (A 20 q).toInt → (1 ≤ (A 24 (4 * q + i)).toInt ∧ (A 24 (4 * q + i)).toInt ≤ 12) ∧ (0 ≤ (A 23 (4 * q + i)).toInt ∧ (A 23 (4 * q + i)).toInt + (A 24 (4 * q + i)).toInt ≤ 32)) (htk : tk < 26) (hT : TKP x tk B A) (hk4 : (A 42 24).toInt = 4) {Z : AA} (hc : C_X7_takeReply G B R (x + 77 + 17 * q) (x + 3 + 2 * tk) Z) {A' : AA} {cdz pkz : Int32} (hd : D_X10_replied A cd pk p A' cdz pkz) : SIM x t0 t1 t2 Z R A' pk ∧ pkz = pk := by
  have hh := h
  obtain ⟨hS, -, hM, -, -, hPQ⟩ := hh
  obtain ⟨hC, hPS, hRQ, -, -⟩ := hPQ q hq
  have p2s := hPS.2.1 hst
  obtain ⟨hd4, g1, g2, g3, g4, g5⟩ := hRQ
  have g3i := congrArg Int32.toInt g3
  obtain ⟨⟨y0, y1, y2, y3, y4, y5, y6⟩, yc, ⟨y7, y8, -, -, y9, -⟩⟩ := hT
  have ycs := yc (Or.inr (Or.inr hk4))
  have ysz := y9 (Or.inr (Or.inr hk4))
  have hJ0 := hJ
  obtain ⟨j1, j2, j3, j4, j5, j6, j7, j8, j9⟩ := hJ
  obtain ⟨n, hn⟩ : ∃ n : Nat, (n : Int) = (A 20 q).toInt := ⟨_, Int.toNat_of_nonneg j9.1⟩
  have f43 := congrArg Int32.toInt y2
  have f8 := congrArg Int32.toInt p2s.2.1
  have f9 := congrArg Int32.toInt p2s.2.2.1
  have hnoc : ¬ (A 13 q).toInt = (A 12 q).toInt → (0 : Int) < ((A 13 q).toInt - (A 12 q).toInt) % 64 ∧ 0 < n := fun e => by
    have rc := hPS
    constructor
    · by_cases e2 : 0 < ((A 13 q).toInt - (A 12 q).toInt) % 64
      · exact e2
      · exfalso
        omega
    · by_cases e2 : 0 < n
      · exact e2
      · exfalso
        have e3 : (A 20 q).toInt.toNat = 0 := by omega
        rw [e3] at j4
        have e4 : SN (A 24) q 0 = 0 := rfl
        omega
  have aw : ∀ {r : Int32}, ¬ (A 13 q).toInt = (A 12 q).toInt → C_X7_awaitsReply G B R (x + 77 + 17 * q) (B (x + 77 + 17 * q) 8) r → (r.toInt = 0 ∧ (A 22 (4 * q + 0)).toInt < 2) ∨ (¬ r.toInt = 0 ∧ ¬ (A 22 (4 * q + 0)).toInt < 2) := fun hne hw => by
    have hn0 := (hnoc hne).2
    exact e_awaits hS hq g2 (n := n) (by omega) (by omega) (fun i hi => g5 i (by omega)) hw hn0 (hJ0.own (i := 0) (j := 0) (by omega) (by show (0 : Int) ≤ _; omega) (by have := j2 (by omega); show d + 0 < SN (A 24) q 1; omega) (by rw [f8]; omega))
  have hcells : ∀ {r c : Int32}, (4 * q : Nat) = r.toInt → D_X10_hasCells A cd pk r c → (c.toInt = 0 ∧ (A 22 (4 * q)).toInt < 2) ∨ (¬ c.toInt = 0 ∧ ¬ (A 22 (4 * q)).toInt < 2) := fun hr hc => by
    rcases hc with ⟨n_3, hn_3, c1, rfl⟩ | ⟨n_3, hn_3, c1, rfl⟩
    · obtain rfl : n_3 = 4 * q := by omega
      exact Or.inl ⟨by decide, c1⟩
    · obtain rfl : n_3 = 4 * q := by omega
      exact Or.inr ⟨by decide, c1⟩
  -- what is done where the reply is taken
  have main : ∀ {Z A1 : AA} {f w mo : Int32} {x13 x15 : Int32} {rr : Nat} {cd' : Int32}, ¬ (A 13 q).toInt = (A 12 q).toInt → C_X5_at G B R (x + 78 + 17 * q) 0 rr → x13 = ((B (x + 77 + 17 * q) 8) - (B rr 4)) &&& 63 → x15.toInt = 4 * x13.toInt → f = B rr 2 + x15 → C_X4_cellsOf G B R rr x13 mo → ∀ U : AA, C_X2_unload G B R (x + 3 + 2 * tk) (R (x + 77 + 17 * q) 1) f mo U → C_X7_answer G U R (x + 77 + 17 * q) 1 Z → ∀ (to : Int32) (c1 k1 : Int32) (ur : Nat → Int32), to.toInt = 32 * (p.toInt % 2) + (A 23 (4 * q)).toInt + 4 * (farI (A 29 (4 * q)) (A 12 q)).toInt → w.toInt = (if (A 24 (4 * q)).toInt - 4 * (farI (A 29 (4 * q)) (A 12 q)).toInt ≤ (A 44 24).toInt then (A 24 (4 * q)).toInt - 4 * (farI (A 29 (4 * q)) (A 12 q)).toInt else (A 44 24).toInt) → D_X10_takeCells A cd pk to w (uA A 4 ur) c1 k1 → ∀ (c2 k2 : Int32), D_X10_answerOne (uA A 4 ur) cd' pk p A1 c2 k2 → SIM x t0 t1 t2 Z R A1 pk := by
    intro Z A1 f w mo x13 x15 rr cd' hne hat e13 e15 ef0 hco U hu hZ to c1 k1 ur eto ew htc c2 k2 han
    obtain ⟨hd0, hn0⟩ := hnoc hne
    have er := e_atQ hS hq hat g2 (k := 0) (by decide)
    have w0 := g5 0 (by omega)
    rw [← er] at w0
    rw [Nat.add_zero] at w0
    obtain ⟨v0, v1, v2, v3, v4, v5, v6, v7, v8, v9, v10⟩ := w0
    have z0 := hz 0 (by omega)
    rw [Nat.add_zero] at z0
    have fr0 := j7 0 (by omega)
    rw [Nat.add_zero] at fr0
    have hNB : NB (A 24) (4 * q) = ((A 24 (4 * q)).toInt + 3) / 4 := rfl
    have jj := j3 0 (by omega) 0
    rw [Nat.add_zero] at jj
    have s0 : SN (A 24) q 0 = 0 := rfl
    have s1 : SN (A 24) q 1 = 0 + NB (A 24) (4 * q) := rfl
    have dlt := j2 (by omega)
    have efar : (farI (A 29 (4 * q)) (A 12 q)).toInt = d := by rw [far_m fr0 j8]; omega
    rw [efar] at eto ew
    have e13t : x13.toInt = d := by rw [e13, dst, p2s.2.1, v4]; omega
    have v2i := congrArg Int32.toInt v2
    have v3i := congrArg Int32.toInt v3
    have ef : f.toInt = (B rr 2).toInt + 4 * x13.toInt := by rw [ef0, add_t (by omega) (by omega), e15]
    have emo := e_cellsOf hco (by omega) (by omega)
    have y3i := congrArg Int32.toInt y3
    have h7 := hS.2.2.2.2.2.2.2.2.2 tk htk
    rw [(hS.2.2.2.1 q hq).1] at hu
    obtain ⟨f0, hf0⟩ : ∃ f0 : Nat, (f0 : Int) = f.toInt := ⟨f.toInt.toNat, by omega⟩
    obtain ⟨w1, hw1, eU⟩ := e_unload hu (by rw [h7]; omega) (hS.2.1 (q % 2) (by omega)).2.1 (by omega) (by omega) hf0 (by omega) (by omega) (Or.inr (by rw [emo]; split <;> omega))
    have hwn : (w1 : Int) = w.toInt := by
      rw [ew]
      rw [emo, y3i] at hw1
      by_cases e4 : 4 ≤ (B rr 3).toInt - 4 * x13.toInt
      · rw [if_pos e4] at hw1
        by_cases e5 : (A 24 (4 * q)).toInt - 4 * d ≤ (A 44 24).toInt
        · rw [if_pos e5]
          by_cases e6 : (A 44 24).toInt ≤ 4
          · rw [if_pos e6] at hw1; omega
          · omega
        · rw [if_neg e5]
          by_cases e6 : (A 44 24).toInt ≤ 4
          · rw [if_pos e6] at hw1; omega
          · omega
      · rw [if_neg e4] at hw1
        by_cases e5 : (A 24 (4 * q)).toInt - 4 * d ≤ (A 44 24).toInt
        · rw [if_pos e5]
          by_cases e6 : (A 44 24).toInt ≤ (B rr 3).toInt - 4 * x13.toInt
          · rw [if_pos e6] at hw1; omega
          · rw [if_neg e6] at hw1; omega
        · rw [if_neg e5]
          by_cases e6 : (A 44 24).toInt ≤ (B rr 3).toInt - 4 * x13.toInt
          · rw [if_pos e6] at hw1; omega
          · rw [if_neg e6] at hw1; omega
    have hwb : w.toInt ≤ (A 24 (4 * q)).toInt - 4 * d ∧ w.toInt ≤ (A 44 24).toInt := by rw [ew]; split <;> omega
    obtain ⟨-, -, eA⟩ := r_take htc (f0 := 32 * (q % 2) + f0) (w := w1) (by omega) hwn (by omega)
    have sim1 := h.cells hV (nd := q % 2) (f0 := f0) (w := w1) (by omega) (Or.inr (by omega)) (g := B (x + 3 + 2 * tk + 1)) (g' := fun k => A 48 (96 + k)) (fun k hk => by
      rw [show x + 3 + 2 * tk + 1 = x + 4 + 2 * tk by omega]
      exact ycs k (by omega) (by omega))
    rw [← eA, ← eU] at sim1
    have hJ1 : PJD (uA A 4 ur) q d := hJ0.cg rfl rfl rfl rfl rfl
    obtain ⟨-, -, hN1⟩ := r_answerOne han hp
    obtain ⟨c, hA1⟩ := (ANS.zero (A := uA A 4 ur) (p := p) hJ1.1 hJ1.2.1 hJ1.2.2.2.2.2.2.2.2.1 hJ1.2.2.2.2.2.2.2.1).step hq hJ1 (by show (0 : Int) < _; exact hd0) hN1
    exact (s_answer ht sim1 (hV.cg rfl rfl rfl) hq hst hp hJ1 (m := 0 + 1) (num := 1) (by decide) (by show (1 : Int) ≤ ((A 13 q).toInt - (A 12 q).toInt) % 64; omega) hA1 hZ).1
  rcases hd with ⟨n_1d, hn_1d, c1d, eZd, rfl, rfl⟩ | ⟨n_1d, hn_1d, c1d, c2d, r_10d, c3d, c4d, c5d, r_12d, hhasCellsd, er_12d, c6d, x_17d, ex_17d, x_18d, ex_18d, fx_18d, x_24d, ex_24d, fx_24d, x_25d, ex_25d, fx_25d, x_26d, ex_26d, fx_26d, x_29d, ex_29d, fx_29d, x_30d, ex_30d, fx_30d, c7d, ur_36d, htakeCellsd, ur_37d, hanswerOned, c8d, c9d, c10d, c11d, c12d, eZd, rfl, rfl⟩ | ⟨n_1d, hn_1d, c1d, c2d, r_10d, c3d, c4d, c5d, r_12d, hhasCellsd, er_12d, c6d, x_17d, ex_17d, x_18d, ex_18d, fx_18d, x_24d, ex_24d, fx_24d, x_25d, ex_25d, fx_25d, x_26d, ex_26d, fx_26d, x_29d, ex_29d, fx_29d, x_30d, ex_30d, fx_30d, c7d, ur_39d, htakeCellsd, ur_40d, hanswerOned, c8d, c9d, c10d, c11d, c12d, eZd, rfl, rfl⟩ | ⟨n_1d, hn_1d, c1d, c2d, r_10d, c3d, c4d, c5d, r_12d, hhasCellsd, er_12d, c6d, eZd, rfl, rfl⟩ | ⟨n_1d, hn_1d, c1d, c2d, eZd, rfl, rfl⟩
  · obtain rfl : n_1d = q := by omega
    rw [eZd]
    simp only [uA_ii]
    rcases hc with ⟨c1, eZ⟩ | ⟨c1, c2, eZ⟩ | ⟨c1, c2, r_5, hawaitsReply, c3, r_10, hat, x_13, ex_13, x_15, ex_15, fx_15, x_16, ex_16, r_17, hcellsOf, U_20, hF, hunload, U_23, hF_1, hanswer, eZ⟩ | ⟨c1, c2, r_5, hawaitsReply, c3, eZ⟩
    · rw [eZ]; first | exact h | exact ⟨h, trivial⟩ | exact ⟨h, rfl⟩
    · exfalso; omega
    · exfalso; omega
    · exfalso; omega
  · obtain rfl : n_1d = q := by omega
    rcases hc with ⟨c1, eZ⟩ | ⟨c1, c2, eZ⟩ | ⟨c1, c2, r_5, hawaitsReply, c3, r_10, hat, x_13, ex_13, x_15, ex_15, fx_15, x_16, ex_16, r_17, hcellsOf, U_20, hF, hunload, U_23, hF_1, hanswer, eZ⟩ | ⟨c1, c2, r_5, hawaitsReply, c3, eZ⟩
    · exfalso; omega
    · exfalso; omega
    · rw [(hS.2.2.2.1 _ hq).2.2] at hat
      rw [eZ, eZd]
      refine ⟨main c2d hat ex_13 fx_15 ex_16 hcellsOf _ hunload hanswer _ _ _ _ (by rw [fx_30d, fx_29d, fx_26d, fx_25d, fx_18d, ex_17d]; rfl) (by rw [fx_24d, fx_18d, ex_17d, if_pos (by rw [fx_24d, fx_18d, ex_17d] at c7d; exact c7d)]; rfl) htakeCellsd _ _ hanswerOned, rfl⟩
    · have a := aw c2d hawaitsReply
      have b := hcells c5d hhasCellsd
      rw [Nat.add_zero] at a
      exfalso; omega
  · obtain rfl : n_1d = q := by omega
    rcases hc with ⟨c1, eZ⟩ | ⟨c1, c2, eZ⟩ | ⟨c1, c2, r_5, hawaitsReply, c3, r_10, hat, x_13, ex_13, x_15, ex_15, fx_15, x_16, ex_16, r_17, hcellsOf, U_20, hF, hunload, U_23, hF_1, hanswer, eZ⟩ | ⟨c1, c2, r_5, hawaitsReply, c3, eZ⟩
    · exfalso; omega
    · exfalso; omega
    · rw [(hS.2.2.2.1 _ hq).2.2] at hat
      rw [eZ, eZd]
      refine ⟨main c2d hat ex_13 fx_15 ex_16 hcellsOf _ hunload hanswer _ _ _ _ (by rw [fx_30d, fx_29d, fx_26d, fx_25d, fx_18d, ex_17d]; rfl) (by rw [if_neg (by rw [fx_24d, fx_18d, ex_17d] at c7d; exact c7d)]) htakeCellsd _ _ hanswerOned, rfl⟩
    · have a := aw c2d hawaitsReply
      have b := hcells c5d hhasCellsd
      rw [Nat.add_zero] at a
      exfalso; omega
  · obtain rfl : n_1d = q := by omega
    rw [eZd]
    simp only [uA_ii]
    rcases hc with ⟨c1, eZ⟩ | ⟨c1, c2, eZ⟩ | ⟨c1, c2, r_5, hawaitsReply, c3, r_10, hat, x_13, ex_13, x_15, ex_15, fx_15, x_16, ex_16, r_17, hcellsOf, U_20, hF, hunload, U_23, hF_1, hanswer, eZ⟩ | ⟨c1, c2, r_5, hawaitsReply, c3, eZ⟩
    · rw [eZ]; first | exact h | exact ⟨h, trivial⟩ | exact ⟨h, rfl⟩
    · rw [eZ]; first | exact h | exact ⟨h, trivial⟩ | exact ⟨h, rfl⟩
    · have a := aw c2d hawaitsReply
      have b := hcells c5d hhasCellsd
      rw [Nat.add_zero] at a
      exfalso; omega
    · rw [eZ]; first | exact h | exact ⟨h, trivial⟩ | exact ⟨h, rfl⟩
  · obtain rfl : n_1d = q := by omega
    rw [eZd]
    simp only [uA_ii]
    rcases hc with ⟨c1, eZ⟩ | ⟨c1, c2, eZ⟩ | ⟨c1, c2, r_5, hawaitsReply, c3, r_10, hat, x_13, ex_13, x_15, ex_15, fx_15, x_16, ex_16, r_17, hcellsOf, U_20, hF, hunload, U_23, hF_1, hanswer, eZ⟩ | ⟨c1, c2, r_5, hawaitsReply, c3, eZ⟩
    · rw [eZ]; first | exact h | exact ⟨h, trivial⟩ | exact ⟨h, rfl⟩
    · rw [eZ]; first | exact h | exact ⟨h, trivial⟩ | exact ⟨h, rfl⟩
    · exfalso; omega
    · exfalso; omega
