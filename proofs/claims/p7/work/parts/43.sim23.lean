theorem e_fia {x q hd : Nat} {G : Nat → Nat} {Y : AA} {R : RR} {r : Int32} (hS : SHX x R) (hq : q < 4) (hh : (hd : Int) = (Y (x + 78 + 17 * q) 3).toInt) (h : C_X7_firstIsAnswered G Y R (x + 77 + 17 * q) r) : (r.toInt = 0 ∧ ((Y (x + 78 + 17 * q) 4).toInt ≤ 0 ∨ ((Y (x + 77 + 17 * q) 8).toInt - (Y (x + 80 + 17 * q + hd % 4) 4).toInt) % 64 < (Y (x + 80 + 17 * q + hd % 4) 5).toInt)) ∨ (¬ r.toInt = 0 ∧ ¬ (Y (x + 78 + 17 * q) 4).toInt ≤ 0 ∧ ¬ ((Y (x + 77 + 17 * q) 8).toInt - (Y (x + 80 + 17 * q + hd % 4) 4).toInt) % 64 < (Y (x + 80 + 17 * q + hd % 4) 5).toInt) := by
  have h6 := (hS.2.2.2.1 q hq).2.2
  unfold C_X7_firstIsAnswered at h
  rw [h6] at h
  rcases h with ⟨r_4, hat, c1, rfl⟩ | ⟨r_4, hat, c1, x_10, ex_10, c2, rfl⟩ | ⟨r_4, hat, c1, x_10, ex_10, c2, rfl⟩
  · exact Or.inl ⟨by decide, Or.inl c1⟩
  · have er := e_atQ hS hq hat hh (k := 0) (by decide)
    rw [Nat.add_zero] at er
    subst er
    rw [ex_10, dst] at c2
    exact Or.inl ⟨by decide, Or.inr c2⟩
  · have er := e_atQ hS hq hat hh (k := 0) (by decide)
    rw [Nat.add_zero] at er
    subst er
    rw [ex_10, dst] at c2
    exact Or.inr ⟨by decide, c1, c2⟩
/-- an answer in the class is as many single ones as the reference gives -/
theorem s_answer {x q : Nat} {G : Nat → Nat} {t0 t1 t2 : Int32} (ht : 2 ≤ t0.toInt) {B : AA} {R : RR} {A : AA} {pk : Int32} (h : SIM x t0 t1 t2 B R A pk) (hV : RW A pk) (hq : q < 4) (hst : (A 10 q).toInt = 1) {p num : Int32} (hp : (q : Int) = p.toInt) {d : Int} (hJ : PJD A q d) {m c : Nat} (hm : (m : Int) = num.toInt) (hmd : (m : Int) ≤ ((A 13 q).toInt - (A 12 q).toInt) % 64) {A' : AA} (hA : ANS A q p d m c A') {Z : AA} (hc : C_X7_answer G B R (x + 77 + 17 * q) num Z) : SIM x t0 t1 t2 Z R A' pk ∧ (∀ a, x + 1 ≤ a → a < x + 55 → Z a = B a) := by
  have hh := h
  obtain ⟨hS, -, -, -, hN, hPQ⟩ := hh
  obtain ⟨hC, hPS, hRQ, hRV, hAD⟩ := hPQ q hq
  have hPS0 := hPS
  obtain ⟨p1, p2, p3, p4, p5, p6, p7, p8, p9, p10⟩ := hPS
  have p2s := p2 hst
  have p4s := p4 (by omega)
  obtain ⟨hd, g1, g2, g3, g4, g5⟩ := hRQ
  have g3i := congrArg Int32.toInt g3
  obtain ⟨⟨ds, es, a1, a2, a3, a4, a5⟩, ⟨b1, b2, b3⟩, gr, ⟨e1, e2⟩, f1, f2, f3, f4, f5⟩ := hA
  obtain ⟨j1, j2, j3, j4, j5, j6, j7, j8, j9⟩ := hJ
  obtain ⟨n, hn⟩ : ∃ n : Nat, (n : Int) = (A 20 q).toInt := ⟨_, Int.toNat_of_nonneg j9.1⟩
  have hnn : (A 20 q).toInt.toNat = n := by omega
  rw [hnn] at j4 j6
  have hsl := sn_le j5
  by_cases m0 : m = 0
  · have e := f2 m0
    subst e
    have ez : Z = B := by
      rcases hc with ⟨c1, x_3, ex_3, B_4, rfl, B_6, rfl, B_8, rfl, B_10, rfl, B_12, rfl, r_15, hfirstIsAnswered, c2, rfl⟩ | ⟨c1, x_3, ex_3, B_4, rfl, B_6, rfl, B_8, rfl, B_10, rfl, B_12, rfl, r_15, hfirstIsAnswered, c2, U_23, hF, hcompleteFirst, r_26, hfirstIsAnswered_1, c3, rfl⟩ | ⟨c1, x_3, ex_3, B_4, rfl, B_6, rfl, B_8, rfl, B_10, rfl, B_12, rfl, r_15, hfirstIsAnswered, c2, U_23, hF, hcompleteFirst, r_26, hfirstIsAnswered_1, c3, U_32, hF_1, hcompleteFirst_1, r_35, hfirstIsAnswered_2, c4, rfl⟩ | ⟨c1, x_3, ex_3, B_4, rfl, B_6, rfl, B_8, rfl, B_10, rfl, B_12, rfl, r_15, hfirstIsAnswered, c2, U_23, hF, hcompleteFirst, r_26, hfirstIsAnswered_1, c3, U_32, hF_1, hcompleteFirst_1, r_35, hfirstIsAnswered_2, c4, U_41, hF_2, hcompleteFirst_2, r_44, hfirstIsAnswered_3, c5, rfl⟩ | ⟨c1, x_3, ex_3, B_4, rfl, B_6, rfl, B_8, rfl, B_10, rfl, B_12, rfl, r_15, hfirstIsAnswered, c2, U_23, hF, hcompleteFirst, r_26, hfirstIsAnswered_1, c3, U_32, hF_1, hcompleteFirst_1, r_35, hfirstIsAnswered_2, c4, U_41, hF_2, hcompleteFirst_2, r_44, hfirstIsAnswered_3, c5, U_50, hF_3, hcompleteFirst_3, rfl⟩ | ⟨c1, rfl⟩
      · exfalso; omega
      · exfalso; omega
      · exfalso; omega
      · exfalso; omega
      · exfalso; omega
      · rfl
    subst ez
    exact ⟨h, fun _ _ _ => rfl⟩
  obtain ⟨q1, q2, q3, q4⟩ := f1 (by omega)
  have main : ∀ x3 : Int32, x3.toInt = ((A 12 q).toInt + m) % 64 → (∀ {i : Nat} {Y : AA} {r : Int32}, i ≤ c → STK x (q % 2) (x + 78 + 17 * q) hd i (uA B (x + 77 + 17 * q) (upd (upd (upd (upd (upd (B (x + 77 + 17 * q)) 8 x3) 10 0) 11 0) 12 0) 13 0)) A Y (uA (uA A 8 (ds i)) 9 (es i)) → C_X7_firstIsAnswered G Y R (x + 77 + 17 * q) r → (r.toInt = 0 → i = c) ∧ (¬ r.toInt = 0 → i + 1 ≤ c ∧ ∀ W, C_X5_completeFirst G Y R (x + 78 + 17 * q) 0 W → STK x (q % 2) (x + 78 + 17 * q) hd (i + 1) (uA B (x + 77 + 17 * q) (upd (upd (upd (upd (upd (B (x + 77 + 17 * q)) 8 x3) 10 0) 11 0) 12 0) 13 0)) A W (uA (uA A 8 (ds (i + 1))) 9 (es (i + 1))))) ∧ STK x (q % 2) (x + 78 + 17 * q) hd 0 (uA B (x + 77 + 17 * q) (upd (upd (upd (upd (upd (B (x + 77 + 17 * q)) 8 x3) 10 0) 11 0) 12 0) 13 0)) A (uA B (x + 77 + 17 * q) (upd (upd (upd (upd (upd (B (x + 77 + 17 * q)) 8 x3) 10 0) 11 0) 12 0) 13 0)) (uA (uA A 8 (ds 0)) 9 (es 0)) ∧ (∀ W, STK x (q % 2) (x + 78 + 17 * q) hd c (uA B (x + 77 + 17 * q) (upd (upd (upd (upd (upd (B (x + 77 + 17 * q)) 8 x3) 10 0) 11 0) 12 0) 13 0)) A W (uA (uA A 8 (ds c)) 9 (es c)) → SIM x t0 t1 t2 W R A' pk ∧ (∀ a, x + 1 ≤ a → a < x + 55 → W a = B a)) := by
    intro x3 hx3
    refine ⟨?_, ?_, ?_⟩
    · intro i Y r hic hT hf
      have hT0 := hT
      obtain ⟨s1, s2, s3, s4, s5, s6, s7⟩ := hT
      have hl : SN (A 24) q i ≤ SN (A 24) q c := by
        have := hsl (c - i) i (by omega)
        rw [show i + (c - i) = c by omega] at this
        omega
      have eH : Y (x + 77 + 17 * q) 8 = x3 := by rw [s3 _ (by omega) (by omega) (by omega), uA_s]; rfl
      rw [uA_n (by omega), g3i] at s6
      have row : ∀ k, k < n → k = i → (Y (x + 80 + 17 * q + (hd + i) % 4 % 4) 4 = A 29 (4 * q + k)) ∧ (Y (x + 80 + 17 * q + (hd + i) % 4 % 4) 5).toInt = NB (A 24) (4 * q + k) := fun k hk e => by
        subst e
        have w := g5 k (by omega)
        rw [show (hd + k) % 4 % 4 = (hd + k) % 4 by omega, s3 _ (by omega) (by omega) (by omega), uA_n (by omega)]
        exact ⟨w.2.2.2.2.1, w.2.2.2.2.2.1⟩
      have far : i < n → (x3.toInt - (A 29 (4 * q + i)).toInt) % 64 = d + m - SN (A 24) q i := fun hi => by
        have k1 := j3 i (by omega) m
        have k2 := hsl i 0 (by omega)
        rw [Nat.zero_add] at k2
        have k3 : SN (A 24) q 0 = 0 := rfl
        rw [hx3]
        omega
      have sni : SN (A 24) q (i + 1) = SN (A 24) q i + NB (A 24) (4 * q + i) := rfl
      rcases e_fia hS hq s5.symm hf with ⟨r0, k⟩ | ⟨r0, k1, k2⟩
      · refine ⟨fun _ => ?_, fun e => absurd r0 e⟩
        rcases k with k | k
        · omega
        · by_cases hi : i < n
          · obtain ⟨w1, w2⟩ := row i hi rfl
            rw [eH, w1, w2, far hi] at k
            by_cases e : i = c
            · exact e
            · exfalso
              have := hsl (c - (i + 1)) (i + 1) (by omega)
              rw [show i + 1 + (c - (i + 1)) = c by omega] at this
              omega
          · omega
      · refine ⟨fun e => absurd e r0, fun _ => ?_⟩
        have hi : i < n := by omega
        obtain ⟨w1, w2⟩ := row i hi rfl
        rw [eH, w1, w2, far hi] at k2
        have hlt : i + 1 ≤ c := by
          by_cases e : i = c
          · exfalso
            subst e
            have := f5 (by omega)
            omega
          · omega
        refine ⟨hlt, fun W hW => ?_⟩
        have T := stepQ2 hS hq hp (by rw [uA_n (by omega)]; exact i32_eq (by rw [hC.2.2.2.2.2.1]; exact hp)) hT0 (by rw [uA_n (by omega)]; exact g5 i (by omega)) hW (a3 i (by omega))
        rw [uu_89] at T
        exact T
    · rw [a1, a2, uu_id]
      exact STK.rf (fun k hk => (hN k hk).cg (uA_n (by omega)) (uA_n (by omega)) rfl (fun _ _ _ => rfl) (hV.1 k hk).2) hV.1 (by rw [uA_n (by omega)]; exact g2) g1
    · intro W hT
      obtain ⟨s1, s2, s3, s4, s5, s6, s7⟩ := hT
      rw [uA_n (by omega), g3i] at s6
      have fr : ∀ a, a ≠ x + 56 + 10 * (q % 2) → a ≠ x + 59 + 10 * (q % 2) → a ≠ (x + 78 + 17 * q) → a ≠ (x + 77 + 17 * q) → W a = B a := fun a k1 k2 k3 k4 => by rw [s3 a k1 k2 k3, uA_n k4]
      have zK : ∀ j, j ≠ 3 → j ≠ 4 → W (x + 78 + 17 * q) j = B (x + 78 + 17 * q) j := fun j k1 k2 => by rw [s7 j k1 k2, uA_n (by omega)]
      have zH : W (x + 77 + 17 * q) = upd (upd (upd (upd (upd (B (x + 77 + 17 * q)) 8 x3) 10 0) 11 0) 12 0) 13 0 := by rw [s3 _ (by omega) (by omega) (by omega), uA_s]
      have nn : ∀ {j : Nat}, ¬ NA1 j → A' j = A j := fun hj => f3 _ hj
      have n10 : A' 10 = A 10 := nn (by unfold NA1; omega)
      have n11 : A' 11 = A 11 := nn (by unfold NA1; omega)
      have n13 : A' 13 = A 13 := nn (by unfold NA1; omega)
      have n14 : A' 14 = A 14 := nn (by unfold NA1; omega)
      have n19 : A' 19 = A 19 := nn (by unfold NA1; omega)
      have n21 : A' 21 = A 21 := nn (by unfold NA1; omega)
      have n36 : A' 36 = A 36 := nn (by unfold NA1; omega)
      have hi0 := i_0
      refine ⟨h.prw hV hq (n := q % 2) (by omega) (fun a k1 k2 k3 => fr a k1 k2 (by omega) (by omega)) (fun k hk => ?_) ⟨?_, ?_, ?_, ?_, ?_⟩ (fun q' hne => ⟨fun j k1 k2 => ?_, fun j hj i hi => ?_, fun j hj i hi => ?_⟩) (fun j k1 k2 k3 => f3 j (by unfold NA1; omega)), fun a k1 k2 => fr a (by omega) (by omega) (by omega) (by omega)⟩
      · rw [← a4, ← a5]; exact s1 k hk
      · exact hC.cg (fun j hj => by rw [zH, upd_n (by omega), upd_n (by omega), upd_n (by omega), upd_n (by omega), upd_n (by omega)]) (by rw [fr _ (by omega) (by omega) (by omega) (by omega)]) (zK 0 (by decide) (by decide)) (by rw [fr _ (by omega) (by omega) (by omega) (by omega)])
      · refine PS.mk1 hPS0 hst (by rw [n10]) (fr _ (by omega) (by omega) (by omega) (by omega)) (fr _ (by omega) (by omega) (by omega) (by omega)) zH (by rw [n11]; exact p2s.1) (i32_eq (by rw [e1]; exact hx3)) (by rw [n13]; exact p2s.2.2.1) (by rw [q1]; rfl) (by rw [q2]; rfl) (by rw [q3]; rfl) (by rw [q4]; rfl) (by rw [q1, q4]; exact ⟨fun _ => by omega, fun e => by omega⟩) (by rw [q4]; exact Or.inl rfl) (by rw [n14]) (by rw [n19]) (by rw [n36])
      · refine ⟨(hd + c) % 4, by omega, s5.symm, i32_eq (by rw [s6, b2]), by rw [zK 5 (by decide) (by decide), n21]; exact g4, fun i hi => ?_⟩
        refine (g5 (i + c) (by omega)).cg ?_ (fun j k1 k2 => (gr j k1 k2).1 i (by omega))
        rw [fr _ (by omega) (by omega) (by omega) (by omega)]
        congr 1; omega
      · exact hRV.cg (fr _ (by omega) (by omega) (by omega) (by omega)) (fun i _ => fr _ (by omega) (by omega) (by omega) (by omega)) (by rw [nn (j := 30) (by unfold NA1; omega)]) (by rw [nn (j := 31) (by unfold NA1; omega)]) (fun j k1 k2 i hi => by rw [nn (j := j) (by unfold NA1; omega)]) (hV.2.1 q hq).2.2
      · exact hAD.cg (fr _ (by omega) (by omega) (by omega) (by omega)) (fr _ (by omega) (by omega) (by omega) (by omega)) (by rw [nn (j := 37) (by unfold NA1; omega)]) (fun i hi => by rw [nn (j := 38) (by unfold NA1; omega)]) (fun i hi => by rw [nn (j := 39) (by unfold NA1; omega)])
      · by_cases c1 : j = 12 ∨ 15 ≤ j ∧ j ≤ 18
        · exact Or.inl (e2 j c1 q' hne)
        by_cases c2 : j = 20
        · subst c2; exact Or.inl (b3 q' hne)
        by_cases c3 : 22 ≤ j ∧ j ≤ 29
        · exact Or.inr (Or.inl c3)
        exact Or.inl (by rw [nn (j := j) (by unfold NA1; omega)])
      · by_cases c3 : 22 ≤ j ∧ j ≤ 29
        · exact (gr j c3.1 c3.2).2 _ (by omega)
        · rw [nn (j := j) (by unfold NA1; omega)]
      · rw [nn (j := j) (by unfold NA1; omega)]
  have h6 := (hS.2.2.2.1 q hq).2.2
  have e8 : ∀ {x3 : Int32}, x3 = (B (x + 77 + 17 * q) 8 + num) &&& 63 → x3.toInt = ((A 12 q).toInt + m) % 64 := fun e => by rw [e, aft, p2s.2.1, hm]
  unfold C_X7_answer at hc
  rw [h6] at hc
  rcases hc with ⟨c1, x_3, ex_3, B_4, rfl, B_6, rfl, B_8, rfl, B_10, rfl, B_12, rfl, r_15, hfirstIsAnswered, c2, rfl⟩ | ⟨c1, x_3, ex_3, B_4, rfl, B_6, rfl, B_8, rfl, B_10, rfl, B_12, rfl, r_15, hfirstIsAnswered, c2, U_23, hF, hcompleteFirst, r_26, hfirstIsAnswered_1, c3, rfl⟩ | ⟨c1, x_3, ex_3, B_4, rfl, B_6, rfl, B_8, rfl, B_10, rfl, B_12, rfl, r_15, hfirstIsAnswered, c2, U_23, hF, hcompleteFirst, r_26, hfirstIsAnswered_1, c3, U_32, hF_1, hcompleteFirst_1, r_35, hfirstIsAnswered_2, c4, rfl⟩ | ⟨c1, x_3, ex_3, B_4, rfl, B_6, rfl, B_8, rfl, B_10, rfl, B_12, rfl, r_15, hfirstIsAnswered, c2, U_23, hF, hcompleteFirst, r_26, hfirstIsAnswered_1, c3, U_32, hF_1, hcompleteFirst_1, r_35, hfirstIsAnswered_2, c4, U_41, hF_2, hcompleteFirst_2, r_44, hfirstIsAnswered_3, c5, rfl⟩ | ⟨c1, x_3, ex_3, B_4, rfl, B_6, rfl, B_8, rfl, B_10, rfl, B_12, rfl, r_15, hfirstIsAnswered, c2, U_23, hF, hcompleteFirst, r_26, hfirstIsAnswered_1, c3, U_32, hF_1, hcompleteFirst_1, r_35, hfirstIsAnswered_2, c4, U_41, hF_2, hcompleteFirst_2, r_44, hfirstIsAnswered_3, c5, U_50, hF_3, hcompleteFirst_3, rfl⟩ | ⟨c1, rfl⟩
  · obtain ⟨key, T0, fin⟩ := main _ (e8 ex_3)
    simp only [uA_u, uA_s] at hfirstIsAnswered
    simp only [uA_u, uA_s]
    have ec := (key (i := 0) (Nat.zero_le c) T0 hfirstIsAnswered).1 c2
    subst ec
    exact fin _ T0
  · obtain ⟨key, T0, fin⟩ := main _ (e8 ex_3)
    simp only [uA_u, uA_s] at hfirstIsAnswered hcompleteFirst
    obtain ⟨l0, w0⟩ := (key (i := 0) (Nat.zero_le c) T0 hfirstIsAnswered).2 c2
    have T1 := w0 _ hcompleteFirst
    have ec := (key (i := 1) l0 T1 hfirstIsAnswered_1).1 c3
    subst ec
    exact fin _ T1
  · obtain ⟨key, T0, fin⟩ := main _ (e8 ex_3)
    simp only [uA_u, uA_s] at hfirstIsAnswered hcompleteFirst
    obtain ⟨l0, w0⟩ := (key (i := 0) (Nat.zero_le c) T0 hfirstIsAnswered).2 c2
    have T1 := w0 _ hcompleteFirst
    obtain ⟨l1, w1⟩ := (key (i := 1) l0 T1 hfirstIsAnswered_1).2 c3
    have T2 := w1 _ hcompleteFirst_1
    have ec := (key (i := 2) l1 T2 hfirstIsAnswered_2).1 c4
    subst ec
    exact fin _ T2
  · obtain ⟨key, T0, fin⟩ := main _ (e8 ex_3)
    simp only [uA_u, uA_s] at hfirstIsAnswered hcompleteFirst
    obtain ⟨l0, w0⟩ := (key (i := 0) (Nat.zero_le c) T0 hfirstIsAnswered).2 c2
    have T1 := w0 _ hcompleteFirst
    obtain ⟨l1, w1⟩ := (key (i := 1) l0 T1 hfirstIsAnswered_1).2 c3
    have T2 := w1 _ hcompleteFirst_1
    obtain ⟨l2, w2⟩ := (key (i := 2) l1 T2 hfirstIsAnswered_2).2 c4
    have T3 := w2 _ hcompleteFirst_2
    have ec := (key (i := 3) l2 T3 hfirstIsAnswered_3).1 c5
    subst ec
    exact fin _ T3
  · obtain ⟨key, T0, fin⟩ := main _ (e8 ex_3)
    simp only [uA_u, uA_s] at hfirstIsAnswered hcompleteFirst
    obtain ⟨l0, w0⟩ := (key (i := 0) (Nat.zero_le c) T0 hfirstIsAnswered).2 c2
    have T1 := w0 _ hcompleteFirst
    obtain ⟨l1, w1⟩ := (key (i := 1) l0 T1 hfirstIsAnswered_1).2 c3
    have T2 := w1 _ hcompleteFirst_1
    obtain ⟨l2, w2⟩ := (key (i := 2) l1 T2 hfirstIsAnswered_2).2 c4
    have T3 := w2 _ hcompleteFirst_2
    obtain ⟨l3, w3⟩ := (key (i := 3) l2 T3 hfirstIsAnswered_3).2 c5
    have T4 := w3 _ hcompleteFirst_3
    obtain rfl : c = 4 := by omega
    exact fin _ T4
  · exfalso; omega
