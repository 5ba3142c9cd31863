theorem PJD.own {A : AA} {q : Nat} {d : Int} (hJ : PJD A q d) {i : Nat} {j num : Int} (hi : (i : Int) < (A 20 q).toInt) (h1 : SN (A 24) q i ≤ d + j) (h2 : d + j < SN (A 24) q (i + 1)) (hn : num = ((A 12 q).toInt + j) % 64) : OWN A q i num := by
  obtain ⟨j1, j2, j3, j4, j5, j6, j7, j8, j9⟩ := hJ
  have hsl := sn_le j5
  have top : SN (A 24) q (i + 1) ≤ SN (A 24) q (A 20 q).toInt.toNat := by
    have l := hsl ((A 20 q).toInt.toNat - (i + 1)) (i + 1) (by omega)
    rw [show i + 1 + ((A 20 q).toInt.toNat - (i + 1)) = (A 20 q).toInt.toNat by omega] at l
    omega
  have dist : ∀ k : Nat, k ≤ i → (num - (A 29 (4 * q + k)).toInt) % 64 = d + j - SN (A 24) q k := fun k hk => by
    have e := j3 k (by omega) j
    have l1 := hsl (i - k) k (by omega)
    rw [show k + (i - k) = i by omega] at l1
    have l2 := hsl k 0 (by omega)
    rw [Nat.zero_add] at l2
    have l3 : SN (A 24) q 0 = 0 := rfl
    rw [hn]
    omega
  refine ⟨fun k hk => ?_, ?_⟩
  · rw [dist k (by omega)]
    have l1 := hsl (i - (k + 1)) (k + 1) (by omega)
    rw [show k + 1 + (i - (k + 1)) = i by omega] at l1
    have s : SN (A 24) q (k + 1) = SN (A 24) q k + NB (A 24) (4 * q + k) := rfl
    omega
  · rw [dist i (Nat.le_refl i)]
    have s : SN (A 24) q (i + 1) = SN (A 24) q i + NB (A 24) (4 * q + i) := rfl
    omega
theorem e_awaits {x q n h i : Nat} {G : Nat → Nat} {B : AA} {R : RR} {A : AA} {num r : Int32} (hS : SHX x R) (hq : q < 4) (hh : (h : Int) = (B (x + 78 + 17 * q) 3).toInt) (hn : (n : Int) = (B (x + 78 + 17 * q) 4).toInt) (h4 : n ≤ 4) (rows : ∀ i, i < n → RWQ (B (x + 80 + 17 * q + (h + i) % 4)) A (4 * q + i)) (hc : C_X7_awaitsReply G B R (x + 77 + 17 * q) num r) (hi : i < n) (ho : OWN A q i num.toInt) : (r.toInt = 0 ∧ (A 22 (4 * q + i)).toInt < 2) ∨ (¬ r.toInt = 0 ∧ ¬ (A 22 (4 * q + i)).toInt < 2) := by
  have row : ∀ {r2 : Int32} {a : Nat}, C_X7_ownerOf G B R (x + 77 + 17 * q) num r2 → ¬ r2.toInt = -1 → C_X5_at G B R (R (x + 77 + 17 * q) 6) r2 a → (B a 0).toInt = (A 22 (4 * q + i)).toInt ∧ (0 ≤ (A 22 (4 * q + i)).toInt ∧ (A 22 (4 * q + i)).toInt ≤ 3) := fun hw hne hat => by
    rcases e_owner hS hq hw hh hn h4 rows with ⟨o1, -⟩ | ⟨i', hi', ei, o3, o4⟩
    · exact absurd o1 hne
    · obtain rfl : i' = i := OWN.uniq ⟨o3, o4⟩ ho
      rw [(hS.2.2.2.1 q hq).2.2] at hat
      have er := e_atQ hS hq hat hh (k := i') (by omega)
      have w := rows i' hi
      rw [← er] at w
      exact ⟨congrArg Int32.toInt w.1, w.2.2.2.2.2.2.2.2.2.2⟩
  rcases hc with ⟨r_2, hownerOf, c1, rfl⟩ | ⟨r_2, hownerOf, c1, r_7, hat, r_9, hawaitsReply, c2, rfl⟩ | ⟨r_2, hownerOf, c1, r_7, hat, r_9, hawaitsReply, c2, rfl⟩
  · exfalso
    rcases e_owner hS hq hownerOf hh hn h4 rows with ⟨-, o2⟩ | ⟨i', hi', ei, -⟩
    · have a := o2 i hi
      have b := ho.2
      omega
    · omega
  · obtain ⟨w1, w2⟩ := row hownerOf c1 hat
    rcases hawaitsReply with ⟨c1a, rfl⟩ | ⟨c1a, c2a, rfl⟩ | ⟨c1a, c2a, rfl⟩
    · exact absurd c2 (by decide)
    · exact Or.inl ⟨by decide, by omega⟩
    · exact absurd c2 (by decide)
  · obtain ⟨w1, w2⟩ := row hownerOf c1 hat
    rcases hawaitsReply with ⟨c1a, rfl⟩ | ⟨c1a, c2a, rfl⟩ | ⟨c1a, c2a, rfl⟩
    · exact Or.inr ⟨by decide, by omega⟩
    · exact absurd i_0 c2
    · exact Or.inr ⟨by decide, by omega⟩
theorem e_open {G : Nat → Nat} {B : AA} {R : RR} {H : Nat} {num r : Int32} (h : C_X7_isOpen G B R H num r) : (r.toInt = 0 ∧ ((B H 9).toInt - (B H 8).toInt) % 64 ≤ (num.toInt - (B H 8).toInt) % 64) ∨ (¬ r.toInt = 0 ∧ (num.toInt - (B H 8).toInt) % 64 < ((B H 9).toInt - (B H 8).toInt) % 64) := by
  rcases h with ⟨x_2, ex_2, x_3, ex_3, c1, rfl⟩ | ⟨x_2, ex_2, x_3, ex_3, c1, rfl⟩
  · rw [ex_2, ex_3, dst, dst] at c1
    exact Or.inl ⟨by decide, c1⟩
  · rw [ex_2, ex_3, dst, dst] at c1
    exact Or.inr ⟨by decide, by omega⟩
theorem r_some {A : AA} {cd pk p k : Int32} {A' : AA} {cdz pkz : Int32} {q : Nat} (h : D_X10_answerSome A cd pk p k A' cdz pkz) (hq : (q : Int) = p.toInt) (hV : RW A pk) : cdz = cd ∧ pkz = pk ∧ RW A' pk ∧ ((¬ k.toInt ≤ ((A 13 q).toInt - (A 12 q).toInt) % 64 ∧ A' = A) ∨ (k.toInt ≤ ((A 13 q).toInt - (A 12 q).toInt) % 64 ∧ ∃ b : Nat, ASR A cd pk p q b A' ∧ (((b : Int) = k.toInt ∨ (k.toInt ≤ 0 ∧ b = 0)) ∨ ((b : Int) < k.toInt ∧ ∃ w : Int32, HC A' cd pk p q w ∧ w.toInt ≠ 0)))) := by
  rcases h with ⟨n_1, hn_1, x_5, ex_5, fx_5, c1, ix_7, u_7, c2, c3, c4, c5, c6, c7, c8, rfl, rfl, rfl⟩ | ⟨n_1, hn_1, x_5, ex_5, fx_5, c1, rfl, rfl, rfl⟩
  · obtain rfl : n_1 = q := by omega
    obtain ⟨-, b, hb, ho⟩ := c7
    refine ⟨rfl, rfl, RW.of c3 c6 hV.2.2, Or.inr ⟨by omega, b, hb, ?_⟩⟩
    rcases ho with ⟨o1, o2⟩ | ⟨o1, o2, o3⟩
    · rcases o2 with o2 | o2
      · exact Or.inl (Or.inl (by omega))
      · exact Or.inl (Or.inr ⟨by omega, o2⟩)
    · exact Or.inr ⟨o2, o3⟩
  · obtain rfl : n_1 = q := by omega
    have e : (uA (uA (uA (uA (uA (uA (uA (uA (uA (uA (uA (uA (uA (uA (uA (uA A 8 (A 8)) 9 (A 9)) 12 (A 12)) 15 (A 15)) 16 (A 16)) 17 (A 17)) 18 (A 18)) 20 (A 20)) 22 (A 22)) 23 (A 23)) 24 (A 24)) 25 (A 25)) 26 (A 26)) 27 (A 27)) 28 (A 28)) 29 (A 29)) = A := uu_ids
    rw [e]
    exact ⟨rfl, rfl, hV, Or.inl ⟨by omega, rfl⟩⟩
theorem s_ack {x q : Nat} {G : Nat → Nat} {t0 t1 t2 : Int32} (ht : 2 ≤ t0.toInt) {B : AA} {R : RR} {A : AA} {pk cd : Int32} (h : SIM x t0 t1 t2 B R A pk) (hV : RW A pk) (hq : q < 4) (hst : (A 10 q).toInt = 1) {p num k : Int32} (hp : (q : Int) = p.toInt) {d : Int} (hJ : PJD A q d) (hk : k.toInt = (num.toInt - (A 12 q).toInt) % 64 + 1 ∨ (k.toInt = 0 ∧ (num.toInt - (A 12 q).toInt) % 64 = 63)) {Z : AA} (hc : C_X7_takeAck G B R (x + 77 + 17 * q) num Z) {A' : AA} {cdz pkz : Int32} (hd : D_X10_answerSome A cd pk p k A' cdz pkz) : SIM x t0 t1 t2 Z R A' pk ∧ pkz = pk ∧ (∀ a, x + 1 ≤ a → a < x + 55 → Z a = B a) ∧ (∀ j, ¬ NA1 j → A' j = A j) ∧ RW A' pk := by
  have hh := h
  obtain ⟨hS, -, -, -, -, hPQ⟩ := hh
  obtain ⟨hC, hPS, hRQ, -, -⟩ := hPQ q hq
  have p2s := hPS.2.1 hst
  obtain ⟨hd4, g1, g2, g3, g4, g5⟩ := hRQ
  have g3i := congrArg Int32.toInt g3
  obtain ⟨-, epk, hW, hr⟩ := r_some hd hp hV
  clear hd
  have hJ0 := hJ
  obtain ⟨j1, j2, j3, j4, j5, j6, j7, j8, j9⟩ := hJ
  obtain ⟨n, hn⟩ : ∃ n : Nat, (n : Int) = (A 20 q).toInt := ⟨_, Int.toNat_of_nonneg j9.1⟩
  have aw : ∀ {v r : Int32} {i : Nat}, C_X7_awaitsReply G B R (x + 77 + 17 * q) v r → (i : Int) < (A 20 q).toInt → OWN A q i v.toInt → (r.toInt = 0 ∧ (A 22 (4 * q + i)).toInt < 2) ∨ (¬ r.toInt = 0 ∧ ¬ (A 22 (4 * q + i)).toInt < 2) := fun hw hi ho => e_awaits hS hq g2 (n := n) (by omega) (by omega) (fun i hi => g5 i (by omega)) hw (by omega) ho
  have hopen : ∀ {r : Int32}, C_X7_isOpen G B R (x + 77 + 17 * q) num r → (r.toInt = 0 ∧ ((A 13 q).toInt - (A 12 q).toInt) % 64 ≤ (num.toInt - (A 12 q).toInt) % 64) ∨ (¬ r.toInt = 0 ∧ (num.toInt - (A 12 q).toInt) % 64 < ((A 13 q).toInt - (A 12 q).toInt) % 64) := fun ho => by
    have e := e_open ho
    rw [p2s.2.1, p2s.2.2.1] at e
    exact e
  have d12 : ((A 13 q).toInt - (A 12 q).toInt) % 64 ≤ 12 := by omega
  have main : ∀ {i9 : Int32} {Z : AA}, C_X7_answer G B R (x + 77 + 17 * q) i9 Z → (num.toInt - (A 12 q).toInt) % 64 < ((A 13 q).toInt - (A 12 q).toInt) % 64 → 0 ≤ i9.toInt → i9.toInt ≤ (num.toInt - (A 12 q).toInt) % 64 + 1 → (∀ j : Int32, 0 ≤ j.toInt → j.toInt < i9.toInt → C_X7_awaitsReply G B R (x + 77 + 17 * q) ((B (x + 77 + 17 * q) 8 + j) &&& 63) 0) → (i9.toInt = (num.toInt - (A 12 q).toInt) % 64 + 1 ∨ ∃ r : Int32, C_X7_awaitsReply G B R (x + 77 + 17 * q) ((B (x + 77 + 17 * q) 8 + i9) &&& 63) r ∧ ¬ r.toInt = 0) → SIM x t0 t1 t2 Z R A' pk ∧ pkz = pk ∧ (∀ a, x + 1 ≤ a → a < x + 55 → Z a = B a) ∧ (∀ j, ¬ NA1 j → A' j = A j) ∧ RW A' pk := by
    intro i9 Z hZ hlt h0 hle hall hend
    rcases hr with ⟨r1, -⟩ | ⟨r1, b, hb, ho⟩
    · exfalso; omega
    · have hbd : (b : Int) ≤ ((A 13 q).toInt - (A 12 q).toInt) % 64 := by omega
      obtain ⟨c, hA, hkd⟩ := ASR.ans hq hp hJ0 b A' hb hbd
      have hbk : (b : Int) ≤ k.toInt := by omega
      have eb : (b : Int) = i9.toInt := by
        rcases Int.lt_trichotomy (b : Int) i9.toInt with l | l | l
        · exfalso
          have hb2 : (b : Int) < k.toInt := by clear ho hend; omega
          obtain ⟨w, w1, w2⟩ : ∃ w : Int32, HC A' cd pk p q w ∧ w.toInt ≠ 0 := by
            rcases ho with (e | ⟨e, -⟩) | ⟨-, e⟩
            · omega
            · omega
            · exact e
          have kd := hA.kind hq hJ0 (by omega) w1
          obtain ⟨o1, o2, o3⟩ := hA.own hJ0 (by omega)
          have eN : (nI b).toInt = b := nI_toInt (by omega)
          have ca := hall (nI b) (by omega) (by omega)
          have cb := aw ca o1 (hJ0.own o1 o2 o3 (by rw [aft, p2s.2.1, eN]))
          have iz := i_0
          omega
        · exact l
        · exfalso
          obtain ⟨i, k1, k2, k3, k4⟩ := hkd i9.toInt.toNat (by omega)
          have e9 : ((i9.toInt.toNat : Nat) : Int) = i9.toInt := Int.toNat_of_nonneg h0
          rw [e9] at k2 k3
          rcases hend with e | ⟨r, hw, hr0⟩
          · omega
          · have cb := aw hw k1 (hJ0.own k1 k2 k3 (by rw [aft, p2s.2.1]))
            omega
      obtain ⟨z1, z2⟩ := s_answer ht h hV hq hst hp hJ0 eb hbd hA hZ
      exact ⟨z1, epk, z2, hA.2.2.2.2.2.2.1, hW⟩
  have none : ((A 13 q).toInt - (A 12 q).toInt) % 64 ≤ (num.toInt - (A 12 q).toInt) % 64 → A' = A := fun hle => by
    rcases hr with ⟨-, r2⟩ | ⟨r1, b, hb, ho⟩
    · exact r2
    · have b0 : b = 0 := by
        rcases ho with (e | ⟨-, e⟩) | ⟨e, -⟩
        · omega
        · exact e
        · omega
      subst b0
      exact hb
  rcases hc with ⟨r_2, hisOpen, c1, x_5, ex_5, x_6, ex_6, fx_6, i9, c2, c3, c4, U_10, hF, hanswer, eZ⟩ | ⟨r_2, hisOpen, c1, x_5, ex_5, x_6, ex_6, fx_6, i9, c2, c3, c4, x_12, ex_12, r_13, hawaitsReply, c5, U_17, hF, hanswer, eZ⟩ | ⟨r_2, hisOpen, c1, eZ⟩
  · have ho := hopen hisOpen
    have e5 : x_5.toInt = (num.toInt - (A 12 q).toInt) % 64 := by rw [ex_5, dst, p2s.2.1]
    rw [eZ]
    exact main hanswer (by omega) (by omega) (by omega) c3 (Or.inl (by omega))
  · have ho := hopen hisOpen
    have e5 : x_5.toInt = (num.toInt - (A 12 q).toInt) % 64 := by rw [ex_5, dst, p2s.2.1]
    rw [eZ]
    exact main hanswer (by omega) (by omega) (by omega) c3 (Or.inr ⟨r_13, by rw [← ex_12]; exact hawaitsReply, c5⟩)
  · have ho := hopen hisOpen
    have e := none (by omega)
    subst e
    rw [eZ]
    exact ⟨h, epk, fun _ _ _ => rfl, fun _ _ => rfl, hV⟩
