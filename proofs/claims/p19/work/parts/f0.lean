section
theorem uA10 {A : AA} {f1 f2 f3 f4 f5 f6 f7 f8 g h : Nat → Int32} {j : Nat} (k1 : j ≠ 13) (k2 : j ≠ 15) (k3 : j < 41 ∨ 48 < j) : (uA (uA (uA (uA (uA (uA (uA (uA (uA (uA A 41 f1) 42 f2) 43 f3) 44 f4) 45 f5) 46 f6) 47 f7) 48 f8) 13 g) 15 h) j = A j := by
  rw [uA_n k2, uA_n k1, uA_n (by omega), uA_n (by omega), uA_n (by omega), uA_n (by omega), uA_n (by omega), uA_n (by omega), uA_n (by omega), uA_n (by omega)]
theorem mk_t {k r v w x : Int32} (h : x.toInt = v.toInt + w.toInt) (h1 : ((¬ k.toInt = 0) ∧ v = 0) ∨ ((k.toInt = 0) ∧ v = 1)) (h2 : (∃ y : Int32, (y = r - 1) ∧ (y.toInt = r.toInt - 1) ∧ (¬ k.toInt = y.toInt) ∧ w = 0) ∨ (∃ y : Int32, (y = r - 1) ∧ (y.toInt = r.toInt - 1) ∧ (k.toInt = y.toInt) ∧ w = 2)) : x.toInt = (if k.toInt = 0 then 1 else 0) + (if k.toInt = r.toInt - 1 then 2 else 0) := by
  rw [h]
  rcases h1 with ⟨e1, e2⟩ | ⟨e1, e2⟩ <;> rcases h2 with ⟨y, y1, y2, y3, y4⟩ | ⟨y, y1, y2, y3, y4⟩ <;> rw [e2, y4, ← y2]
  · rw [if_neg e1, if_neg y3]; decide
  · rw [if_neg e1, if_pos y3]; decide
  · rw [if_pos e1, if_neg y3]; decide
  · rw [if_pos e1, if_pos y3]; decide
theorem clk_t {a b : Int} {f g u : Nat → Int32} (h : ((¬ a = b) ∧ u = f) ∨ ((a = b) ∧ ∃ g1 : Nat → Int32, (g1 = g) ∧ u = g1)) : u = if a = b then g else f := by
  rcases h with ⟨e, rfl⟩ | ⟨e, g, rfl, rfl⟩
  · rw [if_neg e]
  · rw [if_pos e]
theorem win1 {c o a b x y : Int} (hc : 0 ≤ c ∧ c ≤ 63) (ho : 0 ≤ o ∧ o ≤ 63) (h12 : (c - o) % 64 ≤ 12) {n : Int} (hn : 1 ≤ n ∧ n ≤ 3) (e1 : a = c + n) (e2 : b = a - 1) (e3 : x = b % 64) (e4 : y = (x - o + 64) % 64) : y < 8 ↔ (c - o) % 64 + n ≤ 8 := by
  subst e1 e2 e3 e4
  omega
theorem ix16 {n i : Nat} (h : n < 4) (hi : i < 4) : 4 * n + i < 16 := by omega
theorem ixeq {n i j : Nat} {r : Int} (h : ((4 * n + i : Nat) : Int) = r) (g : r = 4 * (n : Int) + j) : i = j := by omega
theorem jlt {i j : Nat} {n : Int} (h : (i : Int) < n) (g : j < i) : (j : Int) < n := by omega
theorem pos4 {a k : Int} (h : 0 ≤ a) (g : 0 ≤ k) : 0 ≤ a + 4 * k := by omega
theorem left1 {Z : Nat → Int32} {m : Nat} {k l : Int} (h : l = (Z m).toInt - 4 * k) (g : k < NB Z m) : 1 ≤ l := by
  unfold NB at g
  omega
theorem sz4 {l : Int} (h : 1 ≤ l) (g : ¬ 4 ≤ l) : 0 ≤ l ∧ l ≤ 4 := by omega
theorem kd3 {k : Int} (h : k ≤ 3) (h2 : 2 ≤ k) (h3 : ¬ k = 2) : k = 3 := by omega
theorem kdn {k : Int} {P : Prop} (h : ¬ 2 ≤ k) (e : k = 3) : P := by omega
theorem kd0 {k : Int} {P : Prop} (h : k = 0) (e : k = 3) : P := by omega
theorem kd2 {k : Int} {P : Prop} (h : k = 2) (e : k = 3) : P := by omega
theorem kd20 {k : Int} {P : Prop} (h : k = 2) (e : k = 0) : P := by omega
theorem kd2c {k : Int} {P : Prop} (h : k = 2) (e : k = 0 ∨ k = 1 ∨ k = 4) : P := by omega
theorem num3 {b k : Int} (hb : 1 ≤ b ∧ b ≤ 3) (h0 : 0 ≤ k) (h1 : k < b) : 1 ≤ b - k ∧ b - k ≤ 3 := by omega
def RPUSH (A A' : AA) (pk pkz p r : Int32) : Prop := (¬ (0 ≤ p.toInt ∧ p.toInt < 4) ∧ A' = A ∧ pkz = pk ∧ r = -1) ∨ ∃ n : Nat, (n : Int) = p.toInt ∧ n < 4 ∧ ((A' = A ∧ pkz = pk ∧ r = -1 ∧ (¬ (A 10 n).toInt = 1 ∨ ((A 10 n).toInt = 1 ∧ (A 13 n).toInt = (A 11 n).toInt) ∨ ¬ (A 18 n).toInt = 0 ∨ ∃ i : Nat, (i : Int) < (A 20 n).toInt ∧ OWN A n i (A 13 n).toInt ∧ ¬ (((A 13 n).toInt - (A 12 n).toInt) % 64 + NUM A (4 * n + i) (((A 13 n).toInt - (A 29 (4 * n + i)).toInt) % 64) ≤ 8))) ∨ ((A 10 n).toInt = 1 ∧ (A 18 n).toInt = 0 ∧ ∃ i : Nat, (i : Int) < (A 20 n).toInt ∧ OWN A n i (A 13 n).toInt ∧ (((A 13 n).toInt - (A 12 n).toInt) % 64 + NUM A (4 * n + i) (((A 13 n).toInt - (A 29 (4 * n + i)).toInt) % 64) ≤ 8) ∧ r = A 13 n ∧ ∃ (A2 : AA) (u : Nat → Int32) (sz mk pl va cu' : Int32) (f0 : Nat), (u = if (A 13 n).toInt = (A 12 n).toInt then upd (A 15) n 0 else A 15) ∧ (f0 : Int) = (A 23 (4 * n + i)).toInt + 4 * (((A 13 n).toInt - (A 29 (4 * n + i)).toInt) % 64) ∧ EMR (uA A 15 u) A2 pk pkz (peerT p) (A 22 (4 * n + i)) (A 13 n) sz mk pl va (fun c => A 4 (32 * (n % 2) + f0 + c)) ∧ PRM A (4 * n + i) (((A 13 n).toInt - (A 29 (4 * n + i)).toInt) % 64) sz mk pl va ∧ cu'.toInt = ((A 13 n).toInt + NUM A (4 * n + i) (((A 13 n).toInt - (A 29 (4 * n + i)).toInt) % 64)) % 64 ∧ (∀ j, 41 ≤ j → j ≤ 48 → A' j = A2 j) ∧ A' 13 = upd (A 13) n cu' ∧ A' 15 = u ∧ ∀ j, j ≠ 13 → j ≠ 15 → (j < 41 ∨ 48 < j) → A' j = A j))
theorem n4lt {n : Nat} {p : Int} (h : (n : Int) = p) (c : 0 ≤ p ∧ p ≤ (3 : Int32).toInt) : n < 4 := by
  have := i_3t
  omega
theorem r_push {A : AA} {cd pk p : Int32} {A' : AA} {cdz pkz r : Int32} (h : D_X10_push A cd pk p A' cdz pkz r) (hV : RIV A pk) (hva : ∀ n : Nat, n < 4 → ∀ i : Nat, (i : Int) < (A 20 n).toInt → (A 22 (4 * n + i)).toInt ≠ 3 → A 27 (4 * n + i) = 0) : RPUSH A A' pk pkz p r := by
  rcases h with ⟨c1, n_4, hn_4, (⟨c2, rfl, rfl, rfl, rfl⟩ | ⟨c2, (⟨c3, rfl, rfl, rfl, rfl⟩ | ⟨c3, (⟨c4, r_12, c5, c6, i0, c7, c8, x_16, ex_16, (⟨c9, x_24, ex_24, fx_24, x_25, ex_25, fx_25, x_26, ex_26, fx_26, x_27, ex_27, fx_27, (⟨c10, u_29, c11, x_37, ex_37, fx_37, x_38, ex_38, fx_38, v_39, c12, r_41, hnumbersOf, c13, c14, v_42, c15, x_45, ex_45, fx_45, (⟨c16, x_55, ex_55, fx_55, ur_57, r_57, hemit, c17, c18, c19, c20, c21, (⟨c22, (⟨c23, x_62, ex_62, fx_62, g_63, rfl, rfl, rfl, rfl, rfl⟩ | ⟨c23, (⟨c24, x_66, ex_66, fx_66, g_67, rfl, rfl, rfl, rfl, rfl⟩ | ⟨c24, n_69, hn_69, g_71, rfl, x_72, ex_72, fx_72, g_73, rfl, rfl, rfl, rfl, rfl⟩)⟩)⟩ | ⟨c22, x_78, ex_78, fx_78, (⟨c23, ur_80, hload, c24, c25, x_83, ex_83, fx_83, g_84, rfl, rfl, rfl, rfl, rfl⟩ | ⟨c23, ur_86, hload, c24, c25, x_89, ex_89, fx_89, g_90, rfl, rfl, rfl, rfl, rfl⟩)⟩)⟩ | ⟨c16, (⟨c17, x_97, ex_97, fx_97, ur_99, r_99, hemit, c18, c19, c20, c21, c22, x_104, ex_104, fx_104, (⟨c23, ur_106, hload, c24, c25, x_109, ex_109, fx_109, g_110, rfl, rfl, rfl, rfl, rfl⟩ | ⟨c23, ur_112, hload, c24, c25, x_115, ex_115, fx_115, g_116, rfl, rfl, rfl, rfl, rfl⟩)⟩ | ⟨c17, ur_119, r_119, hemit, c18, c19, c20, c21, c22, x_124, ex_124, fx_124, (⟨c23, ur_126, hload, c24, c25, x_129, ex_129, fx_129, g_130, rfl, rfl, rfl, rfl, rfl⟩ | ⟨c23, ur_132, hload, c24, c25, x_135, ex_135, fx_135, g_136, rfl, rfl, rfl, rfl, rfl⟩)⟩)⟩)⟩ | ⟨c10, rfl, rfl, rfl, rfl⟩)⟩ | ⟨c9, r_138, hnumbersOf, c10, c11, x_139, ex_139, fx_139, x_141, ex_141, fx_141, x_142, ex_142, fx_142, x_143, ex_143, fx_143, x_144, ex_144, fx_144, (⟨c12, u_146, c13, x_154, ex_154, fx_154, x_155, ex_155, fx_155, v_156, c14, r_158, hnumbersOf_1, c15, c16, v_159, c17, x_162, ex_162, fx_162, x_172, ex_172, fx_172, ur_174, r_174, hemit, c18, c19, c20, c21, c22, (⟨c23, x_179, ex_179, fx_179, g_180, rfl, rfl, rfl, rfl, rfl⟩ | ⟨c23, (⟨c24, x_183, ex_183, fx_183, g_184, rfl, rfl, rfl, rfl, rfl⟩ | ⟨c24, n_186, hn_186, g_188, rfl, x_189, ex_189, fx_189, g_190, rfl, rfl, rfl, rfl, rfl⟩)⟩)⟩ | ⟨c12, rfl, rfl, rfl, rfl⟩)⟩)⟩ | ⟨c4, rfl, rfl, rfl, rfl⟩)⟩)⟩)⟩ | ⟨c1, rfl, rfl, rfl, rfl⟩
  · skip
    have h4 := n4lt hn_4 c1
    refine Or.inr ⟨n_4, hn_4, h4, ?_⟩
    have hn := hn_4
    have hva := hva n_4 h4
    exact Or.inl ⟨by simp only [uA_ii], rfl, rfl, Or.inl c2⟩
  · skip
    have h4 := n4lt hn_4 c1
    refine Or.inr ⟨n_4, hn_4, h4, ?_⟩
    have hn := hn_4
    have hva := hva n_4 h4
    exact Or.inl ⟨by simp only [uA_ii], rfl, rfl, Or.inr (Or.inl ⟨c2, c3⟩)⟩
  · have hu := clk_t c11
    clear c11 c12 c15
    have h4 := n4lt hn_4 c1
    refine Or.inr ⟨n_4, hn_4, h4, ?_⟩
    have hn := hn_4
    have hva := hva n_4 h4
    have hP := (hV.1.2.2.1 n_4 h4).1 c2
    have rg := hP.rng
    have win := hP.win
    obtain ⟨i, oi, er, olt, k0, k1, z1⟩ := hP.own c3 (c6 n_4 hn)
    obtain rfl := ixeq c8 er
    have fr := hP.frng
    rw [far_m (fr i0 oi) rg.2.2] at k0 k1
    have ef : x_16.toInt = ((A 13 n_4).toInt - (A 29 (4 * n_4 + i0)).toInt) % 64 := by rw [ex_16]; exact far_m (fr i0 oi) rg.2.2
    have hO : OWN A n_4 i0 (A 13 n_4).toInt := ⟨fun j hj => by have e := olt j hj; rw [far_m (fr j (jlt oi hj)) rg.2.2] at e; exact e, k1⟩
    clear olt er ex_16
    have hNB := pj_N z1
    have hNB2 : NB (A 24) (4 * n_4 + i0) = ((A 24 (4 * n_4 + i0)).toInt + 3) / 4 := rfl
    have h6 := hV.1.2.2.2.2.1 (4 * n_4 + i0) (ix16 h4 c7)
    obtain ⟨f0, hf0⟩ : ∃ f0 : Nat, (f0 : Int) = (A 23 (4 * n_4 + i0)).toInt + 4 * (((A 13 n_4).toInt - (A 29 (4 * n_4 + i0)).toInt) % 64) := ⟨_, Int.toNat_of_nonneg (pos4 h6.2.2.1 k0)⟩
    have hleft : x_38.toInt = (A 24 (4 * n_4 + i0)).toInt - 4 * (((A 13 n_4).toInt - (A 29 (4 * n_4 + i0)).toInt) % 64) := by rw [fx_38, fx_37, ef]
    have hE := EMR.none (c := fun c => A 4 (32 * (n_4 % 2) + f0 + c)) hemit hV.2
    refine Or.inr ⟨c2, c4, i0, oi, hO, ?_, rfl, _, u_29, _, _, _, _, x_62, f0, hu, hf0, hE, ?_, ?_, j8 (by first | (simp only [uA_s, uA_n (show (41 : Nat) ≠ 13 by decide), uA_n (show (41 : Nat) ≠ 15 by decide), uA_n (show (41 : Nat) ≠ 42 by decide), uA_n (show (41 : Nat) ≠ 43 by decide), uA_n (show (41 : Nat) ≠ 44 by decide), uA_n (show (41 : Nat) ≠ 45 by decide), uA_n (show (41 : Nat) ≠ 46 by decide), uA_n (show (41 : Nat) ≠ 47 by decide), uA_n (show (41 : Nat) ≠ 48 by decide)]; done) | rfl) (by first | (simp only [uA_s, uA_n (show (42 : Nat) ≠ 13 by decide), uA_n (show (42 : Nat) ≠ 15 by decide), uA_n (show (42 : Nat) ≠ 41 by decide), uA_n (show (42 : Nat) ≠ 43 by decide), uA_n (show (42 : Nat) ≠ 44 by decide), uA_n (show (42 : Nat) ≠ 45 by decide), uA_n (show (42 : Nat) ≠ 46 by decide), uA_n (show (42 : Nat) ≠ 47 by decide), uA_n (show (42 : Nat) ≠ 48 by decide)]; done) | rfl) (by first | (simp only [uA_s, uA_n (show (43 : Nat) ≠ 13 by decide), uA_n (show (43 : Nat) ≠ 15 by decide), uA_n (show (43 : Nat) ≠ 41 by decide), uA_n (show (43 : Nat) ≠ 42 by decide), uA_n (show (43 : Nat) ≠ 44 by decide), uA_n (show (43 : Nat) ≠ 45 by decide), uA_n (show (43 : Nat) ≠ 46 by decide), uA_n (show (43 : Nat) ≠ 47 by decide), uA_n (show (43 : Nat) ≠ 48 by decide)]; done) | rfl) (by first | (simp only [uA_s, uA_n (show (44 : Nat) ≠ 13 by decide), uA_n (show (44 : Nat) ≠ 15 by decide), uA_n (show (44 : Nat) ≠ 41 by decide), uA_n (show (44 : Nat) ≠ 42 by decide), uA_n (show (44 : Nat) ≠ 43 by decide), uA_n (show (44 : Nat) ≠ 45 by decide), uA_n (show (44 : Nat) ≠ 46 by decide), uA_n (show (44 : Nat) ≠ 47 by decide), uA_n (show (44 : Nat) ≠ 48 by decide)]; done) | rfl) (by first | (simp only [uA_s, uA_n (show (45 : Nat) ≠ 13 by decide), uA_n (show (45 : Nat) ≠ 15 by decide), uA_n (show (45 : Nat) ≠ 41 by decide), uA_n (show (45 : Nat) ≠ 42 by decide), uA_n (show (45 : Nat) ≠ 43 by decide), uA_n (show (45 : Nat) ≠ 44 by decide), uA_n (show (45 : Nat) ≠ 46 by decide), uA_n (show (45 : Nat) ≠ 47 by decide), uA_n (show (45 : Nat) ≠ 48 by decide)]; done) | rfl) (by first | (simp only [uA_s, uA_n (show (46 : Nat) ≠ 13 by decide), uA_n (show (46 : Nat) ≠ 15 by decide), uA_n (show (46 : Nat) ≠ 41 by decide), uA_n (show (46 : Nat) ≠ 42 by decide), uA_n (show (46 : Nat) ≠ 43 by decide), uA_n (show (46 : Nat) ≠ 44 by decide), uA_n (show (46 : Nat) ≠ 45 by decide), uA_n (show (46 : Nat) ≠ 47 by decide), uA_n (show (46 : Nat) ≠ 48 by decide)]; done) | rfl) (by first | (simp only [uA_s, uA_n (show (47 : Nat) ≠ 13 by decide), uA_n (show (47 : Nat) ≠ 15 by decide), uA_n (show (47 : Nat) ≠ 41 by decide), uA_n (show (47 : Nat) ≠ 42 by decide), uA_n (show (47 : Nat) ≠ 43 by decide), uA_n (show (47 : Nat) ≠ 44 by decide), uA_n (show (47 : Nat) ≠ 45 by decide), uA_n (show (47 : Nat) ≠ 46 by decide), uA_n (show (47 : Nat) ≠ 48 by decide)]; done) | rfl) (by first | (simp only [uA_s, uA_n (show (48 : Nat) ≠ 13 by decide), uA_n (show (48 : Nat) ≠ 15 by decide), uA_n (show (48 : Nat) ≠ 41 by decide), uA_n (show (48 : Nat) ≠ 42 by decide), uA_n (show (48 : Nat) ≠ 43 by decide), uA_n (show (48 : Nat) ≠ 44 by decide), uA_n (show (48 : Nat) ≠ 45 by decide), uA_n (show (48 : Nat) ≠ 46 by decide), uA_n (show (48 : Nat) ≠ 47 by decide)]; done) | rfl), rfl, rfl, fun j k1 k2 k3 => uA10 k1 k2 k3⟩
    · unfold NUM; rw [if_neg c9]; exact (win1 rg.2.2 rg.2.1 win (n := 1) (by decide) fx_24 fx_25 fx_26 fx_27).mp c10
    · exact ⟨fun e => absurd e c16, fun _ => ⟨rfl, by rw [fx_55, fx_37, ef]⟩, fun _ => ⟨rfl, rfl⟩, fun e => absurd (kd3 h6.2.1 c22 c23) e, fun e => absurd e c9, fun _ e => absurd (kd3 h6.2.1 c22 c23) e⟩
    · unfold NUM; rw [if_neg c9, fx_62]; rw [fx_24]
  · exact absurd c23 c9
  · exact absurd c23 c9
  · have hu := clk_t c11
    clear c11 c12 c15
    have h4 := n4lt hn_4 c1
    refine Or.inr ⟨n_4, hn_4, h4, ?_⟩
    have hn := hn_4
    have hva := hva n_4 h4
    have hP := (hV.1.2.2.1 n_4 h4).1 c2
    have rg := hP.rng
    have win := hP.win
    obtain ⟨i, oi, er, olt, k0, k1, z1⟩ := hP.own c3 (c6 n_4 hn)
    obtain rfl := ixeq c8 er
    have fr := hP.frng
    rw [far_m (fr i0 oi) rg.2.2] at k0 k1
    have ef : x_16.toInt = ((A 13 n_4).toInt - (A 29 (4 * n_4 + i0)).toInt) % 64 := by rw [ex_16]; exact far_m (fr i0 oi) rg.2.2
    have hO : OWN A n_4 i0 (A 13 n_4).toInt := ⟨fun j hj => by have e := olt j hj; rw [far_m (fr j (jlt oi hj)) rg.2.2] at e; exact e, k1⟩
    clear olt er ex_16
    have hNB := pj_N z1
    have hNB2 : NB (A 24) (4 * n_4 + i0) = ((A 24 (4 * n_4 + i0)).toInt + 3) / 4 := rfl
    have h6 := hV.1.2.2.2.2.1 (4 * n_4 + i0) (ix16 h4 c7)
    obtain ⟨f0, hf0⟩ : ∃ f0 : Nat, (f0 : Int) = (A 23 (4 * n_4 + i0)).toInt + 4 * (((A 13 n_4).toInt - (A 29 (4 * n_4 + i0)).toInt) % 64) := ⟨_, Int.toNat_of_nonneg (pos4 h6.2.2.1 k0)⟩
    have hleft : x_38.toInt = (A 24 (4 * n_4 + i0)).toInt - 4 * (((A 13 n_4).toInt - (A 29 (4 * n_4 + i0)).toInt) % 64) := by rw [fx_38, fx_37, ef]
    have hE := EMR.load (nd := n_4 % 2) (f0 := f0) hemit hload hV.2 (nd2 hn) (by rw [fx_78, fx_37, ef]; exact hf0) (by decide)
    refine Or.inr ⟨c2, c4, i0, oi, hO, ?_, rfl, _, u_29, _, _, _, _, x_83, f0, hu, hf0, hE, ?_, ?_, j8 (by first | (simp only [uA_s, uA_n (show (41 : Nat) ≠ 13 by decide), uA_n (show (41 : Nat) ≠ 15 by decide), uA_n (show (41 : Nat) ≠ 42 by decide), uA_n (show (41 : Nat) ≠ 43 by decide), uA_n (show (41 : Nat) ≠ 44 by decide), uA_n (show (41 : Nat) ≠ 45 by decide), uA_n (show (41 : Nat) ≠ 46 by decide), uA_n (show (41 : Nat) ≠ 47 by decide), uA_n (show (41 : Nat) ≠ 48 by decide)]; done) | rfl) (by first | (simp only [uA_s, uA_n (show (42 : Nat) ≠ 13 by decide), uA_n (show (42 : Nat) ≠ 15 by decide), uA_n (show (42 : Nat) ≠ 41 by decide), uA_n (show (42 : Nat) ≠ 43 by decide), uA_n (show (42 : Nat) ≠ 44 by decide), uA_n (show (42 : Nat) ≠ 45 by decide), uA_n (show (42 : Nat) ≠ 46 by decide), uA_n (show (42 : Nat) ≠ 47 by decide), uA_n (show (42 : Nat) ≠ 48 by decide)]; done) | rfl) (by first | (simp only [uA_s, uA_n (show (43 : Nat) ≠ 13 by decide), uA_n (show (43 : Nat) ≠ 15 by decide), uA_n (show (43 : Nat) ≠ 41 by decide), uA_n (show (43 : Nat) ≠ 42 by decide), uA_n (show (43 : Nat) ≠ 44 by decide), uA_n (show (43 : Nat) ≠ 45 by decide), uA_n (show (43 : Nat) ≠ 46 by decide), uA_n (show (43 : Nat) ≠ 47 by decide), uA_n (show (43 : Nat) ≠ 48 by decide)]; done) | rfl) (by first | (simp only [uA_s, uA_n (show (44 : Nat) ≠ 13 by decide), uA_n (show (44 : Nat) ≠ 15 by decide), uA_n (show (44 : Nat) ≠ 41 by decide), uA_n (show (44 : Nat) ≠ 42 by decide), uA_n (show (44 : Nat) ≠ 43 by decide), uA_n (show (44 : Nat) ≠ 45 by decide), uA_n (show (44 : Nat) ≠ 46 by decide), uA_n (show (44 : Nat) ≠ 47 by decide), uA_n (show (44 : Nat) ≠ 48 by decide)]; done) | rfl) (by first | (simp only [uA_s, uA_n (show (45 : Nat) ≠ 13 by decide), uA_n (show (45 : Nat) ≠ 15 by decide), uA_n (show (45 : Nat) ≠ 41 by decide), uA_n (show (45 : Nat) ≠ 42 by decide), uA_n (show (45 : Nat) ≠ 43 by decide), uA_n (show (45 : Nat) ≠ 44 by decide), uA_n (show (45 : Nat) ≠ 46 by decide), uA_n (show (45 : Nat) ≠ 47 by decide), uA_n (show (45 : Nat) ≠ 48 by decide)]; done) | rfl) (by first | (simp only [uA_s, uA_n (show (46 : Nat) ≠ 13 by decide), uA_n (show (46 : Nat) ≠ 15 by decide), uA_n (show (46 : Nat) ≠ 41 by decide), uA_n (show (46 : Nat) ≠ 42 by decide), uA_n (show (46 : Nat) ≠ 43 by decide), uA_n (show (46 : Nat) ≠ 44 by decide), uA_n (show (46 : Nat) ≠ 45 by decide), uA_n (show (46 : Nat) ≠ 47 by decide), uA_n (show (46 : Nat) ≠ 48 by decide)]; done) | rfl) (by first | (simp only [uA_s, uA_n (show (47 : Nat) ≠ 13 by decide), uA_n (show (47 : Nat) ≠ 15 by decide), uA_n (show (47 : Nat) ≠ 41 by decide), uA_n (show (47 : Nat) ≠ 42 by decide), uA_n (show (47 : Nat) ≠ 43 by decide), uA_n (show (47 : Nat) ≠ 44 by decide), uA_n (show (47 : Nat) ≠ 45 by decide), uA_n (show (47 : Nat) ≠ 46 by decide), uA_n (show (47 : Nat) ≠ 48 by decide)]; done) | rfl) (by first | (simp only [uA_s, uA_n (show (48 : Nat) ≠ 13 by decide), uA_n (show (48 : Nat) ≠ 15 by decide), uA_n (show (48 : Nat) ≠ 41 by decide), uA_n (show (48 : Nat) ≠ 42 by decide), uA_n (show (48 : Nat) ≠ 43 by decide), uA_n (show (48 : Nat) ≠ 44 by decide), uA_n (show (48 : Nat) ≠ 45 by decide), uA_n (show (48 : Nat) ≠ 46 by decide), uA_n (show (48 : Nat) ≠ 47 by decide)]; done) | rfl), rfl, rfl, fun j k1 k2 k3 => uA10 k1 k2 k3⟩
    · unfold NUM; rw [if_neg c9]; exact (win1 rg.2.2 rg.2.1 win (n := 1) (by decide) fx_24 fx_25 fx_26 fx_27).mp c10
    · exact ⟨fun e => absurd e c16, fun _ => ⟨rfl, by rw [fx_55, fx_37, ef]⟩, fun e => kdn c22 e, fun e => hva i0 oi e, fun e => absurd e c9, fun _ _ => by rw [if_pos (by rw [← hleft]; exact c23)]; exact i_4⟩
    · unfold NUM; rw [if_neg c9, fx_83]; rw [fx_24]
  · have hu := clk_t c11
    clear c11 c12 c15
    have h4 := n4lt hn_4 c1
    refine Or.inr ⟨n_4, hn_4, h4, ?_⟩
    have hn := hn_4
    have hva := hva n_4 h4
    have hP := (hV.1.2.2.1 n_4 h4).1 c2
    have rg := hP.rng
    have win := hP.win
    obtain ⟨i, oi, er, olt, k0, k1, z1⟩ := hP.own c3 (c6 n_4 hn)
    obtain rfl := ixeq c8 er
    have fr := hP.frng
    rw [far_m (fr i0 oi) rg.2.2] at k0 k1
    have ef : x_16.toInt = ((A 13 n_4).toInt - (A 29 (4 * n_4 + i0)).toInt) % 64 := by rw [ex_16]; exact far_m (fr i0 oi) rg.2.2
    have hO : OWN A n_4 i0 (A 13 n_4).toInt := ⟨fun j hj => by have e := olt j hj; rw [far_m (fr j (jlt oi hj)) rg.2.2] at e; exact e, k1⟩
    clear olt er ex_16
    have hNB := pj_N z1
    have hNB2 : NB (A 24) (4 * n_4 + i0) = ((A 24 (4 * n_4 + i0)).toInt + 3) / 4 := rfl
    have h6 := hV.1.2.2.2.2.1 (4 * n_4 + i0) (ix16 h4 c7)
    obtain ⟨f0, hf0⟩ : ∃ f0 : Nat, (f0 : Int) = (A 23 (4 * n_4 + i0)).toInt + 4 * (((A 13 n_4).toInt - (A 29 (4 * n_4 + i0)).toInt) % 64) := ⟨_, Int.toNat_of_nonneg (pos4 h6.2.2.1 k0)⟩
    have hleft : x_38.toInt = (A 24 (4 * n_4 + i0)).toInt - 4 * (((A 13 n_4).toInt - (A 29 (4 * n_4 + i0)).toInt) % 64) := by rw [fx_38, fx_37, ef]
    have hE := EMR.load (nd := n_4 % 2) (f0 := f0) hemit hload hV.2 (nd2 hn) (by rw [fx_78, fx_37, ef]; exact hf0) (sz4 (left1 hleft k1) c23)
    refine Or.inr ⟨c2, c4, i0, oi, hO, ?_, rfl, _, u_29, _, _, _, _, x_89, f0, hu, hf0, hE, ?_, ?_, j8 (by first | (simp only [uA_s, uA_n (show (41 : Nat) ≠ 13 by decide), uA_n (show (41 : Nat) ≠ 15 by decide), uA_n (show (41 : Nat) ≠ 42 by decide), uA_n (show (41 : Nat) ≠ 43 by decide), uA_n (show (41 : Nat) ≠ 44 by decide), uA_n (show (41 : Nat) ≠ 45 by decide), uA_n (show (41 : Nat) ≠ 46 by decide), uA_n (show (41 : Nat) ≠ 47 by decide), uA_n (show (41 : Nat) ≠ 48 by decide)]; done) | rfl) (by first | (simp only [uA_s, uA_n (show (42 : Nat) ≠ 13 by decide), uA_n (show (42 : Nat) ≠ 15 by decide), uA_n (show (42 : Nat) ≠ 41 by decide), uA_n (show (42 : Nat) ≠ 43 by decide), uA_n (show (42 : Nat) ≠ 44 by decide), uA_n (show (42 : Nat) ≠ 45 by decide), uA_n (show (42 : Nat) ≠ 46 by decide), uA_n (show (42 : Nat) ≠ 47 by decide), uA_n (show (42 : Nat) ≠ 48 by decide)]; done) | rfl) (by first | (simp only [uA_s, uA_n (show (43 : Nat) ≠ 13 by decide), uA_n (show (43 : Nat) ≠ 15 by decide), uA_n (show (43 : Nat) ≠ 41 by decide), uA_n (show (43 : Nat) ≠ 42 by decide), uA_n (show (43 : Nat) ≠ 44 by decide), uA_n (show (43 : Nat) ≠ 45 by decide), uA_n (show (43 : Nat) ≠ 46 by decide), uA_n (show (43 : Nat) ≠ 47 by decide), uA_n (show (43 : Nat) ≠ 48 by decide)]; done) | rfl) (by first | (simp only [uA_s, uA_n (show (44 : Nat) ≠ 13 by decide), uA_n (show (44 : Nat) ≠ 15 by decide), uA_n (show (44 : Nat) ≠ 41 by decide), uA_n (show (44 : Nat) ≠ 42 by decide), uA_n (show (44 : Nat) ≠ 43 by decide), uA_n (show (44 : Nat) ≠ 45 by decide), uA_n (show (44 : Nat) ≠ 46 by decide), uA_n (show (44 : Nat) ≠ 47 by decide), uA_n (show (44 : Nat) ≠ 48 by decide)]; done) | rfl) (by first | (simp only [uA_s, uA_n (show (45 : Nat) ≠ 13 by decide), uA_n (show (45 : Nat) ≠ 15 by decide), uA_n (show (45 : Nat) ≠ 41 by decide), uA_n (show (45 : Nat) ≠ 42 by decide), uA_n (show (45 : Nat) ≠ 43 by decide), uA_n (show (45 : Nat) ≠ 44 by decide), uA_n (show (45 : Nat) ≠ 46 by decide), uA_n (show (45 : Nat) ≠ 47 by decide), uA_n (show (45 : Nat) ≠ 48 by decide)]; done) | rfl) (by first | (simp only [uA_s, uA_n (show (46 : Nat) ≠ 13 by decide), uA_n (show (46 : Nat) ≠ 15 by decide), uA_n (show (46 : Nat) ≠ 41 by decide), uA_n (show (46 : Nat) ≠ 42 by decide), uA_n (show (46 : Nat) ≠ 43 by decide), uA_n (show (46 : Nat) ≠ 44 by decide), uA_n (show (46 : Nat) ≠ 45 by decide), uA_n (show (46 : Nat) ≠ 47 by decide), uA_n (show (46 : Nat) ≠ 48 by decide)]; done) | rfl) (by first | (simp only [uA_s, uA_n (show (47 : Nat) ≠ 13 by decide), uA_n (show (47 : Nat) ≠ 15 by decide), uA_n (show (47 : Nat) ≠ 41 by decide), uA_n (show (47 : Nat) ≠ 42 by decide), uA_n (show (47 : Nat) ≠ 43 by decide), uA_n (show (47 : Nat) ≠ 44 by decide), uA_n (show (47 : Nat) ≠ 45 by decide), uA_n (show (47 : Nat) ≠ 46 by decide), uA_n (show (47 : Nat) ≠ 48 by decide)]; done) | rfl) (by first | (simp only [uA_s, uA_n (show (48 : Nat) ≠ 13 by decide), uA_n (show (48 : Nat) ≠ 15 by decide), uA_n (show (48 : Nat) ≠ 41 by decide), uA_n (show (48 : Nat) ≠ 42 by decide), uA_n (show (48 : Nat) ≠ 43 by decide), uA_n (show (48 : Nat) ≠ 44 by decide), uA_n (show (48 : Nat) ≠ 45 by decide), uA_n (show (48 : Nat) ≠ 46 by decide), uA_n (show (48 : Nat) ≠ 47 by decide)]; done) | rfl), rfl, rfl, fun j k1 k2 k3 => uA10 k1 k2 k3⟩
    · unfold NUM; rw [if_neg c9]; exact (win1 rg.2.2 rg.2.1 win (n := 1) (by decide) fx_24 fx_25 fx_26 fx_27).mp c10
    · exact ⟨fun e => absurd e c16, fun _ => ⟨rfl, by rw [fx_55, fx_37, ef]⟩, fun e => kdn c22 e, fun e => hva i0 oi e, fun e => absurd e c9, fun _ _ => by rw [if_neg (by rw [← hleft]; exact c23)]; exact hleft⟩
    · unfold NUM; rw [if_neg c9, fx_89]; rw [fx_24]
  · exact absurd c16 c17
  · exact absurd c16 c17
  · have hu := clk_t c11
    have hmk := mk_t fx_45 c12 c15
    clear c11 c12 c15
    have h4 := n4lt hn_4 c1
    refine Or.inr ⟨n_4, hn_4, h4, ?_⟩
    have hn := hn_4
    have hva := hva n_4 h4
    have hP := (hV.1.2.2.1 n_4 h4).1 c2
    have rg := hP.rng
    have win := hP.win
    obtain ⟨i, oi, er, olt, k0, k1, z1⟩ := hP.own c3 (c6 n_4 hn)
    obtain rfl := ixeq c8 er
    have fr := hP.frng
    rw [far_m (fr i0 oi) rg.2.2] at k0 k1
    have ef : x_16.toInt = ((A 13 n_4).toInt - (A 29 (4 * n_4 + i0)).toInt) % 64 := by rw [ex_16]; exact far_m (fr i0 oi) rg.2.2
    have hO : OWN A n_4 i0 (A 13 n_4).toInt := ⟨fun j hj => by have e := olt j hj; rw [far_m (fr j (jlt oi hj)) rg.2.2] at e; exact e, k1⟩
    clear olt er ex_16
    have hNB := pj_N z1
    have hNB2 : NB (A 24) (4 * n_4 + i0) = ((A 24 (4 * n_4 + i0)).toInt + 3) / 4 := rfl
    have h6 := hV.1.2.2.2.2.1 (4 * n_4 + i0) (ix16 h4 c7)
    obtain ⟨f0, hf0⟩ : ∃ f0 : Nat, (f0 : Int) = (A 23 (4 * n_4 + i0)).toInt + 4 * (((A 13 n_4).toInt - (A 29 (4 * n_4 + i0)).toInt) % 64) := ⟨_, Int.toNat_of_nonneg (pos4 h6.2.2.1 k0)⟩
    have hleft : x_38.toInt = (A 24 (4 * n_4 + i0)).toInt - 4 * (((A 13 n_4).toInt - (A 29 (4 * n_4 + i0)).toInt) % 64) := by rw [fx_38, fx_37, ef]
    have hE := EMR.load (nd := n_4 % 2) (f0 := f0) hemit hload hV.2 (nd2 hn) (by rw [fx_124, fx_37, ef]; exact hf0) (by decide)
    refine Or.inr ⟨c2, c4, i0, oi, hO, ?_, rfl, _, u_29, _, _, _, _, x_129, f0, hu, hf0, hE, ?_, ?_, j8 (by first | (simp only [uA_s, uA_n (show (41 : Nat) ≠ 13 by decide), uA_n (show (41 : Nat) ≠ 15 by decide), uA_n (show (41 : Nat) ≠ 42 by decide), uA_n (show (41 : Nat) ≠ 43 by decide), uA_n (show (41 : Nat) ≠ 44 by decide), uA_n (show (41 : Nat) ≠ 45 by decide), uA_n (show (41 : Nat) ≠ 46 by decide), uA_n (show (41 : Nat) ≠ 47 by decide), uA_n (show (41 : Nat) ≠ 48 by decide)]; done) | rfl) (by first | (simp only [uA_s, uA_n (show (42 : Nat) ≠ 13 by decide), uA_n (show (42 : Nat) ≠ 15 by decide), uA_n (show (42 : Nat) ≠ 41 by decide), uA_n (show (42 : Nat) ≠ 43 by decide), uA_n (show (42 : Nat) ≠ 44 by decide), uA_n (show (42 : Nat) ≠ 45 by decide), uA_n (show (42 : Nat) ≠ 46 by decide), uA_n (show (42 : Nat) ≠ 47 by decide), uA_n (show (42 : Nat) ≠ 48 by decide)]; done) | rfl) (by first | (simp only [uA_s, uA_n (show (43 : Nat) ≠ 13 by decide), uA_n (show (43 : Nat) ≠ 15 by decide), uA_n (show (43 : Nat) ≠ 41 by decide), uA_n (show (43 : Nat) ≠ 42 by decide), uA_n (show (43 : Nat) ≠ 44 by decide), uA_n (show (43 : Nat) ≠ 45 by decide), uA_n (show (43 : Nat) ≠ 46 by decide), uA_n (show (43 : Nat) ≠ 47 by decide), uA_n (show (43 : Nat) ≠ 48 by decide)]; done) | rfl) (by first | (simp only [uA_s, uA_n (show (44 : Nat) ≠ 13 by decide), uA_n (show (44 : Nat) ≠ 15 by decide), uA_n (show (44 : Nat) ≠ 41 by decide), uA_n (show (44 : Nat) ≠ 42 by decide), uA_n (show (44 : Nat) ≠ 43 by decide), uA_n (show (44 : Nat) ≠ 45 by decide), uA_n (show (44 : Nat) ≠ 46 by decide), uA_n (show (44 : Nat) ≠ 47 by decide), uA_n (show (44 : Nat) ≠ 48 by decide)]; done) | rfl) (by first | (simp only [uA_s, uA_n (show (45 : Nat) ≠ 13 by decide), uA_n (show (45 : Nat) ≠ 15 by decide), uA_n (show (45 : Nat) ≠ 41 by decide), uA_n (show (45 : Nat) ≠ 42 by decide), uA_n (show (45 : Nat) ≠ 43 by decide), uA_n (show (45 : Nat) ≠ 44 by decide), uA_n (show (45 : Nat) ≠ 46 by decide), uA_n (show (45 : Nat) ≠ 47 by decide), uA_n (show (45 : Nat) ≠ 48 by decide)]; done) | rfl) (by first | (simp only [uA_s, uA_n (show (46 : Nat) ≠ 13 by decide), uA_n (show (46 : Nat) ≠ 15 by decide), uA_n (show (46 : Nat) ≠ 41 by decide), uA_n (show (46 : Nat) ≠ 42 by decide), uA_n (show (46 : Nat) ≠ 43 by decide), uA_n (show (46 : Nat) ≠ 44 by decide), uA_n (show (46 : Nat) ≠ 45 by decide), uA_n (show (46 : Nat) ≠ 47 by decide), uA_n (show (46 : Nat) ≠ 48 by decide)]; done) | rfl) (by first | (simp only [uA_s, uA_n (show (47 : Nat) ≠ 13 by decide), uA_n (show (47 : Nat) ≠ 15 by decide), uA_n (show (47 : Nat) ≠ 41 by decide), uA_n (show (47 : Nat) ≠ 42 by decide), uA_n (show (47 : Nat) ≠ 43 by decide), uA_n (show (47 : Nat) ≠ 44 by decide), uA_n (show (47 : Nat) ≠ 45 by decide), uA_n (show (47 : Nat) ≠ 46 by decide), uA_n (show (47 : Nat) ≠ 48 by decide)]; done) | rfl) (by first | (simp only [uA_s, uA_n (show (48 : Nat) ≠ 13 by decide), uA_n (show (48 : Nat) ≠ 15 by decide), uA_n (show (48 : Nat) ≠ 41 by decide), uA_n (show (48 : Nat) ≠ 42 by decide), uA_n (show (48 : Nat) ≠ 43 by decide), uA_n (show (48 : Nat) ≠ 44 by decide), uA_n (show (48 : Nat) ≠ 45 by decide), uA_n (show (48 : Nat) ≠ 46 by decide), uA_n (show (48 : Nat) ≠ 47 by decide)]; done) | rfl), rfl, rfl, fun j k1 k2 k3 => uA10 k1 k2 k3⟩
    · unfold NUM; rw [if_neg c9]; exact (win1 rg.2.2 rg.2.1 win (n := 1) (by decide) fx_24 fx_25 fx_26 fx_27).mp c10
    · exact ⟨fun _ => ⟨by rw [hmk, c14 (4 * n_4 + i0) c8, ef], rfl⟩, fun e => absurd c16 e, fun e => kd0 c16 e, fun e => hva i0 oi e, fun e => absurd e c9, fun _ _ => by rw [if_pos (by rw [← hleft]; exact c23)]; exact i_4⟩
    · unfold NUM; rw [if_neg c9, fx_129]; rw [fx_24]
  · have hu := clk_t c11
    have hmk := mk_t fx_45 c12 c15
    clear c11 c12 c15
    have h4 := n4lt hn_4 c1
    refine Or.inr ⟨n_4, hn_4, h4, ?_⟩
    have hn := hn_4
    have hva := hva n_4 h4
    have hP := (hV.1.2.2.1 n_4 h4).1 c2
    have rg := hP.rng
    have win := hP.win
    obtain ⟨i, oi, er, olt, k0, k1, z1⟩ := hP.own c3 (c6 n_4 hn)
    obtain rfl := ixeq c8 er
    have fr := hP.frng
    rw [far_m (fr i0 oi) rg.2.2] at k0 k1
    have ef : x_16.toInt = ((A 13 n_4).toInt - (A 29 (4 * n_4 + i0)).toInt) % 64 := by rw [ex_16]; exact far_m (fr i0 oi) rg.2.2
    have hO : OWN A n_4 i0 (A 13 n_4).toInt := ⟨fun j hj => by have e := olt j hj; rw [far_m (fr j (jlt oi hj)) rg.2.2] at e; exact e, k1⟩
    clear olt er ex_16
    have hNB := pj_N z1
    have hNB2 : NB (A 24) (4 * n_4 + i0) = ((A 24 (4 * n_4 + i0)).toInt + 3) / 4 := rfl
    have h6 := hV.1.2.2.2.2.1 (4 * n_4 + i0) (ix16 h4 c7)
    obtain ⟨f0, hf0⟩ : ∃ f0 : Nat, (f0 : Int) = (A 23 (4 * n_4 + i0)).toInt + 4 * (((A 13 n_4).toInt - (A 29 (4 * n_4 + i0)).toInt) % 64) := ⟨_, Int.toNat_of_nonneg (pos4 h6.2.2.1 k0)⟩
    have hleft : x_38.toInt = (A 24 (4 * n_4 + i0)).toInt - 4 * (((A 13 n_4).toInt - (A 29 (4 * n_4 + i0)).toInt) % 64) := by rw [fx_38, fx_37, ef]
    have hE := EMR.load (nd := n_4 % 2) (f0 := f0) hemit hload hV.2 (nd2 hn) (by rw [fx_124, fx_37, ef]; exact hf0) (sz4 (left1 hleft k1) c23)
    refine Or.inr ⟨c2, c4, i0, oi, hO, ?_, rfl, _, u_29, _, _, _, _, x_135, f0, hu, hf0, hE, ?_, ?_, j8 (by first | (simp only [uA_s, uA_n (show (41 : Nat) ≠ 13 by decide), uA_n (show (41 : Nat) ≠ 15 by decide), uA_n (show (41 : Nat) ≠ 42 by decide), uA_n (show (41 : Nat) ≠ 43 by decide), uA_n (show (41 : Nat) ≠ 44 by decide), uA_n (show (41 : Nat) ≠ 45 by decide), uA_n (show (41 : Nat) ≠ 46 by decide), uA_n (show (41 : Nat) ≠ 47 by decide), uA_n (show (41 : Nat) ≠ 48 by decide)]; done) | rfl) (by first | (simp only [uA_s, uA_n (show (42 : Nat) ≠ 13 by decide), uA_n (show (42 : Nat) ≠ 15 by decide), uA_n (show (42 : Nat) ≠ 41 by decide), uA_n (show (42 : Nat) ≠ 43 by decide), uA_n (show (42 : Nat) ≠ 44 by decide), uA_n (show (42 : Nat) ≠ 45 by decide), uA_n (show (42 : Nat) ≠ 46 by decide), uA_n (show (42 : Nat) ≠ 47 by decide), uA_n (show (42 : Nat) ≠ 48 by decide)]; done) | rfl) (by first | (simp only [uA_s, uA_n (show (43 : Nat) ≠ 13 by decide), uA_n (show (43 : Nat) ≠ 15 by decide), uA_n (show (43 : Nat) ≠ 41 by decide), uA_n (show (43 : Nat) ≠ 42 by decide), uA_n (show (43 : Nat) ≠ 44 by decide), uA_n (show (43 : Nat) ≠ 45 by decide), uA_n (show (43 : Nat) ≠ 46 by decide), uA_n (show (43 : Nat) ≠ 47 by decide), uA_n (show (43 : Nat) ≠ 48 by decide)]; done) | rfl) (by first | (simp only [uA_s, uA_n (show (44 : Nat) ≠ 13 by decide), uA_n (show (44 : Nat) ≠ 15 by decide), uA_n (show (44 : Nat) ≠ 41 by decide), uA_n (show (44 : Nat) ≠ 42 by decide), uA_n (show (44 : Nat) ≠ 43 by decide), uA_n (show (44 : Nat) ≠ 45 by decide), uA_n (show (44 : Nat) ≠ 46 by decide), uA_n (show (44 : Nat) ≠ 47 by decide), uA_n (show (44 : Nat) ≠ 48 by decide)]; done) | rfl) (by first | (simp only [uA_s, uA_n (show (45 : Nat) ≠ 13 by decide), uA_n (show (45 : Nat) ≠ 15 by decide), uA_n (show (45 : Nat) ≠ 41 by decide), uA_n (show (45 : Nat) ≠ 42 by decide), uA_n (show (45 : Nat) ≠ 43 by decide), uA_n (show (45 : Nat) ≠ 44 by decide), uA_n (show (45 : Nat) ≠ 46 by decide), uA_n (show (45 : Nat) ≠ 47 by decide), uA_n (show (45 : Nat) ≠ 48 by decide)]; done) | rfl) (by first | (simp only [uA_s, uA_n (show (46 : Nat) ≠ 13 by decide), uA_n (show (46 : Nat) ≠ 15 by decide), uA_n (show (46 : Nat) ≠ 41 by decide), uA_n (show (46 : Nat) ≠ 42 by decide), uA_n (show (46 : Nat) ≠ 43 by decide), uA_n (show (46 : Nat) ≠ 44 by decide), uA_n (show (46 : Nat) ≠ 45 by decide), uA_n (show (46 : Nat) ≠ 47 by decide), uA_n (show (46 : Nat) ≠ 48 by decide)]; done) | rfl) (by first | (simp only [uA_s, uA_n (show (47 : Nat) ≠ 13 by decide), uA_n (show (47 : Nat) ≠ 15 by decide), uA_n (show (47 : Nat) ≠ 41 by decide), uA_n (show (47 : Nat) ≠ 42 by decide), uA_n (show (47 : Nat) ≠ 43 by decide), uA_n (show (47 : Nat) ≠ 44 by decide), uA_n (show (47 : Nat) ≠ 45 by decide), uA_n (show (47 : Nat) ≠ 46 by decide), uA_n (show (47 : Nat) ≠ 48 by decide)]; done) | rfl) (by first | (simp only [uA_s, uA_n (show (48 : Nat) ≠ 13 by decide), uA_n (show (48 : Nat) ≠ 15 by decide), uA_n (show (48 : Nat) ≠ 41 by decide), uA_n (show (48 : Nat) ≠ 42 by decide), uA_n (show (48 : Nat) ≠ 43 by decide), uA_n (show (48 : Nat) ≠ 44 by decide), uA_n (show (48 : Nat) ≠ 45 by decide), uA_n (show (48 : Nat) ≠ 46 by decide), uA_n (show (48 : Nat) ≠ 47 by decide)]; done) | rfl), rfl, rfl, fun j k1 k2 k3 => uA10 k1 k2 k3⟩
    · unfold NUM; rw [if_neg c9]; exact (win1 rg.2.2 rg.2.1 win (n := 1) (by decide) fx_24 fx_25 fx_26 fx_27).mp c10
    · exact ⟨fun _ => ⟨by rw [hmk, c14 (4 * n_4 + i0) c8, ef], rfl⟩, fun e => absurd c16 e, fun e => kd0 c16 e, fun e => hva i0 oi e, fun e => absurd e c9, fun _ _ => by rw [if_neg (by rw [← hleft]; exact c23)]; exact hleft⟩
    · unfold NUM; rw [if_neg c9, fx_135]; rw [fx_24]
  · skip
    have h4 := n4lt hn_4 c1
    refine Or.inr ⟨n_4, hn_4, h4, ?_⟩
    have hn := hn_4
    have hva := hva n_4 h4
    have hP := (hV.1.2.2.1 n_4 h4).1 c2
    have rg := hP.rng
    have win := hP.win
    obtain ⟨i, oi, er, olt, k0, k1, z1⟩ := hP.own c3 (c6 n_4 hn)
    obtain rfl := ixeq c8 er
    have fr := hP.frng
    rw [far_m (fr i0 oi) rg.2.2] at k0 k1
    have ef : x_16.toInt = ((A 13 n_4).toInt - (A 29 (4 * n_4 + i0)).toInt) % 64 := by rw [ex_16]; exact far_m (fr i0 oi) rg.2.2
    have hO : OWN A n_4 i0 (A 13 n_4).toInt := ⟨fun j hj => by have e := olt j hj; rw [far_m (fr j (jlt oi hj)) rg.2.2] at e; exact e, k1⟩
    clear olt er ex_16
    have hNB := pj_N z1
    have hNB2 : NB (A 24) (4 * n_4 + i0) = ((A 24 (4 * n_4 + i0)).toInt + 3) / 4 := rfl
    have h6 := hV.1.2.2.2.2.1 (4 * n_4 + i0) (ix16 h4 c7)
    exact Or.inl ⟨by simp only [uA_ii], rfl, rfl, Or.inr (Or.inr (Or.inr ⟨i0, oi, hO, fun e => c10 ((win1 rg.2.2 rg.2.1 win (n := 1) (by decide) fx_24 fx_25 fx_26 fx_27).mpr (by unfold NUM at e; rw [if_neg c9] at e; exact e))⟩))⟩
  · exact absurd c9 c23
  · have hu := clk_t c13
    clear c13 c14 c17
    have h4 := n4lt hn_4 c1
    refine Or.inr ⟨n_4, hn_4, h4, ?_⟩
    have hn := hn_4
    have hva := hva n_4 h4
    have hP := (hV.1.2.2.1 n_4 h4).1 c2
    have rg := hP.rng
    have win := hP.win
    obtain ⟨i, oi, er, olt, k0, k1, z1⟩ := hP.own c3 (c6 n_4 hn)
    obtain rfl := ixeq c8 er
    have fr := hP.frng
    rw [far_m (fr i0 oi) rg.2.2] at k0 k1
    have ef : x_16.toInt = ((A 13 n_4).toInt - (A 29 (4 * n_4 + i0)).toInt) % 64 := by rw [ex_16]; exact far_m (fr i0 oi) rg.2.2
    have hO : OWN A n_4 i0 (A 13 n_4).toInt := ⟨fun j hj => by have e := olt j hj; rw [far_m (fr j (jlt oi hj)) rg.2.2] at e; exact e, k1⟩
    clear olt er ex_16
    have hNB := pj_N z1
    have hNB2 : NB (A 24) (4 * n_4 + i0) = ((A 24 (4 * n_4 + i0)).toInt + 3) / 4 := rfl
    have h6 := hV.1.2.2.2.2.1 (4 * n_4 + i0) (ix16 h4 c7)
    obtain ⟨f0, hf0⟩ : ∃ f0 : Nat, (f0 : Int) = (A 23 (4 * n_4 + i0)).toInt + 4 * (((A 13 n_4).toInt - (A 29 (4 * n_4 + i0)).toInt) % 64) := ⟨_, Int.toNat_of_nonneg (pos4 h6.2.2.1 k0)⟩
    have hleft : x_155.toInt = (A 24 (4 * n_4 + i0)).toInt - 4 * (((A 13 n_4).toInt - (A 29 (4 * n_4 + i0)).toInt) % 64) := by rw [fx_155, fx_154, ef]
    have hE := EMR.size (sz := x_155) (c := fun c => A 4 (32 * (n_4 % 2) + f0 + c)) hemit (Or.inl ⟨c24, rfl⟩) hV.2 (fun e => kd2c c9 e)
    refine Or.inr ⟨c2, c4, i0, oi, hO, ?_, rfl, _, u_146, _, _, _, _, x_183, f0, hu, hf0, hE, ?_, ?_, j8 (by first | (simp only [uA_s, uA_n (show (41 : Nat) ≠ 13 by decide), uA_n (show (41 : Nat) ≠ 15 by decide), uA_n (show (41 : Nat) ≠ 42 by decide), uA_n (show (41 : Nat) ≠ 43 by decide), uA_n (show (41 : Nat) ≠ 44 by decide), uA_n (show (41 : Nat) ≠ 45 by decide), uA_n (show (41 : Nat) ≠ 46 by decide), uA_n (show (41 : Nat) ≠ 47 by decide), uA_n (show (41 : Nat) ≠ 48 by decide)]; done) | rfl) (by first | (simp only [uA_s, uA_n (show (42 : Nat) ≠ 13 by decide), uA_n (show (42 : Nat) ≠ 15 by decide), uA_n (show (42 : Nat) ≠ 41 by decide), uA_n (show (42 : Nat) ≠ 43 by decide), uA_n (show (42 : Nat) ≠ 44 by decide), uA_n (show (42 : Nat) ≠ 45 by decide), uA_n (show (42 : Nat) ≠ 46 by decide), uA_n (show (42 : Nat) ≠ 47 by decide), uA_n (show (42 : Nat) ≠ 48 by decide)]; done) | rfl) (by first | (simp only [uA_s, uA_n (show (43 : Nat) ≠ 13 by decide), uA_n (show (43 : Nat) ≠ 15 by decide), uA_n (show (43 : Nat) ≠ 41 by decide), uA_n (show (43 : Nat) ≠ 42 by decide), uA_n (show (43 : Nat) ≠ 44 by decide), uA_n (show (43 : Nat) ≠ 45 by decide), uA_n (show (43 : Nat) ≠ 46 by decide), uA_n (show (43 : Nat) ≠ 47 by decide), uA_n (show (43 : Nat) ≠ 48 by decide)]; done) | rfl) (by first | (simp only [uA_s, uA_n (show (44 : Nat) ≠ 13 by decide), uA_n (show (44 : Nat) ≠ 15 by decide), uA_n (show (44 : Nat) ≠ 41 by decide), uA_n (show (44 : Nat) ≠ 42 by decide), uA_n (show (44 : Nat) ≠ 43 by decide), uA_n (show (44 : Nat) ≠ 45 by decide), uA_n (show (44 : Nat) ≠ 46 by decide), uA_n (show (44 : Nat) ≠ 47 by decide), uA_n (show (44 : Nat) ≠ 48 by decide)]; done) | rfl) (by first | (simp only [uA_s, uA_n (show (45 : Nat) ≠ 13 by decide), uA_n (show (45 : Nat) ≠ 15 by decide), uA_n (show (45 : Nat) ≠ 41 by decide), uA_n (show (45 : Nat) ≠ 42 by decide), uA_n (show (45 : Nat) ≠ 43 by decide), uA_n (show (45 : Nat) ≠ 44 by decide), uA_n (show (45 : Nat) ≠ 46 by decide), uA_n (show (45 : Nat) ≠ 47 by decide), uA_n (show (45 : Nat) ≠ 48 by decide)]; done) | rfl) (by first | (simp only [uA_s, uA_n (show (46 : Nat) ≠ 13 by decide), uA_n (show (46 : Nat) ≠ 15 by decide), uA_n (show (46 : Nat) ≠ 41 by decide), uA_n (show (46 : Nat) ≠ 42 by decide), uA_n (show (46 : Nat) ≠ 43 by decide), uA_n (show (46 : Nat) ≠ 44 by decide), uA_n (show (46 : Nat) ≠ 45 by decide), uA_n (show (46 : Nat) ≠ 47 by decide), uA_n (show (46 : Nat) ≠ 48 by decide)]; done) | rfl) (by first | (simp only [uA_s, uA_n (show (47 : Nat) ≠ 13 by decide), uA_n (show (47 : Nat) ≠ 15 by decide), uA_n (show (47 : Nat) ≠ 41 by decide), uA_n (show (47 : Nat) ≠ 42 by decide), uA_n (show (47 : Nat) ≠ 43 by decide), uA_n (show (47 : Nat) ≠ 44 by decide), uA_n (show (47 : Nat) ≠ 45 by decide), uA_n (show (47 : Nat) ≠ 46 by decide), uA_n (show (47 : Nat) ≠ 48 by decide)]; done) | rfl) (by first | (simp only [uA_s, uA_n (show (48 : Nat) ≠ 13 by decide), uA_n (show (48 : Nat) ≠ 15 by decide), uA_n (show (48 : Nat) ≠ 41 by decide), uA_n (show (48 : Nat) ≠ 42 by decide), uA_n (show (48 : Nat) ≠ 43 by decide), uA_n (show (48 : Nat) ≠ 44 by decide), uA_n (show (48 : Nat) ≠ 45 by decide), uA_n (show (48 : Nat) ≠ 46 by decide), uA_n (show (48 : Nat) ≠ 47 by decide)]; done) | rfl), rfl, rfl, fun j k1 k2 k3 => uA10 k1 k2 k3⟩
    · unfold NUM; rw [if_pos c9]; exact (win1 rg.2.2 rg.2.1 win (n := NB (A 24) (4 * n_4 + i0) - ((A 13 n_4).toInt - (A 29 (4 * n_4 + i0)).toInt) % 64) (num3 hNB k0 k1) (by rw [fx_141, fx_139, c11 (4 * n_4 + i0) c8, ef]) fx_142 fx_143 fx_144).mp c12
    · exact ⟨fun e => kd20 c9 e, fun _ => ⟨rfl, by rw [fx_172, fx_154, ef]⟩, fun e => kd2 c9 e, fun e => hva i0 oi e, fun e => hleft, fun e => absurd c9 e⟩
    · unfold NUM; rw [if_pos c9, fx_183]; rw [fx_141, fx_139, c11 (4 * n_4 + i0) c8, ef]
  · have hu := clk_t c13
    clear c13 c14 c17
    have h4 := n4lt hn_4 c1
    refine Or.inr ⟨n_4, hn_4, h4, ?_⟩
    have hn := hn_4
    have hva := hva n_4 h4
    have hP := (hV.1.2.2.1 n_4 h4).1 c2
    have rg := hP.rng
    have win := hP.win
    obtain ⟨i, oi, er, olt, k0, k1, z1⟩ := hP.own c3 (c6 n_4 hn)
    obtain rfl := ixeq c8 er
    have fr := hP.frng
    rw [far_m (fr i0 oi) rg.2.2] at k0 k1
    have ef : x_16.toInt = ((A 13 n_4).toInt - (A 29 (4 * n_4 + i0)).toInt) % 64 := by rw [ex_16]; exact far_m (fr i0 oi) rg.2.2
    have hO : OWN A n_4 i0 (A 13 n_4).toInt := ⟨fun j hj => by have e := olt j hj; rw [far_m (fr j (jlt oi hj)) rg.2.2] at e; exact e, k1⟩
    clear olt er ex_16
    have hNB := pj_N z1
    have hNB2 : NB (A 24) (4 * n_4 + i0) = ((A 24 (4 * n_4 + i0)).toInt + 3) / 4 := rfl
    have h6 := hV.1.2.2.2.2.1 (4 * n_4 + i0) (ix16 h4 c7)
    obtain ⟨f0, hf0⟩ : ∃ f0 : Nat, (f0 : Int) = (A 23 (4 * n_4 + i0)).toInt + 4 * (((A 13 n_4).toInt - (A 29 (4 * n_4 + i0)).toInt) % 64) := ⟨_, Int.toNat_of_nonneg (pos4 h6.2.2.1 k0)⟩
    have hleft : x_155.toInt = (A 24 (4 * n_4 + i0)).toInt - 4 * (((A 13 n_4).toInt - (A 29 (4 * n_4 + i0)).toInt) % 64) := by rw [fx_155, fx_154, ef]
    have hE := EMR.size (sz := x_155) (c := fun c => A 4 (32 * (n_4 % 2) + f0 + c)) hemit (Or.inr ⟨n_186, hn_186, rfl⟩) hV.2 (fun e => kd2c c9 e)
    refine Or.inr ⟨c2, c4, i0, oi, hO, ?_, rfl, _, u_146, _, _, _, _, x_189, f0, hu, hf0, hE, ?_, ?_, j8 (by first | (simp only [uA_s, uA_n (show (41 : Nat) ≠ 13 by decide), uA_n (show (41 : Nat) ≠ 15 by decide), uA_n (show (41 : Nat) ≠ 42 by decide), uA_n (show (41 : Nat) ≠ 43 by decide), uA_n (show (41 : Nat) ≠ 44 by decide), uA_n (show (41 : Nat) ≠ 45 by decide), uA_n (show (41 : Nat) ≠ 46 by decide), uA_n (show (41 : Nat) ≠ 47 by decide), uA_n (show (41 : Nat) ≠ 48 by decide)]; done) | rfl) (by first | (simp only [uA_s, uA_n (show (42 : Nat) ≠ 13 by decide), uA_n (show (42 : Nat) ≠ 15 by decide), uA_n (show (42 : Nat) ≠ 41 by decide), uA_n (show (42 : Nat) ≠ 43 by decide), uA_n (show (42 : Nat) ≠ 44 by decide), uA_n (show (42 : Nat) ≠ 45 by decide), uA_n (show (42 : Nat) ≠ 46 by decide), uA_n (show (42 : Nat) ≠ 47 by decide), uA_n (show (42 : Nat) ≠ 48 by decide)]; done) | rfl) (by first | (simp only [uA_s, uA_n (show (43 : Nat) ≠ 13 by decide), uA_n (show (43 : Nat) ≠ 15 by decide), uA_n (show (43 : Nat) ≠ 41 by decide), uA_n (show (43 : Nat) ≠ 42 by decide), uA_n (show (43 : Nat) ≠ 44 by decide), uA_n (show (43 : Nat) ≠ 45 by decide), uA_n (show (43 : Nat) ≠ 46 by decide), uA_n (show (43 : Nat) ≠ 47 by decide), uA_n (show (43 : Nat) ≠ 48 by decide)]; done) | rfl) (by first | (simp only [uA_s, uA_n (show (44 : Nat) ≠ 13 by decide), uA_n (show (44 : Nat) ≠ 15 by decide), uA_n (show (44 : Nat) ≠ 41 by decide), uA_n (show (44 : Nat) ≠ 42 by decide), uA_n (show (44 : Nat) ≠ 43 by decide), uA_n (show (44 : Nat) ≠ 45 by decide), uA_n (show (44 : Nat) ≠ 46 by decide), uA_n (show (44 : Nat) ≠ 47 by decide), uA_n (show (44 : Nat) ≠ 48 by decide)]; done) | rfl) (by first | (simp only [uA_s, uA_n (show (45 : Nat) ≠ 13 by decide), uA_n (show (45 : Nat) ≠ 15 by decide), uA_n (show (45 : Nat) ≠ 41 by decide), uA_n (show (45 : Nat) ≠ 42 by decide), uA_n (show (45 : Nat) ≠ 43 by decide), uA_n (show (45 : Nat) ≠ 44 by decide), uA_n (show (45 : Nat) ≠ 46 by decide), uA_n (show (45 : Nat) ≠ 47 by decide), uA_n (show (45 : Nat) ≠ 48 by decide)]; done) | rfl) (by first | (simp only [uA_s, uA_n (show (46 : Nat) ≠ 13 by decide), uA_n (show (46 : Nat) ≠ 15 by decide), uA_n (show (46 : Nat) ≠ 41 by decide), uA_n (show (46 : Nat) ≠ 42 by decide), uA_n (show (46 : Nat) ≠ 43 by decide), uA_n (show (46 : Nat) ≠ 44 by decide), uA_n (show (46 : Nat) ≠ 45 by decide), uA_n (show (46 : Nat) ≠ 47 by decide), uA_n (show (46 : Nat) ≠ 48 by decide)]; done) | rfl) (by first | (simp only [uA_s, uA_n (show (47 : Nat) ≠ 13 by decide), uA_n (show (47 : Nat) ≠ 15 by decide), uA_n (show (47 : Nat) ≠ 41 by decide), uA_n (show (47 : Nat) ≠ 42 by decide), uA_n (show (47 : Nat) ≠ 43 by decide), uA_n (show (47 : Nat) ≠ 44 by decide), uA_n (show (47 : Nat) ≠ 45 by decide), uA_n (show (47 : Nat) ≠ 46 by decide), uA_n (show (47 : Nat) ≠ 48 by decide)]; done) | rfl) (by first | (simp only [uA_s, uA_n (show (48 : Nat) ≠ 13 by decide), uA_n (show (48 : Nat) ≠ 15 by decide), uA_n (show (48 : Nat) ≠ 41 by decide), uA_n (show (48 : Nat) ≠ 42 by decide), uA_n (show (48 : Nat) ≠ 43 by decide), uA_n (show (48 : Nat) ≠ 44 by decide), uA_n (show (48 : Nat) ≠ 45 by decide), uA_n (show (48 : Nat) ≠ 46 by decide), uA_n (show (48 : Nat) ≠ 47 by decide)]; done) | rfl), rfl, rfl, fun j k1 k2 k3 => uA10 k1 k2 k3⟩
    · unfold NUM; rw [if_pos c9]; exact (win1 rg.2.2 rg.2.1 win (n := NB (A 24) (4 * n_4 + i0) - ((A 13 n_4).toInt - (A 29 (4 * n_4 + i0)).toInt) % 64) (num3 hNB k0 k1) (by rw [fx_141, fx_139, c11 (4 * n_4 + i0) c8, ef]) fx_142 fx_143 fx_144).mp c12
    · exact ⟨fun e => kd20 c9 e, fun _ => ⟨rfl, by rw [fx_172, fx_154, ef]⟩, fun e => kd2 c9 e, fun e => hva i0 oi e, fun e => hleft, fun e => absurd c9 e⟩
    · unfold NUM; rw [if_pos c9, fx_189]; rw [fx_141, fx_139, c11 (4 * n_4 + i0) c8, ef]
  · skip
    have h4 := n4lt hn_4 c1
    refine Or.inr ⟨n_4, hn_4, h4, ?_⟩
    have hn := hn_4
    have hva := hva n_4 h4
    have hP := (hV.1.2.2.1 n_4 h4).1 c2
    have rg := hP.rng
    have win := hP.win
    obtain ⟨i, oi, er, olt, k0, k1, z1⟩ := hP.own c3 (c6 n_4 hn)
    obtain rfl := ixeq c8 er
    have fr := hP.frng
    rw [far_m (fr i0 oi) rg.2.2] at k0 k1
    have ef : x_16.toInt = ((A 13 n_4).toInt - (A 29 (4 * n_4 + i0)).toInt) % 64 := by rw [ex_16]; exact far_m (fr i0 oi) rg.2.2
    have hO : OWN A n_4 i0 (A 13 n_4).toInt := ⟨fun j hj => by have e := olt j hj; rw [far_m (fr j (jlt oi hj)) rg.2.2] at e; exact e, k1⟩
    clear olt er ex_16
    have hNB := pj_N z1
    have hNB2 : NB (A 24) (4 * n_4 + i0) = ((A 24 (4 * n_4 + i0)).toInt + 3) / 4 := rfl
    have h6 := hV.1.2.2.2.2.1 (4 * n_4 + i0) (ix16 h4 c7)
    exact Or.inl ⟨by simp only [uA_ii], rfl, rfl, Or.inr (Or.inr (Or.inr ⟨i0, oi, hO, fun e => c12 ((win1 rg.2.2 rg.2.1 win (n := NB (A 24) (4 * n_4 + i0) - ((A 13 n_4).toInt - (A 29 (4 * n_4 + i0)).toInt) % 64) (num3 hNB k0 k1) (by rw [fx_141, fx_139, c11 (4 * n_4 + i0) c8, ef]) fx_142 fx_143 fx_144).mpr (by unfold NUM at e; rw [if_pos c9] at e; exact e))⟩))⟩
  · skip
    have h4 := n4lt hn_4 c1
    refine Or.inr ⟨n_4, hn_4, h4, ?_⟩
    have hn := hn_4
    have hva := hva n_4 h4
    exact Or.inl ⟨by simp only [uA_ii], rfl, rfl, Or.inr (Or.inr (Or.inl c4))⟩
  · exact Or.inl ⟨fun e => c1 ⟨e.1, by have := i_3t; omega⟩, by simp only [uA_ii], rfl, rfl⟩
end
section
theorem s_pushC {x : Nat} {G : Nat → Nat} {t0 t1 t2 : Int32} (ht : 2 ≤ t0.toInt) {B : AA} {R : RR} {A : AA} {pk cd p0 : Int32} (h : SIM x t0 t1 t2 B R A pk) (hV : RIV A pk) {Z : AA} {r : Int32} (hc : C_X9_push G B R x p0 Z r) {A' : AA} {cdz pkz r' : Int32} (hd : D_X10_push A cd pk p0 A' cdz pkz r') : SIM x t0 t1 t2 Z R A' pkz ∧ r = r' := by
  have hh := h
  obtain ⟨hS, ⟨pm, tk, hD, hF0⟩, hM, -, -, hPQ⟩ := hh
  have hr0 := r_push hd hV (fun n hn i hi => by
    obtain ⟨_, _, _, _, _, g5⟩ := (hPQ n hn).2.2.1
    exact (g5 i hi).2.2.2.2.2.2.2.2.2.1)
  clear hd
  have main : 0 ≤ p0.toInt → p0.toInt < 4 → ∃ q : Nat, (q : Int) = p0.toInt ∧ q < 4 := fun a b => ⟨p0.toInt.toNat, by omega, by omega⟩
  by_cases hv : 0 ≤ p0.toInt ∧ p0.toInt < 4
  · obtain ⟨q, hp, hq⟩ := main hv.1 hv.2
    obtain ⟨hC, hPS, hRQ, -, -⟩ := hPQ q hq
    obtain ⟨p1, p2, p3, p4, p5, p6, p7, p8, p9, p10⟩ := hPS
    obtain ⟨hd4, g1, g2, g3, g4, g5⟩ := hRQ
    have k1 := congrArg Int32.toInt p1
    rcases hr0 with hr | ⟨qq, hqq, -, hr⟩
    · exact absurd hv hr.1
    obtain rfl : qq = q := by omega
    rcases hc with ⟨c1, eZ, rfl⟩ | ⟨c1, n_6, hn_6, c2, eZ, rfl⟩ | ⟨c1, n_6, hn_6, c2, r_12, U_13, hF, hsendNext, eZ, rfl⟩
    · exact absurd hv c1
    · obtain rfl : n_6 = qq := by omega
      rw [hS.1.2.1, (hS.2.2.1 _ hq).1] at c2
      rcases hr with ⟨rfl, rfl, rfl, -⟩ | ⟨d1, -⟩
      · rw [eZ]; exact ⟨h, rfl⟩
      · exfalso; omega
    · obtain rfl : n_6 = qq := by omega
      rw [hS.1.2.1, (hS.2.2.1 _ hq).1] at c2 hsendNext
      rw [(hS.2.2.1 _ hq).2.1] at hsendNext
      have hst : (A 10 n_6).toInt = 1 := by omega
      have p2s := p2 hst
      have p4s := p4 (by omega)
      have hP := (hV.1.2.2.1 n_6 hq).1 hst
      have rg := hP.rng
      have c4 := hV.c4 hq
      obtain ⟨n, hn⟩ : ∃ n : Nat, (n : Int) = (A 20 n_6).toInt := ⟨_, Int.toNat_of_nonneg c4.1.1⟩
      have g3i := congrArg Int32.toInt g3
      obtain ⟨np, hnp⟩ : ∃ n : Nat, (n : Int) = pk.toInt := ⟨_, Int.toNat_of_nonneg hV.2.1⟩
      have hfi := congrArg Int32.toInt hF0.1
      have z1 : ∀ i, i < n → 1 ≤ (A 24 (4 * n_6 + i)).toInt ∧ (A 24 (4 * n_6 + i)).toInt ≤ 12 := fun i hi => by
        obtain ⟨_, _, a, _, _, hR, _⟩ := hP
        have := hR i (by omega)
        exact ⟨this.2.1, this.2.2.1⟩
      have hs := e_sendNext hS hq hD (np := np) (by omega) (by have := hV.2.2; omega) g2 (n := n) (by omega) (by omega) (fun i hi => g5 i (by omega)) (fun i hi => by
        have h6 := hV.1.2.2.2.2.1 (4 * n_6 + i) (by omega)
        exact ⟨z1 i hi, ⟨h6.2.2.1, h6.2.2.2.2.2.1⟩, h6.2.2.2.2.2.2.2⟩) (by rw [p2s.2.2.1]; exact rg.2.2) hsendNext
      rw [p2s.2.1, p2s.2.2.1, p4s.1] at hs
      clear hsendNext
      rcases hs with ⟨s1, s2, s3⟩ | ⟨s1, i, s2, s3, s4, s5, U, sz, mk, pl, va, cu', f0, s6, s7, s8, s9, s10⟩
      · rcases hr with ⟨rfl, rfl, rfl, -⟩ | ⟨d1, d2, i', d3, d4, d5, -⟩
        · rw [eZ, s1, s2]; exact ⟨h, rfl⟩
        · exfalso
          rcases s3 with s3 | s3 | ⟨i, e1, e2, e3⟩
          · exact s3 d2
          · have a := s3 i' (by omega)
            have b := d4.2
            omega
          · obtain rfl := e2.uniq d4
            exact e3 d5
      · rcases hr with ⟨-, -, -, d1⟩ | ⟨d1, d2, i', d3, d4, d5, d6, A2, u, sz', mk', pl', va', cu2, f0', d7, d8, d9, d10, d11, d12, d13, d14, d15⟩
        · exfalso
          rcases d1 with d1 | d1 | d1 | ⟨i', e1, e2, e3⟩
          · exact d1 hst
          · have a := hP.none d1.2 i (by omega)
            have b := s3.2
            omega
          · exact d1 s1
          · obtain rfl := s3.uniq e2
            exact e3 s4
        · obtain rfl := s3.uniq d4
          obtain rfl : f0 = f0' := by omega
          obtain ⟨rfl, rfl, rfl, rfl⟩ := s8.uniq d10
          obtain rfl : cu' = cu2 := i32_eq (by rw [s9, d11])
          have h6 := hV.1.2.2.2.2.1 (4 * n_6 + i) (by omega)
          have zz := z1 i s2
          have eto : B (x + 77 + 17 * n_6) 0 = peerT p0 := i32_eq (by rw [hC.1, peer_e hq hp])
          rw [eto] at s7
          have hk0 : 0 ≤ ((A 13 n_6).toInt - (A 29 (4 * n_6 + i)).toInt) % 64 ∧ ((A 13 n_6).toInt - (A 29 (4 * n_6 + i)).toInt) % 64 < NB (A 24) (4 * n_6 + i) := ⟨by omega, s3.2⟩
          have hpv := s8.pkv (nm := A 13 n_6) ⟨h6.1, h6.2.1⟩ zz.2 hk0 rg.2.2
          have hsz : (A 22 (4 * n_6 + i)).toInt = 0 ∨ (A 22 (4 * n_6 + i)).toInt = 1 ∨ (A 22 (4 * n_6 + i)).toInt = 4 → sz.toInt ≤ (A 24 (4 * n_6 + i)).toInt - 4 * (((A 13 n_6).toInt - (A 29 (4 * n_6 + i)).toInt) % 64) := fun e => by
            rw [s8.2.2.2.2.2 (by omega) (by omega)]
            split <;> omega
          have s7' := s7.cgc (c' := fun c => A 4 (32 * (n_6 % 2) + f0 + c)) (fun e k k4 ks => by
            have := hsz e
            show B (x + 57 + 10 * (n_6 % 2)) (f0 + k) = A 4 (32 * (n_6 % 2) + f0 + k)
            rw [hM (n_6 % 2) (by omega) (f0 + k) (by omega), Nat.add_assoc])
          obtain ⟨m1, m2, -, m4⟩ := h.emit hV.w (A0 := uA A 15 u) (fun j a b => uA_n (by omega)) (fun pm' tk' hD' => by
            have e : ∀ i, i < 24 → pm' i = pm i := fun i hi => by
              have a := hD'.2.1 i hi
              have b := hD.2.1 i hi
              omega
            rcases s7' with q1 | ⟨n', q1, q2, q3⟩
            · exact Or.inl q1
            · exact Or.inr ⟨n', q1, q2, by rw [e n' q2]; exact q3⟩) d9 hpv
          have eH : U (x + 77 + 17 * n_6) = B (x + 77 + 17 * n_6) := m4 _ (by omega)
          rw [eZ, s10, s5, d6, eH]
          refine ⟨?_, rfl⟩
          have m15 : A' 15 n_6 = if (A 13 n_6).toInt = (A 12 n_6).toInt then 0 else A 15 n_6 := by
            rw [d14, d7]; split
            · exact upd_s
            · rfl
          have hA15 : ∀ k, k ≠ n_6 → A' 15 k = A 15 k := fun k hk => by
            rw [d14, d7]; split
            · exact upd_n hk
            · rfl
          have oth : ∀ j, j ≠ 13 → j ≠ 15 → A' j = mixF A A2 j := fun j a b => by
            by_cases e : 41 ≤ j ∧ j ≤ 48
            · rw [mixF_i e]; exact d12 j e.1 e.2
            · rw [mixF_o e]; exact d15 j a b (by omega)
          have ei : ∀ {j : Nat}, j ≠ 13 → j ≠ 15 → j < 41 → A' j n_6 = A j n_6 := fun a b c => by rw [d15 _ a b (Or.inl c)]
          refine m1.rq m2 hq (by rw [mixF_o (by omega)]; exact hst) (fun j hj => ?_) (fun j hj => oth j (by omega) (by omega)) (fun j k hk => ?_) ?_ ?_ ?_ ?_ ?_ ?_ ?_ ?_ ?_
          · rw [upd_n (by omega), eH]; split
            · rw [upd_n (by omega)]
            · rfl
          · by_cases e1 : j = 13
            · subst e1; rw [d13, mixF_o (by omega), upd_n hk]
            by_cases e2 : j = 15
            · subst e2; rw [mixF_o (by omega), hA15 k hk]
            rw [oth j e1 e2]
          · rw [upd_n (by decide), mixF_o (by omega)]; split
            · exact p2s.1
            · exact p2s.1
          · rw [upd_n (by decide), ei (by decide) (by decide) (by decide)]; split
            · exact p2s.2.1
            · exact p2s.2.1
          · rw [upd_s, d13, upd_s]
          · rw [upd_n (by decide), m15]; split
            · exact upd_s
            · exact p3.1
          · rw [upd_n (by decide), ei (by decide) (by decide) (by decide)]; split
            · exact p3.2.1
            · exact p3.2.1
          · rw [upd_n (by decide), ei (by decide) (by decide) (by decide)]; split
            · exact p3.2.2
            · exact p3.2.2
          · rw [upd_n (by decide), ei (by decide) (by decide) (by decide)]; split
            · exact p4s.1
            · exact p4s.1
          · rw [ei (by decide) (by decide) (by decide), m15]
            have t := p4s.2
            have iz := i_0
            split
            · exact ⟨fun _ => by omega, fun e => by omega⟩
            · exact t
          · rw [ei (by decide) (by decide) (by decide)]; exact p8
  · obtain ⟨-, rfl, rfl, rfl⟩ : ¬ (0 ≤ p0.toInt ∧ p0.toInt < 4) ∧ A' = A ∧ pkz = pk ∧ r' = -1 := hr0.resolve_right (fun ⟨n, e1, e2, _⟩ => hv (by omega))
    rcases hc with ⟨c1, rfl, rfl⟩ | ⟨c1, n_6, hn_6, c2, rfl, rfl⟩ | ⟨c1, n_6, hn_6, c2, r_12, U_13, hF, hsendNext, rfl, rfl⟩
    · exact ⟨h, rfl⟩
    · exact absurd c1 hv
    · exact absurd c1 hv
end
section
theorem rr_link {Q : Handler → Pre} {E : CtlPost} {e : Env} {d : Bool} {acts : List Action} {s : State} {f : JFrame} {a : Addr} {x : ExceptionTableEntry} {t : List ExceptionTableEntry} {c : ClassId} {cell : Cell} (hx : covers x f.pc = true) (h0 : x.catchType ≠ 0)
    (hl : s.vm.ClassLinks e.platform f.method.cls x.catchType c) (hcell : s.heap[a]? = some cell) (hobj : ∀ k, cell.vm ≠ .statics k) (hk : ∃ k, s.vm.classes[cell.cls]? = some k) (hc : ∃ k, s.vm.classes[c]? = some k) :
    wp (findHandler.go f a (x :: t)) Q E e d acts s ↔ if s.vm.assignable cell.cls c = true then Q (.found x.handlerPc) d acts (s.setVm (s.vm.noted f.method.cls x.catchType (.cls c))) else wp (findHandler.go f a t) Q E e d acts (s.setVm (s.vm.noted f.method.cls x.catchType (.cls c))) := by
  simp only [covers] at hx
  obtain ⟨ha, ht⟩ := (resolveClass_links e.toSetting hl).op (op := VmOp.resolveClass f.method.cls x.catchType) rfl
  have hal : s.vm.Alike (s.vm.noted f.method.cls x.catchType (.cls c)) := (Vm.Alike.refl s.vm).noted _ _ _
  obtain ⟨k1, hk1⟩ := hk
  obtain ⟨k2, hk2⟩ := hc
  obtain ⟨k1', hk1', -⟩ := hal.2.2 _ _ hk1
  obtain ⟨k2', hk2', -⟩ := hal.2.2 _ _ hk2
  have hq : (s.vm.noted f.method.cls x.catchType (.cls c)).assignable cell.cls c = s.vm.assignable cell.cls c := hal.assignable ..
  cases hfit : s.vm.assignable cell.cls c <;> simp [findHandler.go, hx, h0, ha, ht, hcell, hobj, hk1', hk2', hq, hfit, VmOp.dirties, VmOp.acts]
/-- the search over rows that don't take it, up to the one that does -/
theorem rr_thr {e : Env} {s₀ : State} {f : JFrame} {a : Addr} {cell : Cell} (hobj : ∀ k, cell.vm ≠ .statics k) (hk0 : ∃ k, s₀.vm.classes[cell.cls]? = some k) (x : ExceptionTableEntry) (suf : List ExceptionTableEntry) (hx : covers x f.pc = true) (h0 : x.catchType ≠ 0)
    {c : ClassId} (hl : s₀.vm.ClassLinks e.platform f.method.cls x.catchType c) (hfit : s₀.vm.assignable cell.cls c = true) :
    ∀ (pre : List ExceptionTableEntry) (S : State), s₀.WarmedH S.vm → S.heap[a]? = some cell → (∀ y ∈ pre, covers y f.pc = false ∨ (y.catchType ≠ 0 ∧ ∃ c', s₀.vm.ClassLinks e.platform f.method.cls y.catchType c' ∧ s₀.vm.assignable cell.cls c' = false)) →
      ∃ vm', s₀.WarmedH vm' ∧ ∀ (Q : Handler → Pre) (E : CtlPost) (d : Bool) (acts : List Action), wp (findHandler.go f a (pre ++ x :: suf)) Q E e d acts S ↔ Q (.found x.handlerPc) d acts (S.setVm vm') := by
  obtain ⟨k0, hk0⟩ := hk0
  intro pre
  induction pre with
  | nil =>
    intro S hW hcell _
    obtain ⟨k0', hk0', -⟩ := hW.alike.2.2 _ _ hk0
    obtain ⟨dk, _, _, kt, hd, _, _, _, _, hkt, _, hopen⟩ := hl.here
    obtain ⟨kt', hkt', -⟩ := hW.alike.2.2 _ _ hkt
    refine ⟨_, hW.noted hd hopen (State.rightAt_cls hl), fun Q E d acts => ?_⟩
    rw [List.nil_append, rr_link hx h0 (hW.classLinks hl) hcell hobj ⟨k0', hk0'⟩ ⟨kt', hkt'⟩, if_pos (by rw [hW.alike.assignable]; exact hfit)]
  | cons y ys ih =>
    intro S hW hcell hpass
    obtain ⟨k0', hk0', -⟩ := hW.alike.2.2 _ _ hk0
    have hrest : ∀ z ∈ ys, covers z f.pc = false ∨ (z.catchType ≠ 0 ∧ ∃ c', s₀.vm.ClassLinks e.platform f.method.cls z.catchType c' ∧ s₀.vm.assignable cell.cls c' = false) := fun z hz => hpass z (List.mem_cons_of_mem _ hz)
    by_cases hcov : covers y f.pc = true
    · rcases hpass y List.mem_cons_self with h | ⟨h1, c', hl', hno⟩
      · rw [h] at hcov; cases hcov
      · obtain ⟨dk, _, _, kt, hd, _, _, _, _, hkt, _, hopen⟩ := hl'.here
        obtain ⟨kt', hkt', -⟩ := hW.alike.2.2 _ _ hkt
        obtain ⟨vm', hW', hq⟩ := ih (S.setVm (S.vm.noted f.method.cls y.catchType (.cls c'))) (hW.noted hd hopen (State.rightAt_cls hl')) hcell hrest
        refine ⟨vm', hW', fun Q E d acts => ?_⟩
        rw [List.cons_append, rr_link hcov h1 (hW.classLinks hl') hcell hobj ⟨k0', hk0'⟩ ⟨kt', hkt'⟩, if_neg (by rw [hW.alike.assignable, hno]; decide)]
        exact hq Q E d acts
    · obtain ⟨vm', hW', hq⟩ := ih S hW hcell hrest
      refine ⟨vm', hW', fun Q E d acts => ?_⟩
      rw [List.cons_append, Jvm.W.findHandler_go_skip (by simpa using hcov)]
      exact hq Q E d acts
theorem rr_stepc {e : Env} {s : State} {a : Addr} {f : JFrame} {r : List Frame} {pc : Nat} {vm' : Vm} (hfind : ∀ (Q : Handler → Pre) (E : CtlPost) (d : Bool) (acts : List Action), wp (findHandler f a) Q E e d acts s ↔ Q (.found pc) d acts (s.setVm vm')) :
    (stepThrowing e s a (.java f :: r)).Is ((s.setVm vm').setFrames (.java { f with pc := pc, stack := [.ref a] } :: r)) [] := by
  simp only [stepThrowing, searchFrame, vmDo]
  generalize hr : Sem.go _ e false [] s = res
  obtain ⟨as, rfl, ha⟩ := Sem.eq_ok_of hr (a := Handler.found pc) (s' := s.setVm vm') (acts' := []) (by simp [hfind _ _ _ _])
  exact ⟨rfl, ha⟩
theorem rr_caught {tb : Tables} {e : Env} {s target : State} {g : JFrame} {c : Code} {below : List Frame} {a : Addr} (h : At s g.method c below) {pc : Nat} {vm' : Vm}
    (hfind : ∀ (Q : Handler → Pre) (E : CtlPost) (d : Bool) (acts : List Action), wp (findHandler g a) Q E e d acts ((s.setTop g).pushFrame (.throwing a)) ↔ Q (.found pc) d acts (((s.setTop g).pushFrame (.throwing a)).setVm vm'))
    (hrest : Steps tb e below ((s.setVm vm').setTop { g with pc := pc, stack := [.ref a] }) target) : Steps tb e below ((s.setTop g).pushFrame (.throwing a)) target := by
  obtain ⟨hgo, hw⟩ := h.throwing a
  refine Steps.head hgo hw ?_
  rw [stepThread_throwing (frames_entered h.top _), (rr_stepc (s := (s.setTop g).pushFrame (.throwing a)) hfind).1]
  obtain ⟨g₀, hg⟩ := Option.isSome_iff_exists.mp h.top
  obtain ⟨r, hr⟩ := State.topJava?_eq_some.mp hg
  have hr' : (s.setVm vm').frames = .java g₀ :: r := hr
  rw [State.setTop_of_frames _ hr'] at hrest
  have e1 : (((s.setTop g).pushFrame (.throwing a)).setVm vm').setFrames (.java { g with pc := pc, stack := [.ref a] } :: s.frames.tail) = (s.setVm vm').setFrames (.java { g with pc := pc, stack := [.ref a] } :: r) := by
    rw [hr, State.pushFrame, State.setTop_of_frames _ hr, State.setFrames_setFrames]
    show ((s.setFrames _).setVm vm').setFrames _ = _
    have e2 : (s.setFrames (Frame.throwing a :: (s.setFrames (Frame.java g :: r)).frames)).setVm vm' = (s.setVm vm').setFrames (Frame.throwing a :: (s.setFrames (Frame.java g :: r)).frames) := rfl
    rw [e2, State.setFrames_setFrames]
    rfl
  rw [e1]
  exact hrest
theorem rr_catch {p : Program} {l : Launch} {e : Env} {R : Room} {s : State} {m : MethodId} {args : Array Value} {below : List Frame} {meth : Method} {c : Code} {H : Heap} {locs : List Loc} {cells slots : Nat} {Q : State → Prop} {pc : Nat} {ls : Array Slot} {rest : List Value}
    {own name : String} {E : String} {ce : Cell} {q : Addr} (hown : s.vm.findClass own = some m.cls) (pre : List ExceptionTableEntry) (x : ExceptionTableEntry) (suf : List ExceptionTableEntry) (hsplit : c.exceptionTable.toList = pre ++ x :: suf)
    (hpass : ∀ z ∈ pre, covers z pc = false ∨ (z.catchType ≠ 0 ∧ ∃ nm : String, (Cond.classLink own z.catchType nm).before args s = true ∧ va_Nc E nm s)) (hx : covers x pc = true) (h0 : x.catchType ≠ 0)
    (hlink : (Cond.classLink own x.catchType name).before args s = true) (hcast : (Cond.castable E name).before args s = true) (hcell : H[q]? = some ce) (hv : ce.vm = .none) (hcl : s.vm.findClass E = some ce.cls)
    (kk : W p l e R s m args below meth c H locs cells slots Q (F0 m x.handlerPc ls [.ref q])) : vx_W p l e R s m args below meth c H locs cells slots Q (F0 m pc ls rest) q := by
  intro T hT X
  have hpl : e.platform.magicAccessors = ({} : Platform).magicAccessors := by rw [X.admits.platform]
  obtain ⟨c3, c4, hc3, hc4, hasg⟩ := Cond.castable_spec hcast
  cases Option.some.inj (hc3.symm.trans hcl)
  obtain ⟨c5, hc5, hcl5⟩ := Cond.classLink_spec hown hlink e.platform hpl
  cases Option.some.inj (hc4.symm.trans hc5)
  obtain ⟨vm', hW', hf⟩ := rr_thr (e := e) (s₀ := s) (f := F0 m pc ls rest) (a := q) (cell := ce) (fun k h => by rw [hv] at h; cases h) (by obtain ⟨k9, h9, -⟩ := Vm.findClass_spec hcl; exact ⟨k9, h9⟩) x suf hx h0 hcl5 hasg pre ((T.setTop (F0 m pc ls rest)).pushFrame (.throwing q)) X.warmed (by show T.heap[q]? = some ce; rw [hT]; exact hcell)
    (fun z hz => by
      rcases hpass z hz with h | ⟨hz0, nm, hl1, hn1⟩
      · exact Or.inl h
      · obtain ⟨c6, hc6, hcl6⟩ := Cond.classLink_spec hown hl1 e.platform hpl
        obtain ⟨a8, b8, h1, h2, h3⟩ := hn1
        cases Option.some.inj (h1.symm.trans hcl)
        cases Option.some.inj (h2.symm.trans hc6)
        exact Or.inr ⟨hz0, _, hcl6, h3⟩)
  have X' := X.noted hW'
  obtain ⟨t, a1, b1⟩ := kk (T.setVm vm') hT X'
  refine ⟨t, rr_caught (g := F0 m pc ls rest) X.here (fun Q E d acts => ?_) a1, b1⟩
  rw [Jvm.W.findHandler_eq (meth := meth) (code := c) X.method' X.code, hsplit]
  exact hf Q E d acts
def NC (U : State) : Prop := va_Nc ISE IAE U ∧ va_Nc NSE IAE U
theorem NC.go {u U : State} (h : NC u) (hW : u.WarmedH U.vm) : NC U := ⟨va_Nc.moved hW.alike h.1, va_Nc.moved hW.alike h.2⟩
theorem NC.vm {u U : State} (h : NC u) (hv : u.vm = U.vm) : NC U := h.go (by rw [← hv]; exact State.WarmedH.refl u)
theorem gdW {own : String} {idx : Nat} {y : MethodName} {w0 : Cond} (h1 : Cond.methodLink own idx y ∈ TS) (h2 : Cond.static y ∈ TS) (h3 : Cond.initialized y.cls ∈ TS) (h4 : w0 ∈ TS) (hg : goodWord w0 = true) : GoodIn TS (va_wsS own idx y [w0]) := by
  intro w hw
  simp only [va_wsS, List.cons_append, List.nil_append, List.mem_cons, List.not_mem_nil, or_false] at hw
  rcases hw with rfl | rfl | rfl | rfl
  · exact ⟨h1, good_of_word rfl⟩
  · exact ⟨h2, good_of_word rfl⟩
  · exact ⟨h3, good_of_word rfl⟩
  · exact ⟨h4, good_of_word hg⟩
theorem TH.other {E : EE} {ty : (Nat → Nat) → Nat → va_E → Prop} {G Gc : Nat → Nat} {H H1 : Heap} (h : TH E ty G [] H) (hd : ∀ a, G a ≠ 0 → Gc a = 0) (hk : ∀ q, q < H.size → ¬ Gc q ≠ 0 → H1[q]? = H[q]?) : TH E ty G [] H1 := fun a ha hx => by
  obtain ⟨e, h1, h2⟩ := h a ha hx
  exact ⟨e, h1, h2.kept (hk a h2.lt (fun q => q (hd a ha)))⟩
end
section
section RRL
variable {p : Program} {l : Launch} {e : Env} {R : Room} {s : State} {m : MethodId} {args : Array Value} {below : List Frame} {meth : Method} {c : Code} {H : Heap} {locs : List Loc} {cells slots : Nat} {Q : State → Prop}
variable {cc : ByteArray} {pc : Nat} {ls : Array Slot} {rest : List Value} {D : va_G} {cl : List vw_C} {A : Nat → Prop} {a : Nat} {tys : List (ClassId × FieldType)} {H0 : Heap}
theorem rr_last (hexec : p.tables.exec = Jvm.exec) (hb : c.code = cc) (hK : va_K D cl tys s) (t0 : Nat) {cA : ClassId} {n : Nat} {f : Nat → Int64} (hat : va_at D cl (a, .inl (cA, n, .inr (.inl f))) H) (hS : va_S A H0 H locs) (hA : A a) (ht : tys[t0]? = some (cA, .long)) {i : Int32} {x : Int64} (hin : vp_in i n) (hdg : decode cc pc = .ok (.lastore, 1))
    (kk : ∀ (H1 : Heap) (locs1 : List Loc), va_at D cl (a, .inl (cA, n, .inr (.inl (vp_updL f i.toNatClampNeg x)))) H1 → (∀ q, q ≠ a → H1[q]? = H[q]?) → H1.size = H.size → va_S A H0 H1 locs1 → W p l e R s m args below meth c H1 locs1 cells slots Q (F0 m (pc + 1) ls rest)) : W p l e R s m args below meth c H locs cells slots Q (F0 m pc ls (.long x :: .int i :: .ref a :: rest)) := by
  refine W.last hexec hb hat ((hK.2 t0 _ ht).1 n (fun j => .long (f j))) (fun q => by cases q) (by show ¬ (i < 0 ∨ (arrV _ _ _).slots.size ≤ _); rw [arrV_size]; exact hin) rfl rfl hdg fun H1 e z oq => ?_
  refine kk H1 _ ?_ oq z (hS.put z oq hA)
  show H1[a]? = some (vp_cell _ _)
  rw [e]
  rw [vp_cell_l, vp_cell_l, arrV_store]
  congr 2
  funext q
  by_cases hq : q = i.toNatClampNeg
  · subst hq
    simp [updV, vp_updL]
  · simp [updV, vp_updL, hq]
theorem lp_c {pc : Nat} (I : Nat → Heap → List Loc → Array Slot → Nat → Nat → Prop) (step : ∀ n H locs ls C S, (∀ k, k < n → ∀ H locs ls C S, I k H locs ls C S → W p l e R s m args below meth c H locs C S Q (F0 m pc ls [])) → I n H locs ls C S → W p l e R s m args below meth c H locs C S Q (F0 m pc ls [])) : ∀ {n : Nat} {H : Heap} {locs : List Loc} {ls : Array Slot} {C S : Nat}, I n H locs ls C S → W p l e R s m args below meth c H locs C S Q (F0 m pc ls []) := by
  have key : ∀ n k, k ≤ n → ∀ H locs ls C S, I k H locs ls C S → W p l e R s m args below meth c H locs C S Q (F0 m pc ls []) := by
    intro n
    induction n with
    | zero => intro k hk H locs ls C S h; exact step k H locs ls C S (fun j hj => absurd hj (by omega)) h
    | succ n ih => intro k hk H locs ls C S h; exact step k H locs ls C S (fun j hj => ih j (by omega)) h
  intro n H locs ls C S h
  exact key n n (Nat.le_refl n) H locs ls C S h
end RRL
theorem zn {G : Nat → Nat} {L : List Nat} {q : Nat} (h : 0 ∉ L) (hq : G q ∈ L) : G q ≠ 0 := fun e => h (by rw [← e]; exact hq)
theorem TH.offo {E : EE} {ty : (Nat → Nat) → Nat → va_E → Prop} {G : Nat → Nat} {H H1 : Heap} {a : Nat} (h : TH E ty G [] H) (h0 : G a = 0) (ho : ∀ q, q ≠ a → H1[q]? = H[q]?) : TH E ty G [] H1 := h.off h0 ho

theorem TX.offo {E : EE} {G : Nat → Nat} {B : AA} {R : RR} {H H1 : Heap} {a : Nat} (h : TX E G B R H) (h0 : G a = 0) (ho : ∀ q, q ≠ a → H1[q]? = H[q]?) : TX E G B R H1 := fun b hb => (h b hb).kept (ho _ (fun e => hb (by rw [show b = a from e]; exact h0)))
theorem TX.other {E : EE} {G G2 : Nat → Nat} {B : AA} {R : RR} {H H1 : Heap} (h : TX E G B R H) (hd : ∀ a, G a ≠ 0 → G2 a = 0) (hk : ∀ q, q < H.size → ¬ (fun q : Nat => G2 q ≠ 0) q → H1[q]? = H[q]?) : TX E G B R H1 := fun b hb => (h b hb).kept (hk _ (h b hb).lt (fun e => e (hd b hb)))
theorem vpu0 {f : Nat → Int64} {x : Int64} : vp_updL f (0 : Int32).toNatClampNeg x 0 = x := by
  have h : (0 : Int32).toNatClampNeg = 0 := by decide
  rw [h]
  simp [vp_updL]
theorem lg_cmp_s (x : Int64) : lg_cmp x x = 0 := by
  unfold lg_cmp
  rw [if_neg (by simp only [gt_iff_lt, Int64.lt_iff_toInt_lt]; omega), if_pos rfl]
theorem RIV.c3 {A : AA} {pk : Int32} (h : RIV A pk) : I2 (A 5) (A 6) ∧ I3 (A 8) ∧ I4 (A 10) (A 20) (A 29) (A 24) (A 11) (A 12) (A 13) ∧ I5 (A 32) (A 33) (A 35) ∧ I6 (A 22) (A 23) (A 24) (A 25) (A 26) ∧ I7 (A 41) (A 42) (A 44) (A 45) (A 46) ∧ I8 (A 20) (A 30) (A 37) (A 36) ∧ 0 ≤ pk.toInt ∧ pk.toInt ≤ 24 := ⟨h.1.1, h.1.2.1, h.1.2.2.1, h.1.2.2.2.1, h.1.2.2.2.2.1, h.1.2.2.2.2.2.1, h.1.2.2.2.2.2.2, h.2⟩

theorem X_En_X9_region {G : Nat → Nat} {B : AA} {R : RR} {h0 : Nat} {p0 p1 p2 p3 p4 : Int32} {En : String} (h : X_X9_region G B R h0 p0 p1 p2 p3 p4 En) : En = IAE := by
  rcases h with ⟨c1, rfl⟩ | ⟨c1, c2, rfl⟩ | ⟨c1, c2, c3, rfl⟩ | ⟨c1, c2, c3, c4, rfl⟩ | ⟨c1, c2, c3, c4, c5, rfl⟩ | ⟨c1, c2, c3, c4, c5, c6, rfl⟩ | ⟨c1, c2, c3, c4, c5, c6, x_15, ex_15, fx_15, c7, rfl⟩
  all_goals first | exact rfl | exact Or.inl rfl | exact Or.inr rfl
theorem X_En_X9_store {G : Nat → Nat} {B : AA} {R : RR} {h0 : Nat} {p0 p1 p2 : Int32} {En : String} (h : X_X9_store G B R h0 p0 p1 p2 En) : En = IAE := by
  rcases h with ⟨c1, rfl⟩ | ⟨c1, c2, rfl⟩
  all_goals first | exact rfl | exact Or.inl rfl | exact Or.inr rfl
theorem X_En_X9_ready {G : Nat → Nat} {B : AA} {R : RR} {h0 : Nat} {p0 p1 p2 : Int32} {En : String} (h : X_X9_ready G B R h0 p0 p1 p2 En) : En = IAE ∨ En = ISE := by
  rcases h with ⟨c1, rfl⟩ | ⟨c1, c2, rfl⟩ | ⟨c1, c2, c3, rfl⟩ | ⟨c1, c2, c3, n_12, hn_12, c4, rfl⟩
  all_goals first | exact rfl | exact Or.inl rfl | exact Or.inr rfl
theorem X_En_X9_send {G : Nat → Nat} {B : AA} {R : RR} {h0 : Nat} {p0 p1 p2 : Int32} {En : String} (h : X_X9_send G B R h0 p0 p1 p2 En) : En = IAE ∨ En = ISE := by
  rcases h with ⟨c1, rfl⟩ | ⟨c1, c2, rfl⟩ | ⟨c1, c2, n_10, hn_10, r_13, htakesRequests, c3, rfl⟩
  all_goals first | exact rfl | exact Or.inl rfl | exact Or.inr rfl
theorem X_En_X9_move {G : Nat → Nat} {B : AA} {R : RR} {h0 : Nat} {p0 p1 p2 p3 p4 p5 : Int32} {En : String} (h : X_X9_move G B R h0 p0 p1 p2 p3 p4 p5 En) : En = IAE ∨ En = ISE := by
  rcases h with ⟨c1, rfl⟩ | ⟨c1, c2, rfl⟩ | ⟨c1, c2, c3, rfl⟩ | ⟨c1, c2, c3, c4, rfl⟩ | ⟨c1, c2, c3, c4, n_14, hn_14, r_17, htakesRequests, c5, rfl⟩
  all_goals first | exact rfl | exact Or.inl rfl | exact Or.inr rfl
theorem X_En_X9_add {G : Nat → Nat} {B : AA} {R : RR} {h0 : Nat} {p0 p1 p2 p3 p4 : Int32} {En : String} (h : X_X9_add G B R h0 p0 p1 p2 p3 p4 En) : En = IAE ∨ En = ISE := by
  rcases h with ⟨c1, rfl⟩ | ⟨c1, c2, rfl⟩ | ⟨c1, c2, c3, rfl⟩ | ⟨c1, c2, c3, c4, rfl⟩ | ⟨c1, c2, c3, c4, n_14, hn_14, r_17, htakesRequests, c5, rfl⟩
  all_goals first | exact rfl | exact Or.inl rfl | exact Or.inr rfl
theorem X_En_X9_receive {G : Nat → Nat} {B : AA} {R : RR} {h0 : Nat} {p0 p1 p2 : Int32} {En : String} (h : X_X9_receive G B R h0 p0 p1 p2 En) : En = IAE ∨ En = ISE := by
  rcases h with ⟨c1, rfl⟩ | ⟨c1, c2, rfl⟩ | ⟨c1, c2, n_10, hn_10, r_13, htakesReceives, c3, rfl⟩
  all_goals first | exact rfl | exact Or.inl rfl | exact Or.inr rfl
theorem X_En_X9_poll {G : Nat → Nat} {B : AA} {R : RR} {h0 : Nat} {p0 p1 : Int32} {En : String} (h : X_X9_poll G B R h0 p0 p1 En) : En = IAE ∨ En = NSE := by
  rcases h with ⟨c1, rfl⟩ | ⟨c1, c2, rfl⟩ | ⟨c1, c2, c3, rfl⟩ | ⟨c1, c2, c3, n_12, hn_12, c4, rfl⟩
  all_goals first | exact rfl | exact Or.inl rfl | exact Or.inr rfl

theorem dL_region_0 : decode cL_region 0 = .ok (.aload_n 0, 1) := by decide +kernel
theorem dL_region_1 : decode cL_region 1 = .ok (.iload_n 1, 1) := by decide +kernel
theorem dL_region_2 : decode cL_region 2 = .ok (.iload_n 2, 1) := by decide +kernel
theorem dL_region_3 : decode cL_region 3 = .ok (.iload_n 3, 1) := by decide +kernel
theorem dL_region_4 : decode cL_region 4 = .ok (.iload 4, 2) := by decide +kernel
theorem dL_region_6 : decode cL_region 6 = .ok (.iload 5, 2) := by decide +kernel
theorem dL_region_8 : decode cL_region 8 = .ok (.invokevirtual 7, 3) := by decide +kernel
theorem dL_region_11 : decode cL_region 11 = .ok (.goto 7, 3) := by decide +kernel
theorem dL_region_14 : decode cL_region 14 = .ok (.astore 6, 2) := by decide +kernel
theorem dL_region_16 : decode cL_region 16 = .ok (.iconst 1, 1) := by decide +kernel
theorem dL_region_17 : decode cL_region 17 = .ok (.ireturn, 1) := by decide +kernel
theorem dL_region_18 : decode cL_region 18 = .ok (.iconst 0, 1) := by decide +kernel
theorem dL_region_19 : decode cL_region 19 = .ok (.ireturn, 1) := by decide +kernel
set_option maxHeartbeats 4000000 in
set_option maxRecDepth 100000 in
theorem w_L_region (l : Launch) (hst : l.stackTraces = false) (E : EE) (z0 : Nat) (G : Nat → Nat) (hGz : ∀ q, G q ≠ 0 → z0 ≤ q) (B : AA) (R : RR) (hW : TW G B R) (h0 : Nat) (p0 p1 p2 p3 p4 : Int32) (hG : G h0 = 1) : Met l yL_region [Cond.codeWith yL_region cL_region 7 (some .int) [(0, 11, 14, 13)]] ({ frames := 8, cells := 2, slots := 12, locals := 126 } : Room) (va_Pc [.ref h0, .int p0, .int p1, .int p2, .int p3, .int p4] (fun U => TX E G B R U.heap ∧ KS E z0 U ∧ NC U)) (va_Qi (fun (r : Int32) (u : AA × Int32) => (r = 0 ∧ TW G u.1 R ∧ Fr G [7] B u.1 ∧ C_X9_region G B R h0 p0 p1 p2 p3 p4 u.1) ∨ (r = 1 ∧ u.1 = B ∧ X_X9_region G B R h0 p0 p1 p2 p3 p4 IAE)) (fun u t => TX E G u.1 R t.heap) (fun q : Nat => G q ∈ ([7] : List Nat))) 2 12 (fun q : Nat => G q ∈ ([7] : List Nat)) := by
  refine va_MetW (cc := cL_region) (maxL := 7) (ret := (some .int)) (hh := [(0, 11, 14, 13)]) (by decide) rfl ?_
  intro p e s m args below meth c s₁ B9 hml hv
  obtain ⟨rfl, hT, hK, hN⟩ := hv
  have hx := B9.exec
  have hb := B9.bytes
  have hr := B9.returns
  have hts : ∀ w ∈ TS, w.before ([.ref h0, .int p0, .int p1, .int p2, .int p3, .int p4] : List Value).toArray s = true := fun w hw => hK.2.1 w hw _
  have hown : s.vm.findClass RL = some m.cls := findClass_of_methodNamed B9.named
  have hlocks := B9.notSynchronized
  have hS : va_S (fun q : Nat => G q ∈ ([7] : List Nat)) s.heap s.heap [] := va_S.rf
  have hAz : ∀ q, (fun q : Nat => G q ∈ ([7] : List Nat)) q → z0 ≤ q := zL hGz (by decide)
  have htab := vx_table (x := yL_region) B9 (hts _ co_L_region)
  have hl := lv_entry ([.ref h0, .int p0, .int p1, .int p2, .int p3, .int p4]) (n := 7) (Nat.le_of_ble_eq_true rfl)
  rw [lg_entry_eq]
  generalize (lg_sl ([.ref h0, .int p0, .int p1, .int p2, .int p3, .int p4]) ++ List.replicate (7 - (lg_sl ([.ref h0, .int p0, .int p1, .int p2, .int p3, .int p4])).length) Slot.unset).toArray = ls at hl ⊢
  have hl : lv_has ls 7 [(0, .ref h0), (1, .int p0), (2, .int p1), (3, .int p2), (4, .int p3), (5, .int p4)] := hl
  refine lv_aload_n hx hb dL_region_0 rfl (lv_at hl 0 rfl) ?_
  refine lv_iload_n hx hb dL_region_1 rfl (lv_at hl 1 rfl) ?_
  refine lv_iload_n hx hb dL_region_2 rfl (lv_at hl 2 rfl) ?_
  refine lv_iload_n hx hb dL_region_3 rfl (lv_at hl 3 rfl) ?_
  refine lv_iload hx hb dL_region_4 (lv_at hl 4 rfl) ?_
  refine lv_iload hx hb dL_region_6 (lv_at hl 5 rfl) ?_
  have hx9 := tx_1 hT hG
  refine vx_callv (rxV (fun H => TX E G B R H) (As := [.int p0, .int p1, .int p2, .int p3, .int p4]) (rest := []) ⟨hx, hb, hml, hown, hts⟩ (x_X9_region l hst E z0 G hGz B R hW h0 p0 p1 p2 p3 p4 hG) (cwV 5 hts (gdV ml_L_7 im_X9_region se_X9_X9_region in_X9 co_X9_region rfl) rfl rfl rfl (by decide +kernel) ⟨Nat.le_of_ble_eq_true rfl, Nat.le_of_ble_eq_true rfl⟩) hT (fun U hU hW => hK.go hW hS hAz hU) (va_recv hK.1 (va_one hx9) (ci := 9) (q0 := 0) rfl rfl) rfl rfl hl.1 rfl (lv_room (Nat.le_of_ble_eq_true rfl)) dL_region_8 ⟨Nat.le_of_ble_eq_true rfl, Nat.le_of_ble_eq_true rfl⟩) hS (fun q _ h => h) (fun q h => h) (fun q _ h => h) (fun En ce q9 _ t H locs ht hvm hw hB hz hk hS hc1 hc2 hc3 => ?_) (fun u t H locs ht hvm hw hB hz hk hS => ?_)
  · clear hw
    rw [ht] at hB
    obtain ⟨hX, hT⟩ := hB
    have hX2 := X_En_X9_region hX
    obtain rfl := hX2
    refine rr_catch (own := RL) (name := IAE) hown [] ⟨0, 11, 14, 13⟩ [] htab (fun z hz => nomatch hz) (by decide) (by decide) (hts _ cl_L_13) (hts _ ca_IllegalArgumentException_IllegalArgumentException) hc1 hc2 hc3 ?_
    refine lv_astore (lv' := [(6, .ref q9), (0, .ref h0), (1, .int p0), (2, .int p1), (3, .int p2), (4, .int p3), (5, .int p4)]) hx hb dL_region_14 hl (by decide) rfl (fun ls hl => ?_)
    refine lv_iconst (v := 1) hx hb dL_region_16 (by decide) ?_
    refine W.widen (k := 2) (n := 12) (Nat.le_of_ble_eq_true rfl) (Nat.le_of_ble_eq_true rfl) ?_
    exact W.iret (v := 1) hx hb hr (fun t ht hW => ⟨⟨1, (B, 0), rfl, Or.inr (⟨rfl, rfl, hX⟩), (by show TX E G B R t.heap; rw [ht]; exact hT)⟩, hS.F ht⟩) hS.2.2 dL_region_17
  · rw [ht] at hB
    have hT : TX E G u R H := hB
    obtain ⟨hW2, hF2, hC⟩ := hw
    refine lv_goto (tgt := 18) hx hb dL_region_11 (by decide) ?_
    refine lv_iconst (v := 0) hx hb dL_region_18 (by decide) ?_
    refine W.widen (k := 2) (n := 12) (Nat.le_of_ble_eq_true rfl) (Nat.le_of_ble_eq_true rfl) ?_
    exact W.iret (v := 0) hx hb hr (fun t ht hW => ⟨⟨0, (u, 0), rfl, Or.inl ⟨rfl, hW2, hF2, hC⟩, (by show TX E G u R t.heap; rw [ht]; exact hT)⟩, hS.F ht⟩) hS.2.2 dL_region_19
theorem dL_store_0 : decode cL_store 0 = .ok (.aload_n 0, 1) := by decide +kernel
theorem dL_store_1 : decode cL_store 1 = .ok (.iload_n 1, 1) := by decide +kernel
theorem dL_store_2 : decode cL_store 2 = .ok (.iload_n 2, 1) := by decide +kernel
theorem dL_store_3 : decode cL_store 3 = .ok (.iload_n 3, 1) := by decide +kernel
theorem dL_store_4 : decode cL_store 4 = .ok (.invokevirtual 15, 3) := by decide +kernel
theorem dL_store_7 : decode cL_store 7 = .ok (.goto 7, 3) := by decide +kernel
theorem dL_store_10 : decode cL_store 10 = .ok (.astore 4, 2) := by decide +kernel
theorem dL_store_12 : decode cL_store 12 = .ok (.iconst 1, 1) := by decide +kernel
theorem dL_store_13 : decode cL_store 13 = .ok (.ireturn, 1) := by decide +kernel
theorem dL_store_14 : decode cL_store 14 = .ok (.iconst 0, 1) := by decide +kernel
theorem dL_store_15 : decode cL_store 15 = .ok (.ireturn, 1) := by decide +kernel
set_option maxHeartbeats 4000000 in
set_option maxRecDepth 100000 in
theorem w_L_store (l : Launch) (hst : l.stackTraces = false) (E : EE) (z0 : Nat) (G : Nat → Nat) (hGz : ∀ q, G q ≠ 0 → z0 ≤ q) (B : AA) (R : RR) (hW : TW G B R) (h0 : Nat) (p0 p1 p2 : Int32) (hG : G h0 = 1) : Met l yL_store [Cond.codeWith yL_store cL_store 5 (some .int) [(0, 7, 10, 13)]] ({ frames := 8, cells := 2, slots := 12, locals := 124 } : Room) (va_Pc [.ref h0, .int p0, .int p1, .int p2] (fun U => TX E G B R U.heap ∧ KS E z0 U ∧ NC U)) (va_Qi (fun (r : Int32) (u : AA × Int32) => (r = 0 ∧ TW G u.1 R ∧ Fr G [14] B u.1 ∧ C_X9_store G B R h0 p0 p1 p2 u.1) ∨ (r = 1 ∧ u.1 = B ∧ X_X9_store G B R h0 p0 p1 p2 IAE)) (fun u t => TX E G u.1 R t.heap) (fun q : Nat => G q ∈ ([14] : List Nat))) 2 12 (fun q : Nat => G q ∈ ([14] : List Nat)) := by
  refine va_MetW (cc := cL_store) (maxL := 5) (ret := (some .int)) (hh := [(0, 7, 10, 13)]) (by decide) rfl ?_
  intro p e s m args below meth c s₁ B9 hml hv
  obtain ⟨rfl, hT, hK, hN⟩ := hv
  have hx := B9.exec
  have hb := B9.bytes
  have hr := B9.returns
  have hts : ∀ w ∈ TS, w.before ([.ref h0, .int p0, .int p1, .int p2] : List Value).toArray s = true := fun w hw => hK.2.1 w hw _
  have hown : s.vm.findClass RL = some m.cls := findClass_of_methodNamed B9.named
  have hlocks := B9.notSynchronized
  have hS : va_S (fun q : Nat => G q ∈ ([14] : List Nat)) s.heap s.heap [] := va_S.rf
  have hAz : ∀ q, (fun q : Nat => G q ∈ ([14] : List Nat)) q → z0 ≤ q := zL hGz (by decide)
  have htab := vx_table (x := yL_store) B9 (hts _ co_L_store)
  have hl := lv_entry ([.ref h0, .int p0, .int p1, .int p2]) (n := 5) (Nat.le_of_ble_eq_true rfl)
  rw [lg_entry_eq]
  generalize (lg_sl ([.ref h0, .int p0, .int p1, .int p2]) ++ List.replicate (5 - (lg_sl ([.ref h0, .int p0, .int p1, .int p2])).length) Slot.unset).toArray = ls at hl ⊢
  have hl : lv_has ls 5 [(0, .ref h0), (1, .int p0), (2, .int p1), (3, .int p2)] := hl
  refine lv_aload_n hx hb dL_store_0 rfl (lv_at hl 0 rfl) ?_
  refine lv_iload_n hx hb dL_store_1 rfl (lv_at hl 1 rfl) ?_
  refine lv_iload_n hx hb dL_store_2 rfl (lv_at hl 2 rfl) ?_
  refine lv_iload_n hx hb dL_store_3 rfl (lv_at hl 3 rfl) ?_
  have hx9 := tx_1 hT hG
  refine vx_callv (rxV (fun H => TX E G B R H) (As := [.int p0, .int p1, .int p2]) (rest := []) ⟨hx, hb, hml, hown, hts⟩ (x_X9_store l hst E z0 G hGz B R hW h0 p0 p1 p2 hG) (cwV 3 hts (gdV ml_L_15 im_X9_store se_X9_X9_store in_X9 co_X9_store rfl) rfl rfl rfl (by decide +kernel) ⟨Nat.le_of_ble_eq_true rfl, Nat.le_of_ble_eq_true rfl⟩) hT (fun U hU hW => hK.go hW hS hAz hU) (va_recv hK.1 (va_one hx9) (ci := 9) (q0 := 0) rfl rfl) rfl rfl hl.1 rfl (lv_room (Nat.le_of_ble_eq_true rfl)) dL_store_4 ⟨Nat.le_of_ble_eq_true rfl, Nat.le_of_ble_eq_true rfl⟩) hS (fun q _ h => h) (fun q h => h) (fun q _ h => h) (fun En ce q9 _ t H locs ht hvm hw hB hz hk hS hc1 hc2 hc3 => ?_) (fun u t H locs ht hvm hw hB hz hk hS => ?_)
  · clear hw
    rw [ht] at hB
    obtain ⟨hX, hT⟩ := hB
    have hX2 := X_En_X9_store hX
    obtain rfl := hX2
    refine rr_catch (own := RL) (name := IAE) hown [] ⟨0, 7, 10, 13⟩ [] htab (fun z hz => nomatch hz) (by decide) (by decide) (hts _ cl_L_13) (hts _ ca_IllegalArgumentException_IllegalArgumentException) hc1 hc2 hc3 ?_
    refine lv_astore (lv' := [(4, .ref q9), (0, .ref h0), (1, .int p0), (2, .int p1), (3, .int p2)]) hx hb dL_store_10 hl (by decide) rfl (fun ls hl => ?_)
    refine lv_iconst (v := 1) hx hb dL_store_12 (by decide) ?_
    refine W.widen (k := 2) (n := 12) (Nat.le_of_ble_eq_true rfl) (Nat.le_of_ble_eq_true rfl) ?_
    exact W.iret (v := 1) hx hb hr (fun t ht hW => ⟨⟨1, (B, 0), rfl, Or.inr (⟨rfl, rfl, hX⟩), (by show TX E G B R t.heap; rw [ht]; exact hT)⟩, hS.F ht⟩) hS.2.2 dL_store_13
  · rw [ht] at hB
    have hT : TX E G u R H := hB
    obtain ⟨hW2, hF2, hC⟩ := hw
    refine lv_goto (tgt := 14) hx hb dL_store_7 (by decide) ?_
    refine lv_iconst (v := 0) hx hb dL_store_14 (by decide) ?_
    refine W.widen (k := 2) (n := 12) (Nat.le_of_ble_eq_true rfl) (Nat.le_of_ble_eq_true rfl) ?_
    exact W.iret (v := 0) hx hb hr (fun t ht hW => ⟨⟨0, (u, 0), rfl, Or.inl ⟨rfl, hW2, hF2, hC⟩, (by show TX E G u R t.heap; rw [ht]; exact hT)⟩, hS.F ht⟩) hS.2.2 dL_store_15
theorem dL_ready_0 : decode cL_ready 0 = .ok (.aload_n 0, 1) := by decide +kernel
theorem dL_ready_1 : decode cL_ready 1 = .ok (.iload_n 1, 1) := by decide +kernel
theorem dL_ready_2 : decode cL_ready 2 = .ok (.iload_n 2, 1) := by decide +kernel
theorem dL_ready_3 : decode cL_ready 3 = .ok (.iload_n 3, 1) := by decide +kernel
theorem dL_ready_4 : decode cL_ready 4 = .ok (.invokevirtual 19, 3) := by decide +kernel
theorem dL_ready_7 : decode cL_ready 7 = .ok (.goto 11, 3) := by decide +kernel
theorem dL_ready_10 : decode cL_ready 10 = .ok (.astore 4, 2) := by decide +kernel
theorem dL_ready_12 : decode cL_ready 12 = .ok (.iconst 1, 1) := by decide +kernel
theorem dL_ready_13 : decode cL_ready 13 = .ok (.ireturn, 1) := by decide +kernel
theorem dL_ready_14 : decode cL_ready 14 = .ok (.astore 4, 2) := by decide +kernel
theorem dL_ready_16 : decode cL_ready 16 = .ok (.iconst 2, 1) := by decide +kernel
theorem dL_ready_17 : decode cL_ready 17 = .ok (.ireturn, 1) := by decide +kernel
theorem dL_ready_18 : decode cL_ready 18 = .ok (.iconst 0, 1) := by decide +kernel
theorem dL_ready_19 : decode cL_ready 19 = .ok (.ireturn, 1) := by decide +kernel
set_option maxHeartbeats 4000000 in
set_option maxRecDepth 100000 in
theorem w_L_ready (l : Launch) (hst : l.stackTraces = false) (E : EE) (z0 : Nat) (G : Nat → Nat) (hGz : ∀ q, G q ≠ 0 → z0 ≤ q) (B : AA) (R : RR) (hW : TW G B R) (h0 : Nat) (p0 p1 p2 : Int32) (hG : G h0 = 1) : Met l yL_ready [Cond.codeWith yL_ready cL_ready 5 (some .int) [(0, 7, 10, 13), (0, 7, 14, 22)]] ({ frames := 8, cells := 2, slots := 12, locals := 124 } : Room) (va_Pc [.ref h0, .int p0, .int p1, .int p2] (fun U => TX E G B R U.heap ∧ KS E z0 U ∧ NC U)) (va_Qi (fun (r : Int32) (u : AA × Int32) => (r = 0 ∧ TW G u.1 R ∧ Fr G [8, 9, 10] B u.1 ∧ C_X9_ready G B R h0 p0 p1 p2 u.1) ∨ (r = 1 ∧ u.1 = B ∧ X_X9_ready G B R h0 p0 p1 p2 IAE) ∨ (r = 2 ∧ u.1 = B ∧ X_X9_ready G B R h0 p0 p1 p2 ISE)) (fun u t => TX E G u.1 R t.heap) (fun q : Nat => G q ∈ ([8, 9, 10] : List Nat))) 2 12 (fun q : Nat => G q ∈ ([8, 9, 10] : List Nat)) := by
  refine va_MetW (cc := cL_ready) (maxL := 5) (ret := (some .int)) (hh := [(0, 7, 10, 13), (0, 7, 14, 22)]) (by decide) rfl ?_
  intro p e s m args below meth c s₁ B9 hml hv
  obtain ⟨rfl, hT, hK, hN⟩ := hv
  have hx := B9.exec
  have hb := B9.bytes
  have hr := B9.returns
  have hts : ∀ w ∈ TS, w.before ([.ref h0, .int p0, .int p1, .int p2] : List Value).toArray s = true := fun w hw => hK.2.1 w hw _
  have hown : s.vm.findClass RL = some m.cls := findClass_of_methodNamed B9.named
  have hlocks := B9.notSynchronized
  have hS : va_S (fun q : Nat => G q ∈ ([8, 9, 10] : List Nat)) s.heap s.heap [] := va_S.rf
  have hAz : ∀ q, (fun q : Nat => G q ∈ ([8, 9, 10] : List Nat)) q → z0 ≤ q := zL hGz (by decide)
  have htab := vx_table (x := yL_ready) B9 (hts _ co_L_ready)
  have hl := lv_entry ([.ref h0, .int p0, .int p1, .int p2]) (n := 5) (Nat.le_of_ble_eq_true rfl)
  rw [lg_entry_eq]
  generalize (lg_sl ([.ref h0, .int p0, .int p1, .int p2]) ++ List.replicate (5 - (lg_sl ([.ref h0, .int p0, .int p1, .int p2])).length) Slot.unset).toArray = ls at hl ⊢
  have hl : lv_has ls 5 [(0, .ref h0), (1, .int p0), (2, .int p1), (3, .int p2)] := hl
  refine lv_aload_n hx hb dL_ready_0 rfl (lv_at hl 0 rfl) ?_
  refine lv_iload_n hx hb dL_ready_1 rfl (lv_at hl 1 rfl) ?_
  refine lv_iload_n hx hb dL_ready_2 rfl (lv_at hl 2 rfl) ?_
  refine lv_iload_n hx hb dL_ready_3 rfl (lv_at hl 3 rfl) ?_
  have hx9 := tx_1 hT hG
  refine vx_callv (rxV (fun H => TX E G B R H) (As := [.int p0, .int p1, .int p2]) (rest := []) ⟨hx, hb, hml, hown, hts⟩ (x_X9_ready l hst E z0 G hGz B R hW h0 p0 p1 p2 hG) (cwV 3 hts (gdV ml_L_19 im_X9_ready se_X9_X9_ready in_X9 co_X9_ready rfl) rfl rfl rfl (by decide +kernel) ⟨Nat.le_of_ble_eq_true rfl, Nat.le_of_ble_eq_true rfl⟩) hT (fun U hU hW => hK.go hW hS hAz hU) (va_recv hK.1 (va_one hx9) (ci := 9) (q0 := 0) rfl rfl) rfl rfl hl.1 rfl (lv_room (Nat.le_of_ble_eq_true rfl)) dL_ready_4 ⟨Nat.le_of_ble_eq_true rfl, Nat.le_of_ble_eq_true rfl⟩) hS (fun q _ h => h) (fun q h => h) (fun q _ h => h) (fun En ce q9 _ t H locs ht hvm hw hB hz hk hS hc1 hc2 hc3 => ?_) (fun u t H locs ht hvm hw hB hz hk hS => ?_)
  · clear hw
    rw [ht] at hB
    obtain ⟨hX, hT⟩ := hB
    have hX2 := X_En_X9_ready hX
    rcases hX2 with rfl | rfl
    · refine rr_catch (own := RL) (name := IAE) hown [] ⟨0, 7, 10, 13⟩ [⟨0, 7, 14, 22⟩] htab (fun z hz => nomatch hz) (by decide) (by decide) (hts _ cl_L_13) (hts _ ca_IllegalArgumentException_IllegalArgumentException) hc1 hc2 hc3 ?_
      refine lv_astore (lv' := [(4, .ref q9), (0, .ref h0), (1, .int p0), (2, .int p1), (3, .int p2)]) hx hb dL_ready_10 hl (by decide) rfl (fun ls hl => ?_)
      refine lv_iconst (v := 1) hx hb dL_ready_12 (by decide) ?_
      refine W.widen (k := 2) (n := 12) (Nat.le_of_ble_eq_true rfl) (Nat.le_of_ble_eq_true rfl) ?_
      exact W.iret (v := 1) hx hb hr (fun t ht hW => ⟨⟨1, (B, 0), rfl, Or.inr (Or.inl ⟨rfl, rfl, hX⟩), (by show TX E G B R t.heap; rw [ht]; exact hT)⟩, hS.F ht⟩) hS.2.2 dL_ready_13
    · refine rr_catch (own := RL) (name := ISE) hown [⟨0, 7, 10, 13⟩] ⟨0, 7, 14, 22⟩ [] htab (fun z hz => by rw [List.mem_singleton] at hz; subst hz; exact Or.inr ⟨by decide, IAE, hts _ cl_L_13, hN.1⟩) (by decide) (by decide) (hts _ cl_L_22) (hts _ ca_IllegalStateException_IllegalStateException) hc1 hc2 hc3 ?_
      refine lv_astore (lv' := [(4, .ref q9), (0, .ref h0), (1, .int p0), (2, .int p1), (3, .int p2)]) hx hb dL_ready_14 hl (by decide) rfl (fun ls hl => ?_)
      refine lv_iconst (v := 2) hx hb dL_ready_16 (by decide) ?_
      refine W.widen (k := 2) (n := 12) (Nat.le_of_ble_eq_true rfl) (Nat.le_of_ble_eq_true rfl) ?_
      exact W.iret (v := 2) hx hb hr (fun t ht hW => ⟨⟨2, (B, 0), rfl, Or.inr (Or.inr ⟨rfl, rfl, hX⟩), (by show TX E G B R t.heap; rw [ht]; exact hT)⟩, hS.F ht⟩) hS.2.2 dL_ready_17
  · rw [ht] at hB
    have hT : TX E G u R H := hB
    obtain ⟨hW2, hF2, hC⟩ := hw
    refine lv_goto (tgt := 18) hx hb dL_ready_7 (by decide) ?_
    refine lv_iconst (v := 0) hx hb dL_ready_18 (by decide) ?_
    refine W.widen (k := 2) (n := 12) (Nat.le_of_ble_eq_true rfl) (Nat.le_of_ble_eq_true rfl) ?_
    exact W.iret (v := 0) hx hb hr (fun t ht hW => ⟨⟨0, (u, 0), rfl, Or.inl ⟨rfl, hW2, hF2, hC⟩, (by show TX E G u R t.heap; rw [ht]; exact hT)⟩, hS.F ht⟩) hS.2.2 dL_ready_19
theorem dL_send_0 : decode cL_send 0 = .ok (.aload 4, 2) := by decide +kernel
theorem dL_send_2 : decode cL_send 2 = .ok (.iconst 0, 1) := by decide +kernel
theorem dL_send_3 : decode cL_send 3 = .ok (.aload_n 0, 1) := by decide +kernel
theorem dL_send_4 : decode cL_send 4 = .ok (.iload_n 1, 1) := by decide +kernel
theorem dL_send_5 : decode cL_send 5 = .ok (.iload_n 2, 1) := by decide +kernel
theorem dL_send_6 : decode cL_send 6 = .ok (.iload_n 3, 1) := by decide +kernel
theorem dL_send_7 : decode cL_send 7 = .ok (.invokevirtual 24, 3) := by decide +kernel
theorem dL_send_10 : decode cL_send 10 = .ok (.i2l, 1) := by decide +kernel
theorem dL_send_11 : decode cL_send 11 = .ok (.lastore, 1) := by decide +kernel
theorem dL_send_12 : decode cL_send 12 = .ok (.goto 11, 3) := by decide +kernel
theorem dL_send_15 : decode cL_send 15 = .ok (.astore 5, 2) := by decide +kernel
theorem dL_send_17 : decode cL_send 17 = .ok (.iconst 1, 1) := by decide +kernel
theorem dL_send_18 : decode cL_send 18 = .ok (.ireturn, 1) := by decide +kernel
theorem dL_send_19 : decode cL_send 19 = .ok (.astore 5, 2) := by decide +kernel
theorem dL_send_21 : decode cL_send 21 = .ok (.iconst 2, 1) := by decide +kernel
theorem dL_send_22 : decode cL_send 22 = .ok (.ireturn, 1) := by decide +kernel
theorem dL_send_23 : decode cL_send 23 = .ok (.iconst 0, 1) := by decide +kernel
theorem dL_send_24 : decode cL_send 24 = .ok (.ireturn, 1) := by decide +kernel
set_option maxHeartbeats 4000000 in
set_option maxRecDepth 100000 in
theorem w_L_send (l : Launch) (hst : l.stackTraces = false) (E : EE) (z0 : Nat) (G : Nat → Nat) (hGz : ∀ q, G q ≠ 0 → z0 ≤ q) (B : AA) (R : RR) (hW : TW G B R) (h0 : Nat) (p0 p1 p2 : Int32) (o0 : Nat) (hG : G h0 = 1) (hGo : G o0 = 0) (hoz : z0 ≤ o0) : Met l yL_send [Cond.codeWith yL_send cL_send 6 (some .int) [(0, 12, 15, 13), (0, 12, 19, 22)]] ({ frames := 8, cells := 2, slots := 12, locals := 124 } : Room) (va_Pc [.ref h0, .int p0, .int p1, .int p2, .ref o0] (fun U => (TX E G B R U.heap ∧ ∃ fo : Nat → Int64, va_at (DG E) vwCl (o0, .inl (E.2.2 2, 1, .inr (.inl fo))) U.heap) ∧ KS E z0 U ∧ NC U)) (va_Qi (fun (r : Int32) (u : AA × Int32 × Int64) => (r = 0 ∧ TW G u.1 R ∧ Fr G [9, 11, 13] B u.1 ∧ C_X9_send G B R h0 p0 p1 p2 u.1 u.2.1 ∧ u.2.2 = u.2.1.toInt64) ∨ (r = 1 ∧ u.1 = B ∧ X_X9_send G B R h0 p0 p1 p2 IAE) ∨ (r = 2 ∧ u.1 = B ∧ X_X9_send G B R h0 p0 p1 p2 ISE)) (fun u t => TX E G u.1 R t.heap ∧ ∃ fo : Nat → Int64, fo 0 = u.2.2 ∧ va_at (DG E) vwCl (o0, .inl (E.2.2 2, 1, .inr (.inl fo))) t.heap) (fun q : Nat => G q ∈ ([9, 11, 13] : List Nat) ∨ q = o0)) 2 12 (fun q : Nat => G q ∈ ([9, 11, 13] : List Nat) ∨ q = o0) := by
  refine va_MetW (cc := cL_send) (maxL := 6) (ret := (some .int)) (hh := [(0, 12, 15, 13), (0, 12, 19, 22)]) (by decide) rfl ?_
  intro p e s m args below meth c s₁ B9 hml hv
  obtain ⟨rfl, ⟨hT, fo, hro⟩, hK, hN⟩ := hv
  have hx := B9.exec
  have hb := B9.bytes
  have hr := B9.returns
  have hts : ∀ w ∈ TS, w.before ([.ref h0, .int p0, .int p1, .int p2, .ref o0] : List Value).toArray s = true := fun w hw => hK.2.1 w hw _
  have hown : s.vm.findClass RL = some m.cls := findClass_of_methodNamed B9.named
  have hlocks := B9.notSynchronized
  have hS : va_S (fun q : Nat => G q ∈ ([9, 11, 13] : List Nat) ∨ q = o0) s.heap s.heap [] := va_S.rf
  have hAz : ∀ q, (fun q : Nat => G q ∈ ([9, 11, 13] : List Nat) ∨ q = o0) q → z0 ≤ q := fun q h => h.elim (zL hGz (by decide) q) (fun e => by rw [e]; exact hoz)
  have htab := vx_table (x := yL_send) B9 (hts _ co_L_send)
  have hl := lv_entry ([.ref h0, .int p0, .int p1, .int p2, .ref o0]) (n := 6) (Nat.le_of_ble_eq_true rfl)
  rw [lg_entry_eq]
  generalize (lg_sl ([.ref h0, .int p0, .int p1, .int p2, .ref o0]) ++ List.replicate (6 - (lg_sl ([.ref h0, .int p0, .int p1, .int p2, .ref o0])).length) Slot.unset).toArray = ls at hl ⊢
  have hl : lv_has ls 6 [(0, .ref h0), (1, .int p0), (2, .int p1), (3, .int p2), (4, .ref o0)] := hl
  refine lv_aload hx hb dL_send_0 (lv_at hl 4 rfl) ?_
  refine lv_iconst (v := 0) hx hb dL_send_2 (by decide) ?_
  refine lv_aload_n hx hb dL_send_3 rfl (lv_at hl 0 rfl) ?_
  refine lv_iload_n hx hb dL_send_4 rfl (lv_at hl 1 rfl) ?_
  refine lv_iload_n hx hb dL_send_5 rfl (lv_at hl 2 rfl) ?_
  refine lv_iload_n hx hb dL_send_6 rfl (lv_at hl 3 rfl) ?_
  have hx9 := tx_1 hT hG
  refine vx_calli (rxV (fun H => TX E G B R H) (As := [.int p0, .int p1, .int p2]) (rest := [.int 0, .ref o0]) ⟨hx, hb, hml, hown, hts⟩ (x_X9_send l hst E z0 G hGz B R hW h0 p0 p1 p2 hG) (cwV 3 hts (gdV ml_L_24 im_X9_send se_X9_X9_send in_X9 co_X9_send rfl) rfl rfl rfl (by decide +kernel) ⟨Nat.le_of_ble_eq_true rfl, Nat.le_of_ble_eq_true rfl⟩) hT (fun U hU hW => hK.go hW hS hAz hU) (va_recv hK.1 (va_one hx9) (ci := 9) (q0 := 0) rfl rfl) rfl rfl hl.1 rfl (lv_room (Nat.le_of_ble_eq_true rfl)) dL_send_7 ⟨Nat.le_of_ble_eq_true rfl, Nat.le_of_ble_eq_true rfl⟩) hS (fun q _ h => Or.inl h) (fun q h => Or.inl h) (fun q _ h => Or.inl h) (fun En ce q9 _ t H locs ht hvm hw hB hz hk hS hc1 hc2 hc3 => ?_) (fun r u t H locs ht hvm hw hB hz hk hS => ?_)
  · clear hw
    rw [ht] at hB
    obtain ⟨hX, hT⟩ := hB
    have hro := hro.kept (hk _ hro.lt (fun h => zn (L := [9, 11, 13]) (by decide) h hGo))
    have hX2 := X_En_X9_send hX
    rcases hX2 with rfl | rfl
    · refine rr_catch (own := RL) (name := IAE) hown [] ⟨0, 12, 15, 13⟩ [⟨0, 12, 19, 22⟩] htab (fun z hz => nomatch hz) (by decide) (by decide) (hts _ cl_L_13) (hts _ ca_IllegalArgumentException_IllegalArgumentException) hc1 hc2 hc3 ?_
      refine lv_astore (lv' := [(5, .ref q9), (0, .ref h0), (1, .int p0), (2, .int p1), (3, .int p2), (4, .ref o0)]) hx hb dL_send_15 hl (by decide) rfl (fun ls hl => ?_)
      refine lv_iconst (v := 1) hx hb dL_send_17 (by decide) ?_
      refine W.widen (k := 2) (n := 12) (Nat.le_of_ble_eq_true rfl) (Nat.le_of_ble_eq_true rfl) ?_
      exact W.iret (v := 1) hx hb hr (fun t ht hW => ⟨⟨1, (B, 0, fo 0), rfl, Or.inr (Or.inl ⟨rfl, rfl, hX⟩), ⟨(by show TX E G B R t.heap; rw [ht]; exact hT), _, rfl, (by rw [ht]; exact hro)⟩⟩, hS.F ht⟩) hS.2.2 dL_send_18
    · refine rr_catch (own := RL) (name := ISE) hown [⟨0, 12, 15, 13⟩] ⟨0, 12, 19, 22⟩ [] htab (fun z hz => by rw [List.mem_singleton] at hz; subst hz; exact Or.inr ⟨by decide, IAE, hts _ cl_L_13, hN.1⟩) (by decide) (by decide) (hts _ cl_L_22) (hts _ ca_IllegalStateException_IllegalStateException) hc1 hc2 hc3 ?_
      refine lv_astore (lv' := [(5, .ref q9), (0, .ref h0), (1, .int p0), (2, .int p1), (3, .int p2), (4, .ref o0)]) hx hb dL_send_19 hl (by decide) rfl (fun ls hl => ?_)
      refine lv_iconst (v := 2) hx hb dL_send_21 (by decide) ?_
      refine W.widen (k := 2) (n := 12) (Nat.le_of_ble_eq_true rfl) (Nat.le_of_ble_eq_true rfl) ?_
      exact W.iret (v := 2) hx hb hr (fun t ht hW => ⟨⟨2, (B, 0, fo 0), rfl, Or.inr (Or.inr ⟨rfl, rfl, hX⟩), ⟨(by show TX E G B R t.heap; rw [ht]; exact hT), _, rfl, (by rw [ht]; exact hro)⟩⟩, hS.F ht⟩) hS.2.2 dL_send_22
  · rw [ht] at hB
    have hT : TX E G u R H := hB
    obtain ⟨hW2, hF2, hC⟩ := hw
    have hro := hro.kept (hk _ hro.lt (fun h => zn (L := [9, 11, 13]) (by decide) h hGo))
    refine lv_i2l hx hb dL_send_10 rfl ?_
    refine rr_last (D := DG E) hx hb hK.1 2 hro hS (Or.inr rfl) rfl (show vp_in (0) 1 from vp_in_iff.mpr ⟨by decide, by decide⟩) dL_send_11 (fun H locs hro ho hz hS => ?_)
    have hT : TX E G u R H := hT.offo hGo ho
    refine lv_goto (tgt := 23) hx hb dL_send_12 (by decide) ?_
    refine lv_iconst (v := 0) hx hb dL_send_23 (by decide) ?_
    refine W.widen (k := 2) (n := 12) (Nat.le_of_ble_eq_true rfl) (Nat.le_of_ble_eq_true rfl) ?_
    exact W.iret (v := 0) hx hb hr (fun t ht hW => ⟨⟨0, (u, r, r.toInt64), rfl, Or.inl ⟨rfl, hW2, hF2, hC, rfl⟩, ⟨(by show TX E G u R t.heap; rw [ht]; exact hT), _, vpu0, (by rw [ht]; exact hro)⟩⟩, hS.F ht⟩) hS.2.2 dL_send_24
theorem dL_move_0 : decode cL_move 0 = .ok (.aload 7, 2) := by decide +kernel
theorem dL_move_2 : decode cL_move 2 = .ok (.iconst 0, 1) := by decide +kernel
theorem dL_move_3 : decode cL_move 3 = .ok (.aload_n 0, 1) := by decide +kernel
theorem dL_move_4 : decode cL_move 4 = .ok (.iload_n 1, 1) := by decide +kernel
theorem dL_move_5 : decode cL_move 5 = .ok (.iload_n 2, 1) := by decide +kernel
theorem dL_move_6 : decode cL_move 6 = .ok (.iload_n 3, 1) := by decide +kernel
theorem dL_move_7 : decode cL_move 7 = .ok (.iload 4, 2) := by decide +kernel
theorem dL_move_9 : decode cL_move 9 = .ok (.iload 5, 2) := by decide +kernel
theorem dL_move_11 : decode cL_move 11 = .ok (.iload 6, 2) := by decide +kernel
theorem dL_move_13 : decode cL_move 13 = .ok (.invokevirtual 28, 3) := by decide +kernel
theorem dL_move_16 : decode cL_move 16 = .ok (.i2l, 1) := by decide +kernel
theorem dL_move_17 : decode cL_move 17 = .ok (.lastore, 1) := by decide +kernel
theorem dL_move_18 : decode cL_move 18 = .ok (.goto 11, 3) := by decide +kernel
theorem dL_move_21 : decode cL_move 21 = .ok (.astore 8, 2) := by decide +kernel
theorem dL_move_23 : decode cL_move 23 = .ok (.iconst 1, 1) := by decide +kernel
theorem dL_move_24 : decode cL_move 24 = .ok (.ireturn, 1) := by decide +kernel
theorem dL_move_25 : decode cL_move 25 = .ok (.astore 8, 2) := by decide +kernel
theorem dL_move_27 : decode cL_move 27 = .ok (.iconst 2, 1) := by decide +kernel
theorem dL_move_28 : decode cL_move 28 = .ok (.ireturn, 1) := by decide +kernel
theorem dL_move_29 : decode cL_move 29 = .ok (.iconst 0, 1) := by decide +kernel
theorem dL_move_30 : decode cL_move 30 = .ok (.ireturn, 1) := by decide +kernel
set_option maxHeartbeats 4000000 in
set_option maxRecDepth 100000 in
theorem w_L_move (l : Launch) (hst : l.stackTraces = false) (E : EE) (z0 : Nat) (G : Nat → Nat) (hGz : ∀ q, G q ≠ 0 → z0 ≤ q) (B : AA) (R : RR) (hW : TW G B R) (h0 : Nat) (p0 p1 p2 p3 p4 p5 : Int32) (o0 : Nat) (hG : G h0 = 1) (hGo : G o0 = 0) (hoz : z0 ≤ o0) : Met l yL_move [Cond.codeWith yL_move cL_move 9 (some .int) [(0, 18, 21, 13), (0, 18, 25, 22)]] ({ frames := 8, cells := 2, slots := 12, locals := 127 } : Room) (va_Pc [.ref h0, .int p0, .int p1, .int p2, .int p3, .int p4, .int p5, .ref o0] (fun U => (TX E G B R U.heap ∧ ∃ fo : Nat → Int64, va_at (DG E) vwCl (o0, .inl (E.2.2 2, 1, .inr (.inl fo))) U.heap) ∧ KS E z0 U ∧ NC U)) (va_Qi (fun (r : Int32) (u : AA × Int32 × Int64) => (r = 0 ∧ TW G u.1 R ∧ Fr G [9, 11, 13] B u.1 ∧ C_X9_move G B R h0 p0 p1 p2 p3 p4 p5 u.1 u.2.1 ∧ u.2.2 = u.2.1.toInt64) ∨ (r = 1 ∧ u.1 = B ∧ X_X9_move G B R h0 p0 p1 p2 p3 p4 p5 IAE) ∨ (r = 2 ∧ u.1 = B ∧ X_X9_move G B R h0 p0 p1 p2 p3 p4 p5 ISE)) (fun u t => TX E G u.1 R t.heap ∧ ∃ fo : Nat → Int64, fo 0 = u.2.2 ∧ va_at (DG E) vwCl (o0, .inl (E.2.2 2, 1, .inr (.inl fo))) t.heap) (fun q : Nat => G q ∈ ([9, 11, 13] : List Nat) ∨ q = o0)) 2 12 (fun q : Nat => G q ∈ ([9, 11, 13] : List Nat) ∨ q = o0) := by
  refine va_MetW (cc := cL_move) (maxL := 9) (ret := (some .int)) (hh := [(0, 18, 21, 13), (0, 18, 25, 22)]) (by decide) rfl ?_
  intro p e s m args below meth c s₁ B9 hml hv
  obtain ⟨rfl, ⟨hT, fo, hro⟩, hK, hN⟩ := hv
  have hx := B9.exec
  have hb := B9.bytes
  have hr := B9.returns
  have hts : ∀ w ∈ TS, w.before ([.ref h0, .int p0, .int p1, .int p2, .int p3, .int p4, .int p5, .ref o0] : List Value).toArray s = true := fun w hw => hK.2.1 w hw _
  have hown : s.vm.findClass RL = some m.cls := findClass_of_methodNamed B9.named
  have hlocks := B9.notSynchronized
  have hS : va_S (fun q : Nat => G q ∈ ([9, 11, 13] : List Nat) ∨ q = o0) s.heap s.heap [] := va_S.rf
  have hAz : ∀ q, (fun q : Nat => G q ∈ ([9, 11, 13] : List Nat) ∨ q = o0) q → z0 ≤ q := fun q h => h.elim (zL hGz (by decide) q) (fun e => by rw [e]; exact hoz)
  have htab := vx_table (x := yL_move) B9 (hts _ co_L_move)
  have hl := lv_entry ([.ref h0, .int p0, .int p1, .int p2, .int p3, .int p4, .int p5, .ref o0]) (n := 9) (Nat.le_of_ble_eq_true rfl)
  rw [lg_entry_eq]
  generalize (lg_sl ([.ref h0, .int p0, .int p1, .int p2, .int p3, .int p4, .int p5, .ref o0]) ++ List.replicate (9 - (lg_sl ([.ref h0, .int p0, .int p1, .int p2, .int p3, .int p4, .int p5, .ref o0])).length) Slot.unset).toArray = ls at hl ⊢
  have hl : lv_has ls 9 [(0, .ref h0), (1, .int p0), (2, .int p1), (3, .int p2), (4, .int p3), (5, .int p4), (6, .int p5), (7, .ref o0)] := hl
  refine lv_aload hx hb dL_move_0 (lv_at hl 7 rfl) ?_
  refine lv_iconst (v := 0) hx hb dL_move_2 (by decide) ?_
  refine lv_aload_n hx hb dL_move_3 rfl (lv_at hl 0 rfl) ?_
  refine lv_iload_n hx hb dL_move_4 rfl (lv_at hl 1 rfl) ?_
  refine lv_iload_n hx hb dL_move_5 rfl (lv_at hl 2 rfl) ?_
  refine lv_iload_n hx hb dL_move_6 rfl (lv_at hl 3 rfl) ?_
  refine lv_iload hx hb dL_move_7 (lv_at hl 4 rfl) ?_
  refine lv_iload hx hb dL_move_9 (lv_at hl 5 rfl) ?_
  refine lv_iload hx hb dL_move_11 (lv_at hl 6 rfl) ?_
  have hx9 := tx_1 hT hG
  refine vx_calli (rxV (fun H => TX E G B R H) (As := [.int p0, .int p1, .int p2, .int p3, .int p4, .int p5]) (rest := [.int 0, .ref o0]) ⟨hx, hb, hml, hown, hts⟩ (x_X9_move l hst E z0 G hGz B R hW h0 p0 p1 p2 p3 p4 p5 hG) (cwV 6 hts (gdV ml_L_28 im_X9_move se_X9_X9_move in_X9 co_X9_move rfl) rfl rfl rfl (by decide +kernel) ⟨Nat.le_of_ble_eq_true rfl, Nat.le_of_ble_eq_true rfl⟩) hT (fun U hU hW => hK.go hW hS hAz hU) (va_recv hK.1 (va_one hx9) (ci := 9) (q0 := 0) rfl rfl) rfl rfl hl.1 rfl (lv_room (Nat.le_of_ble_eq_true rfl)) dL_move_13 ⟨Nat.le_of_ble_eq_true rfl, Nat.le_of_ble_eq_true rfl⟩) hS (fun q _ h => Or.inl h) (fun q h => Or.inl h) (fun q _ h => Or.inl h) (fun En ce q9 _ t H locs ht hvm hw hB hz hk hS hc1 hc2 hc3 => ?_) (fun r u t H locs ht hvm hw hB hz hk hS => ?_)
  · clear hw
    rw [ht] at hB
    obtain ⟨hX, hT⟩ := hB
    have hro := hro.kept (hk _ hro.lt (fun h => zn (L := [9, 11, 13]) (by decide) h hGo))
    have hX2 := X_En_X9_move hX
    rcases hX2 with rfl | rfl
    · refine rr_catch (own := RL) (name := IAE) hown [] ⟨0, 18, 21, 13⟩ [⟨0, 18, 25, 22⟩] htab (fun z hz => nomatch hz) (by decide) (by decide) (hts _ cl_L_13) (hts _ ca_IllegalArgumentException_IllegalArgumentException) hc1 hc2 hc3 ?_
      refine lv_astore (lv' := [(8, .ref q9), (0, .ref h0), (1, .int p0), (2, .int p1), (3, .int p2), (4, .int p3), (5, .int p4), (6, .int p5), (7, .ref o0)]) hx hb dL_move_21 hl (by decide) rfl (fun ls hl => ?_)
      refine lv_iconst (v := 1) hx hb dL_move_23 (by decide) ?_
      refine W.widen (k := 2) (n := 12) (Nat.le_of_ble_eq_true rfl) (Nat.le_of_ble_eq_true rfl) ?_
      exact W.iret (v := 1) hx hb hr (fun t ht hW => ⟨⟨1, (B, 0, fo 0), rfl, Or.inr (Or.inl ⟨rfl, rfl, hX⟩), ⟨(by show TX E G B R t.heap; rw [ht]; exact hT), _, rfl, (by rw [ht]; exact hro)⟩⟩, hS.F ht⟩) hS.2.2 dL_move_24
    · refine rr_catch (own := RL) (name := ISE) hown [⟨0, 18, 21, 13⟩] ⟨0, 18, 25, 22⟩ [] htab (fun z hz => by rw [List.mem_singleton] at hz; subst hz; exact Or.inr ⟨by decide, IAE, hts _ cl_L_13, hN.1⟩) (by decide) (by decide) (hts _ cl_L_22) (hts _ ca_IllegalStateException_IllegalStateException) hc1 hc2 hc3 ?_
      refine lv_astore (lv' := [(8, .ref q9), (0, .ref h0), (1, .int p0), (2, .int p1), (3, .int p2), (4, .int p3), (5, .int p4), (6, .int p5), (7, .ref o0)]) hx hb dL_move_25 hl (by decide) rfl (fun ls hl => ?_)
      refine lv_iconst (v := 2) hx hb dL_move_27 (by decide) ?_
      refine W.widen (k := 2) (n := 12) (Nat.le_of_ble_eq_true rfl) (Nat.le_of_ble_eq_true rfl) ?_
      exact W.iret (v := 2) hx hb hr (fun t ht hW => ⟨⟨2, (B, 0, fo 0), rfl, Or.inr (Or.inr ⟨rfl, rfl, hX⟩), ⟨(by show TX E G B R t.heap; rw [ht]; exact hT), _, rfl, (by rw [ht]; exact hro)⟩⟩, hS.F ht⟩) hS.2.2 dL_move_28
  · rw [ht] at hB
    have hT : TX E G u R H := hB
    obtain ⟨hW2, hF2, hC⟩ := hw
    have hro := hro.kept (hk _ hro.lt (fun h => zn (L := [9, 11, 13]) (by decide) h hGo))
    refine lv_i2l hx hb dL_move_16 rfl ?_
    refine rr_last (D := DG E) hx hb hK.1 2 hro hS (Or.inr rfl) rfl (show vp_in (0) 1 from vp_in_iff.mpr ⟨by decide, by decide⟩) dL_move_17 (fun H locs hro ho hz hS => ?_)
    have hT : TX E G u R H := hT.offo hGo ho
    refine lv_goto (tgt := 29) hx hb dL_move_18 (by decide) ?_
    refine lv_iconst (v := 0) hx hb dL_move_29 (by decide) ?_
    refine W.widen (k := 2) (n := 12) (Nat.le_of_ble_eq_true rfl) (Nat.le_of_ble_eq_true rfl) ?_
    exact W.iret (v := 0) hx hb hr (fun t ht hW => ⟨⟨0, (u, r, r.toInt64), rfl, Or.inl ⟨rfl, hW2, hF2, hC, rfl⟩, ⟨(by show TX E G u R t.heap; rw [ht]; exact hT), _, vpu0, (by rw [ht]; exact hro)⟩⟩, hS.F ht⟩) hS.2.2 dL_move_30
theorem dL_add_0 : decode cL_add 0 = .ok (.aload 6, 2) := by decide +kernel
theorem dL_add_2 : decode cL_add 2 = .ok (.iconst 0, 1) := by decide +kernel
theorem dL_add_3 : decode cL_add 3 = .ok (.aload_n 0, 1) := by decide +kernel
theorem dL_add_4 : decode cL_add 4 = .ok (.iload_n 1, 1) := by decide +kernel
theorem dL_add_5 : decode cL_add 5 = .ok (.iload_n 2, 1) := by decide +kernel
theorem dL_add_6 : decode cL_add 6 = .ok (.iload_n 3, 1) := by decide +kernel
theorem dL_add_7 : decode cL_add 7 = .ok (.iload 4, 2) := by decide +kernel
theorem dL_add_9 : decode cL_add 9 = .ok (.iload 5, 2) := by decide +kernel
theorem dL_add_11 : decode cL_add 11 = .ok (.invokevirtual 32, 3) := by decide +kernel
theorem dL_add_14 : decode cL_add 14 = .ok (.i2l, 1) := by decide +kernel
theorem dL_add_15 : decode cL_add 15 = .ok (.lastore, 1) := by decide +kernel
theorem dL_add_16 : decode cL_add 16 = .ok (.goto 11, 3) := by decide +kernel
theorem dL_add_19 : decode cL_add 19 = .ok (.astore 7, 2) := by decide +kernel
theorem dL_add_21 : decode cL_add 21 = .ok (.iconst 1, 1) := by decide +kernel
theorem dL_add_22 : decode cL_add 22 = .ok (.ireturn, 1) := by decide +kernel
theorem dL_add_23 : decode cL_add 23 = .ok (.astore 7, 2) := by decide +kernel
theorem dL_add_25 : decode cL_add 25 = .ok (.iconst 2, 1) := by decide +kernel
theorem dL_add_26 : decode cL_add 26 = .ok (.ireturn, 1) := by decide +kernel
theorem dL_add_27 : decode cL_add 27 = .ok (.iconst 0, 1) := by decide +kernel
theorem dL_add_28 : decode cL_add 28 = .ok (.ireturn, 1) := by decide +kernel
set_option maxHeartbeats 4000000 in
set_option maxRecDepth 100000 in
theorem w_L_add (l : Launch) (hst : l.stackTraces = false) (E : EE) (z0 : Nat) (G : Nat → Nat) (hGz : ∀ q, G q ≠ 0 → z0 ≤ q) (B : AA) (R : RR) (hW : TW G B R) (h0 : Nat) (p0 p1 p2 p3 p4 : Int32) (o0 : Nat) (hG : G h0 = 1) (hGo : G o0 = 0) (hoz : z0 ≤ o0) : Met l yL_add [Cond.codeWith yL_add cL_add 8 (some .int) [(0, 16, 19, 13), (0, 16, 23, 22)]] ({ frames := 8, cells := 2, slots := 12, locals := 126 } : Room) (va_Pc [.ref h0, .int p0, .int p1, .int p2, .int p3, .int p4, .ref o0] (fun U => (TX E G B R U.heap ∧ ∃ fo : Nat → Int64, va_at (DG E) vwCl (o0, .inl (E.2.2 2, 1, .inr (.inl fo))) U.heap) ∧ KS E z0 U ∧ NC U)) (va_Qi (fun (r : Int32) (u : AA × Int32 × Int64) => (r = 0 ∧ TW G u.1 R ∧ Fr G [9, 11, 13] B u.1 ∧ C_X9_add G B R h0 p0 p1 p2 p3 p4 u.1 u.2.1 ∧ u.2.2 = u.2.1.toInt64) ∨ (r = 1 ∧ u.1 = B ∧ X_X9_add G B R h0 p0 p1 p2 p3 p4 IAE) ∨ (r = 2 ∧ u.1 = B ∧ X_X9_add G B R h0 p0 p1 p2 p3 p4 ISE)) (fun u t => TX E G u.1 R t.heap ∧ ∃ fo : Nat → Int64, fo 0 = u.2.2 ∧ va_at (DG E) vwCl (o0, .inl (E.2.2 2, 1, .inr (.inl fo))) t.heap) (fun q : Nat => G q ∈ ([9, 11, 13] : List Nat) ∨ q = o0)) 2 12 (fun q : Nat => G q ∈ ([9, 11, 13] : List Nat) ∨ q = o0) := by
  refine va_MetW (cc := cL_add) (maxL := 8) (ret := (some .int)) (hh := [(0, 16, 19, 13), (0, 16, 23, 22)]) (by decide) rfl ?_
  intro p e s m args below meth c s₁ B9 hml hv
  obtain ⟨rfl, ⟨hT, fo, hro⟩, hK, hN⟩ := hv
  have hx := B9.exec
  have hb := B9.bytes
  have hr := B9.returns
  have hts : ∀ w ∈ TS, w.before ([.ref h0, .int p0, .int p1, .int p2, .int p3, .int p4, .ref o0] : List Value).toArray s = true := fun w hw => hK.2.1 w hw _
  have hown : s.vm.findClass RL = some m.cls := findClass_of_methodNamed B9.named
  have hlocks := B9.notSynchronized
  have hS : va_S (fun q : Nat => G q ∈ ([9, 11, 13] : List Nat) ∨ q = o0) s.heap s.heap [] := va_S.rf
  have hAz : ∀ q, (fun q : Nat => G q ∈ ([9, 11, 13] : List Nat) ∨ q = o0) q → z0 ≤ q := fun q h => h.elim (zL hGz (by decide) q) (fun e => by rw [e]; exact hoz)
  have htab := vx_table (x := yL_add) B9 (hts _ co_L_add)
  have hl := lv_entry ([.ref h0, .int p0, .int p1, .int p2, .int p3, .int p4, .ref o0]) (n := 8) (Nat.le_of_ble_eq_true rfl)
  rw [lg_entry_eq]
  generalize (lg_sl ([.ref h0, .int p0, .int p1, .int p2, .int p3, .int p4, .ref o0]) ++ List.replicate (8 - (lg_sl ([.ref h0, .int p0, .int p1, .int p2, .int p3, .int p4, .ref o0])).length) Slot.unset).toArray = ls at hl ⊢
  have hl : lv_has ls 8 [(0, .ref h0), (1, .int p0), (2, .int p1), (3, .int p2), (4, .int p3), (5, .int p4), (6, .ref o0)] := hl
  refine lv_aload hx hb dL_add_0 (lv_at hl 6 rfl) ?_
  refine lv_iconst (v := 0) hx hb dL_add_2 (by decide) ?_
  refine lv_aload_n hx hb dL_add_3 rfl (lv_at hl 0 rfl) ?_
  refine lv_iload_n hx hb dL_add_4 rfl (lv_at hl 1 rfl) ?_
  refine lv_iload_n hx hb dL_add_5 rfl (lv_at hl 2 rfl) ?_
  refine lv_iload_n hx hb dL_add_6 rfl (lv_at hl 3 rfl) ?_
  refine lv_iload hx hb dL_add_7 (lv_at hl 4 rfl) ?_
  refine lv_iload hx hb dL_add_9 (lv_at hl 5 rfl) ?_
  have hx9 := tx_1 hT hG
  refine vx_calli (rxV (fun H => TX E G B R H) (As := [.int p0, .int p1, .int p2, .int p3, .int p4]) (rest := [.int 0, .ref o0]) ⟨hx, hb, hml, hown, hts⟩ (x_X9_add l hst E z0 G hGz B R hW h0 p0 p1 p2 p3 p4 hG) (cwV 5 hts (gdV ml_L_32 im_X9_add se_X9_X9_add in_X9 co_X9_add rfl) rfl rfl rfl (by decide +kernel) ⟨Nat.le_of_ble_eq_true rfl, Nat.le_of_ble_eq_true rfl⟩) hT (fun U hU hW => hK.go hW hS hAz hU) (va_recv hK.1 (va_one hx9) (ci := 9) (q0 := 0) rfl rfl) rfl rfl hl.1 rfl (lv_room (Nat.le_of_ble_eq_true rfl)) dL_add_11 ⟨Nat.le_of_ble_eq_true rfl, Nat.le_of_ble_eq_true rfl⟩) hS (fun q _ h => Or.inl h) (fun q h => Or.inl h) (fun q _ h => Or.inl h) (fun En ce q9 _ t H locs ht hvm hw hB hz hk hS hc1 hc2 hc3 => ?_) (fun r u t H locs ht hvm hw hB hz hk hS => ?_)
  · clear hw
    rw [ht] at hB
    obtain ⟨hX, hT⟩ := hB
    have hro := hro.kept (hk _ hro.lt (fun h => zn (L := [9, 11, 13]) (by decide) h hGo))
    have hX2 := X_En_X9_add hX
    rcases hX2 with rfl | rfl
    · refine rr_catch (own := RL) (name := IAE) hown [] ⟨0, 16, 19, 13⟩ [⟨0, 16, 23, 22⟩] htab (fun z hz => nomatch hz) (by decide) (by decide) (hts _ cl_L_13) (hts _ ca_IllegalArgumentException_IllegalArgumentException) hc1 hc2 hc3 ?_
      refine lv_astore (lv' := [(7, .ref q9), (0, .ref h0), (1, .int p0), (2, .int p1), (3, .int p2), (4, .int p3), (5, .int p4), (6, .ref o0)]) hx hb dL_add_19 hl (by decide) rfl (fun ls hl => ?_)
      refine lv_iconst (v := 1) hx hb dL_add_21 (by decide) ?_
      refine W.widen (k := 2) (n := 12) (Nat.le_of_ble_eq_true rfl) (Nat.le_of_ble_eq_true rfl) ?_
      exact W.iret (v := 1) hx hb hr (fun t ht hW => ⟨⟨1, (B, 0, fo 0), rfl, Or.inr (Or.inl ⟨rfl, rfl, hX⟩), ⟨(by show TX E G B R t.heap; rw [ht]; exact hT), _, rfl, (by rw [ht]; exact hro)⟩⟩, hS.F ht⟩) hS.2.2 dL_add_22
    · refine rr_catch (own := RL) (name := ISE) hown [⟨0, 16, 19, 13⟩] ⟨0, 16, 23, 22⟩ [] htab (fun z hz => by rw [List.mem_singleton] at hz; subst hz; exact Or.inr ⟨by decide, IAE, hts _ cl_L_13, hN.1⟩) (by decide) (by decide) (hts _ cl_L_22) (hts _ ca_IllegalStateException_IllegalStateException) hc1 hc2 hc3 ?_
      refine lv_astore (lv' := [(7, .ref q9), (0, .ref h0), (1, .int p0), (2, .int p1), (3, .int p2), (4, .int p3), (5, .int p4), (6, .ref o0)]) hx hb dL_add_23 hl (by decide) rfl (fun ls hl => ?_)
      refine lv_iconst (v := 2) hx hb dL_add_25 (by decide) ?_
      refine W.widen (k := 2) (n := 12) (Nat.le_of_ble_eq_true rfl) (Nat.le_of_ble_eq_true rfl) ?_
      exact W.iret (v := 2) hx hb hr (fun t ht hW => ⟨⟨2, (B, 0, fo 0), rfl, Or.inr (Or.inr ⟨rfl, rfl, hX⟩), ⟨(by show TX E G B R t.heap; rw [ht]; exact hT), _, rfl, (by rw [ht]; exact hro)⟩⟩, hS.F ht⟩) hS.2.2 dL_add_26
  · rw [ht] at hB
    have hT : TX E G u R H := hB
    obtain ⟨hW2, hF2, hC⟩ := hw
    have hro := hro.kept (hk _ hro.lt (fun h => zn (L := [9, 11, 13]) (by decide) h hGo))
    refine lv_i2l hx hb dL_add_14 rfl ?_
    refine rr_last (D := DG E) hx hb hK.1 2 hro hS (Or.inr rfl) rfl (show vp_in (0) 1 from vp_in_iff.mpr ⟨by decide, by decide⟩) dL_add_15 (fun H locs hro ho hz hS => ?_)
    have hT : TX E G u R H := hT.offo hGo ho
    refine lv_goto (tgt := 27) hx hb dL_add_16 (by decide) ?_
    refine lv_iconst (v := 0) hx hb dL_add_27 (by decide) ?_
    refine W.widen (k := 2) (n := 12) (Nat.le_of_ble_eq_true rfl) (Nat.le_of_ble_eq_true rfl) ?_
    exact W.iret (v := 0) hx hb hr (fun t ht hW => ⟨⟨0, (u, r, r.toInt64), rfl, Or.inl ⟨rfl, hW2, hF2, hC, rfl⟩, ⟨(by show TX E G u R t.heap; rw [ht]; exact hT), _, vpu0, (by rw [ht]; exact hro)⟩⟩, hS.F ht⟩) hS.2.2 dL_add_28
theorem dL_receive_0 : decode cL_receive 0 = .ok (.aload 4, 2) := by decide +kernel
theorem dL_receive_2 : decode cL_receive 2 = .ok (.iconst 0, 1) := by decide +kernel
theorem dL_receive_3 : decode cL_receive 3 = .ok (.aload_n 0, 1) := by decide +kernel
theorem dL_receive_4 : decode cL_receive 4 = .ok (.iload_n 1, 1) := by decide +kernel
theorem dL_receive_5 : decode cL_receive 5 = .ok (.iload_n 2, 1) := by decide +kernel
theorem dL_receive_6 : decode cL_receive 6 = .ok (.iload_n 3, 1) := by decide +kernel
theorem dL_receive_7 : decode cL_receive 7 = .ok (.invokevirtual 36, 3) := by decide +kernel
theorem dL_receive_10 : decode cL_receive 10 = .ok (.i2l, 1) := by decide +kernel
theorem dL_receive_11 : decode cL_receive 11 = .ok (.lastore, 1) := by decide +kernel
theorem dL_receive_12 : decode cL_receive 12 = .ok (.goto 11, 3) := by decide +kernel
theorem dL_receive_15 : decode cL_receive 15 = .ok (.astore 5, 2) := by decide +kernel
theorem dL_receive_17 : decode cL_receive 17 = .ok (.iconst 1, 1) := by decide +kernel
theorem dL_receive_18 : decode cL_receive 18 = .ok (.ireturn, 1) := by decide +kernel
theorem dL_receive_19 : decode cL_receive 19 = .ok (.astore 5, 2) := by decide +kernel
theorem dL_receive_21 : decode cL_receive 21 = .ok (.iconst 2, 1) := by decide +kernel
theorem dL_receive_22 : decode cL_receive 22 = .ok (.ireturn, 1) := by decide +kernel
theorem dL_receive_23 : decode cL_receive 23 = .ok (.iconst 0, 1) := by decide +kernel
theorem dL_receive_24 : decode cL_receive 24 = .ok (.ireturn, 1) := by decide +kernel
set_option maxHeartbeats 4000000 in
set_option maxRecDepth 100000 in
theorem w_L_receive (l : Launch) (hst : l.stackTraces = false) (E : EE) (z0 : Nat) (G : Nat → Nat) (hGz : ∀ q, G q ≠ 0 → z0 ≤ q) (B : AA) (R : RR) (hW : TW G B R) (h0 : Nat) (p0 p1 p2 : Int32) (o0 : Nat) (hG : G h0 = 1) (hGo : G o0 = 0) (hoz : z0 ≤ o0) : Met l yL_receive [Cond.codeWith yL_receive cL_receive 6 (some .int) [(0, 12, 15, 13), (0, 12, 19, 22)]] ({ frames := 8, cells := 2, slots := 12, locals := 124 } : Room) (va_Pc [.ref h0, .int p0, .int p1, .int p2, .ref o0] (fun U => (TX E G B R U.heap ∧ ∃ fo : Nat → Int64, va_at (DG E) vwCl (o0, .inl (E.2.2 2, 1, .inr (.inl fo))) U.heap) ∧ KS E z0 U ∧ NC U)) (va_Qi (fun (r : Int32) (u : AA × Int32 × Int64) => (r = 0 ∧ TW G u.1 R ∧ Fr G [11, 13] B u.1 ∧ C_X9_receive G B R h0 p0 p1 p2 u.1 u.2.1 ∧ u.2.2 = u.2.1.toInt64) ∨ (r = 1 ∧ u.1 = B ∧ X_X9_receive G B R h0 p0 p1 p2 IAE) ∨ (r = 2 ∧ u.1 = B ∧ X_X9_receive G B R h0 p0 p1 p2 ISE)) (fun u t => TX E G u.1 R t.heap ∧ ∃ fo : Nat → Int64, fo 0 = u.2.2 ∧ va_at (DG E) vwCl (o0, .inl (E.2.2 2, 1, .inr (.inl fo))) t.heap) (fun q : Nat => G q ∈ ([11, 13] : List Nat) ∨ q = o0)) 2 12 (fun q : Nat => G q ∈ ([11, 13] : List Nat) ∨ q = o0) := by
  refine va_MetW (cc := cL_receive) (maxL := 6) (ret := (some .int)) (hh := [(0, 12, 15, 13), (0, 12, 19, 22)]) (by decide) rfl ?_
  intro p e s m args below meth c s₁ B9 hml hv
  obtain ⟨rfl, ⟨hT, fo, hro⟩, hK, hN⟩ := hv
  have hx := B9.exec
  have hb := B9.bytes
  have hr := B9.returns
  have hts : ∀ w ∈ TS, w.before ([.ref h0, .int p0, .int p1, .int p2, .ref o0] : List Value).toArray s = true := fun w hw => hK.2.1 w hw _
  have hown : s.vm.findClass RL = some m.cls := findClass_of_methodNamed B9.named
  have hlocks := B9.notSynchronized
  have hS : va_S (fun q : Nat => G q ∈ ([11, 13] : List Nat) ∨ q = o0) s.heap s.heap [] := va_S.rf
  have hAz : ∀ q, (fun q : Nat => G q ∈ ([11, 13] : List Nat) ∨ q = o0) q → z0 ≤ q := fun q h => h.elim (zL hGz (by decide) q) (fun e => by rw [e]; exact hoz)
  have htab := vx_table (x := yL_receive) B9 (hts _ co_L_receive)
  have hl := lv_entry ([.ref h0, .int p0, .int p1, .int p2, .ref o0]) (n := 6) (Nat.le_of_ble_eq_true rfl)
  rw [lg_entry_eq]
  generalize (lg_sl ([.ref h0, .int p0, .int p1, .int p2, .ref o0]) ++ List.replicate (6 - (lg_sl ([.ref h0, .int p0, .int p1, .int p2, .ref o0])).length) Slot.unset).toArray = ls at hl ⊢
  have hl : lv_has ls 6 [(0, .ref h0), (1, .int p0), (2, .int p1), (3, .int p2), (4, .ref o0)] := hl
  refine lv_aload hx hb dL_receive_0 (lv_at hl 4 rfl) ?_
  refine lv_iconst (v := 0) hx hb dL_receive_2 (by decide) ?_
  refine lv_aload_n hx hb dL_receive_3 rfl (lv_at hl 0 rfl) ?_
  refine lv_iload_n hx hb dL_receive_4 rfl (lv_at hl 1 rfl) ?_
  refine lv_iload_n hx hb dL_receive_5 rfl (lv_at hl 2 rfl) ?_
  refine lv_iload_n hx hb dL_receive_6 rfl (lv_at hl 3 rfl) ?_
  have hx9 := tx_1 hT hG
  refine vx_calli (rxV (fun H => TX E G B R H) (As := [.int p0, .int p1, .int p2]) (rest := [.int 0, .ref o0]) ⟨hx, hb, hml, hown, hts⟩ (x_X9_receive l hst E z0 G hGz B R hW h0 p0 p1 p2 hG) (cwV 3 hts (gdV ml_L_36 im_X9_receive se_X9_X9_receive in_X9 co_X9_receive rfl) rfl rfl rfl (by decide +kernel) ⟨Nat.le_of_ble_eq_true rfl, Nat.le_of_ble_eq_true rfl⟩) hT (fun U hU hW => hK.go hW hS hAz hU) (va_recv hK.1 (va_one hx9) (ci := 9) (q0 := 0) rfl rfl) rfl rfl hl.1 rfl (lv_room (Nat.le_of_ble_eq_true rfl)) dL_receive_7 ⟨Nat.le_of_ble_eq_true rfl, Nat.le_of_ble_eq_true rfl⟩) hS (fun q _ h => Or.inl h) (fun q h => Or.inl h) (fun q _ h => Or.inl h) (fun En ce q9 _ t H locs ht hvm hw hB hz hk hS hc1 hc2 hc3 => ?_) (fun r u t H locs ht hvm hw hB hz hk hS => ?_)
  · clear hw
    rw [ht] at hB
    obtain ⟨hX, hT⟩ := hB
    have hro := hro.kept (hk _ hro.lt (fun h => zn (L := [11, 13]) (by decide) h hGo))
    have hX2 := X_En_X9_receive hX
    rcases hX2 with rfl | rfl
    · refine rr_catch (own := RL) (name := IAE) hown [] ⟨0, 12, 15, 13⟩ [⟨0, 12, 19, 22⟩] htab (fun z hz => nomatch hz) (by decide) (by decide) (hts _ cl_L_13) (hts _ ca_IllegalArgumentException_IllegalArgumentException) hc1 hc2 hc3 ?_
      refine lv_astore (lv' := [(5, .ref q9), (0, .ref h0), (1, .int p0), (2, .int p1), (3, .int p2), (4, .ref o0)]) hx hb dL_receive_15 hl (by decide) rfl (fun ls hl => ?_)
      refine lv_iconst (v := 1) hx hb dL_receive_17 (by decide) ?_
      refine W.widen (k := 2) (n := 12) (Nat.le_of_ble_eq_true rfl) (Nat.le_of_ble_eq_true rfl) ?_
      exact W.iret (v := 1) hx hb hr (fun t ht hW => ⟨⟨1, (B, 0, fo 0), rfl, Or.inr (Or.inl ⟨rfl, rfl, hX⟩), ⟨(by show TX E G B R t.heap; rw [ht]; exact hT), _, rfl, (by rw [ht]; exact hro)⟩⟩, hS.F ht⟩) hS.2.2 dL_receive_18
    · refine rr_catch (own := RL) (name := ISE) hown [⟨0, 12, 15, 13⟩] ⟨0, 12, 19, 22⟩ [] htab (fun z hz => by rw [List.mem_singleton] at hz; subst hz; exact Or.inr ⟨by decide, IAE, hts _ cl_L_13, hN.1⟩) (by decide) (by decide) (hts _ cl_L_22) (hts _ ca_IllegalStateException_IllegalStateException) hc1 hc2 hc3 ?_
      refine lv_astore (lv' := [(5, .ref q9), (0, .ref h0), (1, .int p0), (2, .int p1), (3, .int p2), (4, .ref o0)]) hx hb dL_receive_19 hl (by decide) rfl (fun ls hl => ?_)
      refine lv_iconst (v := 2) hx hb dL_receive_21 (by decide) ?_
      refine W.widen (k := 2) (n := 12) (Nat.le_of_ble_eq_true rfl) (Nat.le_of_ble_eq_true rfl) ?_
      exact W.iret (v := 2) hx hb hr (fun t ht hW => ⟨⟨2, (B, 0, fo 0), rfl, Or.inr (Or.inr ⟨rfl, rfl, hX⟩), ⟨(by show TX E G B R t.heap; rw [ht]; exact hT), _, rfl, (by rw [ht]; exact hro)⟩⟩, hS.F ht⟩) hS.2.2 dL_receive_22
  · rw [ht] at hB
    have hT : TX E G u R H := hB
    obtain ⟨hW2, hF2, hC⟩ := hw
    have hro := hro.kept (hk _ hro.lt (fun h => zn (L := [11, 13]) (by decide) h hGo))
    refine lv_i2l hx hb dL_receive_10 rfl ?_
    refine rr_last (D := DG E) hx hb hK.1 2 hro hS (Or.inr rfl) rfl (show vp_in (0) 1 from vp_in_iff.mpr ⟨by decide, by decide⟩) dL_receive_11 (fun H locs hro ho hz hS => ?_)
    have hT : TX E G u R H := hT.offo hGo ho
    refine lv_goto (tgt := 23) hx hb dL_receive_12 (by decide) ?_
    refine lv_iconst (v := 0) hx hb dL_receive_23 (by decide) ?_
    refine W.widen (k := 2) (n := 12) (Nat.le_of_ble_eq_true rfl) (Nat.le_of_ble_eq_true rfl) ?_
    exact W.iret (v := 0) hx hb hr (fun t ht hW => ⟨⟨0, (u, r, r.toInt64), rfl, Or.inl ⟨rfl, hW2, hF2, hC, rfl⟩, ⟨(by show TX E G u R t.heap; rw [ht]; exact hT), _, vpu0, (by rw [ht]; exact hro)⟩⟩, hS.F ht⟩) hS.2.2 dL_receive_24
theorem dL_poll_0 : decode cL_poll 0 = .ok (.aload_n 3, 1) := by decide +kernel
theorem dL_poll_1 : decode cL_poll 1 = .ok (.iconst 0, 1) := by decide +kernel
theorem dL_poll_2 : decode cL_poll 2 = .ok (.aload_n 0, 1) := by decide +kernel
theorem dL_poll_3 : decode cL_poll 3 = .ok (.iload_n 1, 1) := by decide +kernel
theorem dL_poll_4 : decode cL_poll 4 = .ok (.iload_n 2, 1) := by decide +kernel
theorem dL_poll_5 : decode cL_poll 5 = .ok (.invokevirtual 39, 3) := by decide +kernel
theorem dL_poll_8 : decode cL_poll 8 = .ok (.i2l, 1) := by decide +kernel
theorem dL_poll_9 : decode cL_poll 9 = .ok (.lastore, 1) := by decide +kernel
theorem dL_poll_10 : decode cL_poll 10 = .ok (.goto 11, 3) := by decide +kernel
theorem dL_poll_13 : decode cL_poll 13 = .ok (.astore 4, 2) := by decide +kernel
theorem dL_poll_15 : decode cL_poll 15 = .ok (.iconst 1, 1) := by decide +kernel
theorem dL_poll_16 : decode cL_poll 16 = .ok (.ireturn, 1) := by decide +kernel
theorem dL_poll_17 : decode cL_poll 17 = .ok (.astore 4, 2) := by decide +kernel
theorem dL_poll_19 : decode cL_poll 19 = .ok (.iconst 2, 1) := by decide +kernel
theorem dL_poll_20 : decode cL_poll 20 = .ok (.ireturn, 1) := by decide +kernel
theorem dL_poll_21 : decode cL_poll 21 = .ok (.iconst 0, 1) := by decide +kernel
theorem dL_poll_22 : decode cL_poll 22 = .ok (.ireturn, 1) := by decide +kernel
set_option maxHeartbeats 4000000 in
set_option maxRecDepth 100000 in
theorem w_L_poll (l : Launch) (hst : l.stackTraces = false) (E : EE) (z0 : Nat) (G : Nat → Nat) (hGz : ∀ q, G q ≠ 0 → z0 ≤ q) (B : AA) (R : RR) (hW : TW G B R) (h0 : Nat) (p0 p1 : Int32) (o0 : Nat) (hG : G h0 = 1) (hGo : G o0 = 0) (hoz : z0 ≤ o0) : Met l yL_poll [Cond.codeWith yL_poll cL_poll 5 (some .int) [(0, 10, 13, 13), (0, 10, 17, 43)]] ({ frames := 8, cells := 2, slots := 12, locals := 123 } : Room) (va_Pc [.ref h0, .int p0, .int p1, .ref o0] (fun U => (TX E G B R U.heap ∧ ∃ fo : Nat → Int64, va_at (DG E) vwCl (o0, .inl (E.2.2 2, 1, .inr (.inl fo))) U.heap) ∧ KS E z0 U ∧ NC U)) (va_Qi (fun (r : Int32) (u : AA × Int32 × Int64) => (r = 0 ∧ TW G u.1 R ∧ Fr G [5] B u.1 ∧ C_X9_poll G B R h0 p0 p1 u.1 u.2.1 ∧ u.2.2 = u.2.1.toInt64) ∨ (r = 1 ∧ u.1 = B ∧ X_X9_poll G B R h0 p0 p1 IAE) ∨ (r = 2 ∧ u.1 = B ∧ X_X9_poll G B R h0 p0 p1 NSE)) (fun u t => TX E G u.1 R t.heap ∧ ∃ fo : Nat → Int64, fo 0 = u.2.2 ∧ va_at (DG E) vwCl (o0, .inl (E.2.2 2, 1, .inr (.inl fo))) t.heap) (fun q : Nat => G q ∈ ([5] : List Nat) ∨ q = o0)) 2 12 (fun q : Nat => G q ∈ ([5] : List Nat) ∨ q = o0) := by
  refine va_MetW (cc := cL_poll) (maxL := 5) (ret := (some .int)) (hh := [(0, 10, 13, 13), (0, 10, 17, 43)]) (by decide) rfl ?_
  intro p e s m args below meth c s₁ B9 hml hv
  obtain ⟨rfl, ⟨hT, fo, hro⟩, hK, hN⟩ := hv
  have hx := B9.exec
  have hb := B9.bytes
  have hr := B9.returns
  have hts : ∀ w ∈ TS, w.before ([.ref h0, .int p0, .int p1, .ref o0] : List Value).toArray s = true := fun w hw => hK.2.1 w hw _
  have hown : s.vm.findClass RL = some m.cls := findClass_of_methodNamed B9.named
  have hlocks := B9.notSynchronized
  have hS : va_S (fun q : Nat => G q ∈ ([5] : List Nat) ∨ q = o0) s.heap s.heap [] := va_S.rf
  have hAz : ∀ q, (fun q : Nat => G q ∈ ([5] : List Nat) ∨ q = o0) q → z0 ≤ q := fun q h => h.elim (zL hGz (by decide) q) (fun e => by rw [e]; exact hoz)
  have htab := vx_table (x := yL_poll) B9 (hts _ co_L_poll)
  have hl := lv_entry ([.ref h0, .int p0, .int p1, .ref o0]) (n := 5) (Nat.le_of_ble_eq_true rfl)
  rw [lg_entry_eq]
  generalize (lg_sl ([.ref h0, .int p0, .int p1, .ref o0]) ++ List.replicate (5 - (lg_sl ([.ref h0, .int p0, .int p1, .ref o0])).length) Slot.unset).toArray = ls at hl ⊢
  have hl : lv_has ls 5 [(0, .ref h0), (1, .int p0), (2, .int p1), (3, .ref o0)] := hl
  refine lv_aload_n hx hb dL_poll_0 rfl (lv_at hl 3 rfl) ?_
  refine lv_iconst (v := 0) hx hb dL_poll_1 (by decide) ?_
  refine lv_aload_n hx hb dL_poll_2 rfl (lv_at hl 0 rfl) ?_
  refine lv_iload_n hx hb dL_poll_3 rfl (lv_at hl 1 rfl) ?_
  refine lv_iload_n hx hb dL_poll_4 rfl (lv_at hl 2 rfl) ?_
  have hx9 := tx_1 hT hG
  refine vx_calli (rxV (fun H => TX E G B R H) (As := [.int p0, .int p1]) (rest := [.int 0, .ref o0]) ⟨hx, hb, hml, hown, hts⟩ (x_X9_poll l hst E z0 G hGz B R hW h0 p0 p1 hG) (cwV 2 hts (gdV ml_L_39 im_X9_poll se_X9_X9_poll in_X9 co_X9_poll rfl) rfl rfl rfl (by decide +kernel) ⟨Nat.le_of_ble_eq_true rfl, Nat.le_of_ble_eq_true rfl⟩) hT (fun U hU hW => hK.go hW hS hAz hU) (va_recv hK.1 (va_one hx9) (ci := 9) (q0 := 0) rfl rfl) rfl rfl hl.1 rfl (lv_room (Nat.le_of_ble_eq_true rfl)) dL_poll_5 ⟨Nat.le_of_ble_eq_true rfl, Nat.le_of_ble_eq_true rfl⟩) hS (fun q _ h => Or.inl h) (fun q h => Or.inl h) (fun q _ h => Or.inl h) (fun En ce q9 _ t H locs ht hvm hw hB hz hk hS hc1 hc2 hc3 => ?_) (fun r u t H locs ht hvm hw hB hz hk hS => ?_)
  · clear hw
    rw [ht] at hB
    obtain ⟨hX, hT⟩ := hB
    have hro := hro.kept (hk _ hro.lt (fun h => zn (L := [5]) (by decide) h hGo))
    have hX2 := X_En_X9_poll hX
    rcases hX2 with rfl | rfl
    · refine rr_catch (own := RL) (name := IAE) hown [] ⟨0, 10, 13, 13⟩ [⟨0, 10, 17, 43⟩] htab (fun z hz => nomatch hz) (by decide) (by decide) (hts _ cl_L_13) (hts _ ca_IllegalArgumentException_IllegalArgumentException) hc1 hc2 hc3 ?_
      refine lv_astore (lv' := [(4, .ref q9), (0, .ref h0), (1, .int p0), (2, .int p1), (3, .ref o0)]) hx hb dL_poll_13 hl (by decide) rfl (fun ls hl => ?_)
      refine lv_iconst (v := 1) hx hb dL_poll_15 (by decide) ?_
      refine W.widen (k := 2) (n := 12) (Nat.le_of_ble_eq_true rfl) (Nat.le_of_ble_eq_true rfl) ?_
      exact W.iret (v := 1) hx hb hr (fun t ht hW => ⟨⟨1, (B, 0, fo 0), rfl, Or.inr (Or.inl ⟨rfl, rfl, hX⟩), ⟨(by show TX E G B R t.heap; rw [ht]; exact hT), _, rfl, (by rw [ht]; exact hro)⟩⟩, hS.F ht⟩) hS.2.2 dL_poll_16
    · refine rr_catch (own := RL) (name := NSE) hown [⟨0, 10, 13, 13⟩] ⟨0, 10, 17, 43⟩ [] htab (fun z hz => by rw [List.mem_singleton] at hz; subst hz; exact Or.inr ⟨by decide, IAE, hts _ cl_L_13, hN.2⟩) (by decide) (by decide) (hts _ cl_L_43) (hts _ ca_NoSuchElementException_NoSuchElementException) hc1 hc2 hc3 ?_
      refine lv_astore (lv' := [(4, .ref q9), (0, .ref h0), (1, .int p0), (2, .int p1), (3, .ref o0)]) hx hb dL_poll_17 hl (by decide) rfl (fun ls hl => ?_)
      refine lv_iconst (v := 2) hx hb dL_poll_19 (by decide) ?_
      refine W.widen (k := 2) (n := 12) (Nat.le_of_ble_eq_true rfl) (Nat.le_of_ble_eq_true rfl) ?_
      exact W.iret (v := 2) hx hb hr (fun t ht hW => ⟨⟨2, (B, 0, fo 0), rfl, Or.inr (Or.inr ⟨rfl, rfl, hX⟩), ⟨(by show TX E G B R t.heap; rw [ht]; exact hT), _, rfl, (by rw [ht]; exact hro)⟩⟩, hS.F ht⟩) hS.2.2 dL_poll_20
  · rw [ht] at hB
    have hT : TX E G u R H := hB
    obtain ⟨hW2, hF2, hC⟩ := hw
    have hro := hro.kept (hk _ hro.lt (fun h => zn (L := [5]) (by decide) h hGo))
    refine lv_i2l hx hb dL_poll_8 rfl ?_
    refine rr_last (D := DG E) hx hb hK.1 2 hro hS (Or.inr rfl) rfl (show vp_in (0) 1 from vp_in_iff.mpr ⟨by decide, by decide⟩) dL_poll_9 (fun H locs hro ho hz hS => ?_)
    have hT : TX E G u R H := hT.offo hGo ho
    refine lv_goto (tgt := 21) hx hb dL_poll_10 (by decide) ?_
    refine lv_iconst (v := 0) hx hb dL_poll_21 (by decide) ?_
    refine W.widen (k := 2) (n := 12) (Nat.le_of_ble_eq_true rfl) (Nat.le_of_ble_eq_true rfl) ?_
    exact W.iret (v := 0) hx hb hr (fun t ht hW => ⟨⟨0, (u, r, r.toInt64), rfl, Or.inl ⟨rfl, hW2, hF2, hC, rfl⟩, ⟨(by show TX E G u R t.heap; rw [ht]; exact hT), _, vpu0, (by rw [ht]; exact hro)⟩⟩, hS.F ht⟩) hS.2.2 dL_poll_22
end
