theorem uA10 {A : AA} {f1 f2 f3 f4 f5 f6 f7 f8 g h : Nat → Int32} {j : Nat} (k1 : j ≠ 13) (k2 : j ≠ 15) (k3 : j < 41 ∨ 48 < j) : (uA (uA (uA (uA (uA (uA (uA (uA (uA (uA A 41 f1) 42 f2) 43 f3) 44 f4) 45 f5) 46 f6) 47 f7) 48 f8) 13 g) 15 h) j = A j := by
  rw [uA_n k2, uA_n k1, uA_n (by omega), uA_n (by omega), uA_n (by omega), uA_n (by omega), uA_n (by omega), uA_n (by omega), uA_n (by omega), uA_n (by omega)]
theorem mk_t {k r v w x : Int32} (h : x.toInt = v.toInt + w.toInt) (h1 : ((¬ k.toInt = 0) ∧ v = 0) ∨ ((k.toInt = 0) ∧ v = 1)) (h2 : (∃ y : Int32, (y = r - 1) ∧ (y.toInt = r.toInt - 1) ∧ (¬ k.toInt = y.toInt) ∧ w = 0) ∨ (∃ y : Int32, (y = r - 1) ∧ (y.toInt = r.toInt - 1) ∧ (k.toInt = y.toInt) ∧ w = 2)) : x.toInt = (if k.toInt = 0 then 1 else 0) + (if k.toInt = r.toInt - 1 then 2 else 0) := by
  rw [h]
  rcases h1 with ⟨e1, e2⟩ | ⟨e1, e2⟩ <;> rcases h2 with ⟨y, y1, y2, y3, y4⟩ | ⟨y, y1, y2, y3, y4⟩ <;> rw [e2, y4, ← y2]
  · rw [if_neg e1, if_neg y3]; decide
  · rw [if_neg e1, if_pos y3]; decide
  · rw [if_pos e1, if_neg y3]; decide
  · rw [if_pos e1, if_pos y3]; decide
theorem clk_t {a b : Int} {f g u : Nat → Int32} (h : ((¬ a = b) ∧ u = f) ∨ ((a = b) ∧ ∃ g1 : Nat → Int32, (g1 = g) ∧ u = g1)) : u = if a = b then g else f := by
  rcases h with ⟨e, rfl⟩ | ⟨e, g, rfl, rfl⟩
  · rw [if_neg e]
  · rw [if_pos e]
theorem win1 {c o a b x y : Int} (hc : 0 ≤ c ∧ c ≤ 63) (ho : 0 ≤ o ∧ o ≤ 63) (h12 : (c - o) % 64 ≤ 12) {n : Int} (hn : 1 ≤ n ∧ n ≤ 3) (e1 : a = c + n) (e2 : b = a - 1) (e3 : x = b % 64) (e4 : y = (x - o + 64) % 64) : y < 8 ↔ (c - o) % 64 + n ≤ 8 := by
  subst e1 e2 e3 e4
  omega
theorem ix16 {n i : Nat} (h : n < 4) (hi : i < 4) : 4 * n + i < 16 := by omega
theorem ixeq {n i j : Nat} {r : Int} (h : ((4 * n + i : Nat) : Int) = r) (g : r = 4 * (n : Int) + j) : i = j := by omega
theorem jlt {i j : Nat} {n : Int} (h : (i : Int) < n) (g : j < i) : (j : Int) < n := by omega
theorem pos4 {a k : Int} (h : 0 ≤ a) (g : 0 ≤ k) : 0 ≤ a + 4 * k := by omega
theorem left1 {Z : Nat → Int32} {m : Nat} {k l : Int} (h : l = (Z m).toInt - 4 * k) (g : k < NB Z m) : 1 ≤ l := by
  unfold NB at g
  omega
theorem sz4 {l : Int} (h : 1 ≤ l) (g : ¬ 4 ≤ l) : 0 ≤ l ∧ l ≤ 4 := by omega
theorem kd3 {k : Int} (h : k ≤ 3) (h2 : 2 ≤ k) (h3 : ¬ k = 2) : k = 3 := by omega
theorem kdn {k : Int} {P : Prop} (h : ¬ 2 ≤ k) (e : k = 3) : P := by omega
theorem kd0 {k : Int} {P : Prop} (h : k = 0) (e : k = 3) : P := by omega
theorem kd2 {k : Int} {P : Prop} (h : k = 2) (e : k = 3) : P := by omega
theorem kd20 {k : Int} {P : Prop} (h : k = 2) (e : k = 0) : P := by omega
theorem kd2c {k : Int} {P : Prop} (h : k = 2) (e : k = 0 ∨ k = 1 ∨ k = 4) : P := by omega
theorem num3 {b k : Int} (hb : 1 ≤ b ∧ b ≤ 3) (h0 : 0 ≤ k) (h1 : k < b) : 1 ≤ b - k ∧ b - k ≤ 3 := by omega
def RPUSH (A A' : AA) (pk pkz p r : Int32) : Prop := (¬ (0 ≤ p.toInt ∧ p.toInt < 4) ∧ A' = A ∧ pkz = pk ∧ r = -1) ∨ ∃ n : Nat, (n : Int) = p.toInt ∧ n < 4 ∧ ((A' = A ∧ pkz = pk ∧ r = -1 ∧ (¬ (A 10 n).toInt = 1 ∨ ((A 10 n).toInt = 1 ∧ (A 13 n).toInt = (A 11 n).toInt) ∨ ¬ (A 18 n).toInt = 0 ∨ ∃ i : Nat, (i : Int) < (A 20 n).toInt ∧ OWN A n i (A 13 n).toInt ∧ ¬ (((A 13 n).toInt - (A 12 n).toInt) % 64 + NUM A (4 * n + i) (((A 13 n).toInt - (A 29 (4 * n + i)).toInt) % 64) ≤ 8))) ∨ ((A 10 n).toInt = 1 ∧ (A 18 n).toInt = 0 ∧ ∃ i : Nat, (i : Int) < (A 20 n).toInt ∧ OWN A n i (A 13 n).toInt ∧ (((A 13 n).toInt - (A 12 n).toInt) % 64 + NUM A (4 * n + i) (((A 13 n).toInt - (A 29 (4 * n + i)).toInt) % 64) ≤ 8) ∧ r = A 13 n ∧ ∃ (A2 : AA) (u : Nat → Int32) (sz mk pl va cu' : Int32) (f0 : Nat), (u = if (A 13 n).toInt = (A 12 n).toInt then upd (A 15) n 0 else A 15) ∧ (f0 : Int) = (A 23 (4 * n + i)).toInt + 4 * (((A 13 n).toInt - (A 29 (4 * n + i)).toInt) % 64) ∧ EMR (uA A 15 u) A2 pk pkz (peerT p) (A 22 (4 * n + i)) (A 13 n) sz mk pl va (fun c => A 4 (32 * (n % 2) + f0 + c)) ∧ PRM A (4 * n + i) (((A 13 n).toInt - (A 29 (4 * n + i)).toInt) % 64) sz mk pl va ∧ cu'.toInt = ((A 13 n).toInt + NUM A (4 * n + i) (((A 13 n).toInt - (A 29 (4 * n + i)).toInt) % 64)) % 64 ∧ (∀ j, 41 ≤ j → j ≤ 48 → A' j = A2 j) ∧ A' 13 = upd (A 13) n cu' ∧ A' 15 = u ∧ ∀ j, j ≠ 13 → j ≠ 15 → (j < 41 ∨ 48 < j) → A' j = A j))
theorem n4lt {n : Nat} {p : Int} (h : (n : Int) = p) (c : 0 ≤ p ∧ p ≤ (3 : Int32).toInt) : n < 4 := by
  have := i_3t
  omega
theorem r_push {A : AA} {cd pk p : Int32} {A' : AA} {cdz pkz r : Int32} (h : D_X10_push A cd pk p A' cdz pkz r) (hV : RIV A pk) (hva : ∀ n : Nat, n < 4 → ∀ i : Nat, (i : Int) < (A 20 n).toInt → (A 22 (4 * n + i)).toInt ≠ 3 → A 27 (4 * n + i) = 0) : RPUSH A A' pk pkz p r := by
  rcases h with ⟨c1, n_4, hn_4, (⟨c2, rfl, rfl, rfl, rfl⟩ | ⟨c2, (⟨c3, rfl, rfl, rfl, rfl⟩ | ⟨c3, (⟨c4, r_12, c5, c6, i0, c7, c8, x_16, ex_16, (⟨c9, x_24, ex_24, fx_24, x_25, ex_25, fx_25, x_26, ex_26, fx_26, x_27, ex_27, fx_27, (⟨c10, u_29, c11, x_37, ex_37, fx_37, x_38, ex_38, fx_38, v_39, c12, r_41, hnumbersOf, c13, c14, v_42, c15, x_45, ex_45, fx_45, (⟨c16, x_55, ex_55, fx_55, ur_57, r_57, hemit, c17, c18, c19, c20, c21, (⟨c22, (⟨c23, x_62, ex_62, fx_62, g_63, rfl, rfl, rfl, rfl, rfl⟩ | ⟨c23, (⟨c24, x_66, ex_66, fx_66, g_67, rfl, rfl, rfl, rfl, rfl⟩ | ⟨c24, n_69, hn_69, g_71, rfl, x_72, ex_72, fx_72, g_73, rfl, rfl, rfl, rfl, rfl⟩)⟩)⟩ | ⟨c22, x_78, ex_78, fx_78, (⟨c23, ur_80, hload, c24, c25, x_83, ex_83, fx_83, g_84, rfl, rfl, rfl, rfl, rfl⟩ | ⟨c23, ur_86, hload, c24, c25, x_89, ex_89, fx_89, g_90, rfl, rfl, rfl, rfl, rfl⟩)⟩)⟩ | ⟨c16, (⟨c17, x_97, ex_97, fx_97, ur_99, r_99, hemit, c18, c19, c20, c21, c22, x_104, ex_104, fx_104, (⟨c23, ur_106, hload, c24, c25, x_109, ex_109, fx_109, g_110, rfl, rfl, rfl, rfl, rfl⟩ | ⟨c23, ur_112, hload, c24, c25, x_115, ex_115, fx_115, g_116, rfl, rfl, rfl, rfl, rfl⟩)⟩ | ⟨c17, ur_119, r_119, hemit, c18, c19, c20, c21, c22, x_124, ex_124, fx_124, (⟨c23, ur_126, hload, c24, c25, x_129, ex_129, fx_129, g_130, rfl, rfl, rfl, rfl, rfl⟩ | ⟨c23, ur_132, hload, c24, c25, x_135, ex_135, fx_135, g_136, rfl, rfl, rfl, rfl, rfl⟩)⟩)⟩)⟩ | ⟨c10, rfl, rfl, rfl, rfl⟩)⟩ | ⟨c9, r_138, hnumbersOf, c10, c11, x_139, ex_139, fx_139, x_141, ex_141, fx_141, x_142, ex_142, fx_142, x_143, ex_143, fx_143, x_144, ex_144, fx_144, (⟨c12, u_146, c13, x_154, ex_154, fx_154, x_155, ex_155, fx_155, v_156, c14, r_158, hnumbersOf_1, c15, c16, v_159, c17, x_162, ex_162, fx_162, x_172, ex_172, fx_172, ur_174, r_174, hemit, c18, c19, c20, c21, c22, (⟨c23, x_179, ex_179, fx_179, g_180, rfl, rfl, rfl, rfl, rfl⟩ | ⟨c23, (⟨c24, x_183, ex_183, fx_183, g_184, rfl, rfl, rfl, rfl, rfl⟩ | ⟨c24, n_186, hn_186, g_188, rfl, x_189, ex_189, fx_189, g_190, rfl, rfl, rfl, rfl, rfl⟩)⟩)⟩ | ⟨c12, rfl, rfl, rfl, rfl⟩)⟩)⟩ | ⟨c4, rfl, rfl, rfl, rfl⟩)⟩)⟩)⟩ | ⟨c1, rfl, rfl, rfl, rfl⟩
  · skip
    have h4 := n4lt hn_4 c1
    refine Or.inr ⟨n_4, hn_4, h4, ?_⟩
    have hn := hn_4
    have hva := hva n_4 h4
    exact Or.inl ⟨by simp only [uA_ii], rfl, rfl, Or.inl c2⟩
  · skip
    have h4 := n4lt hn_4 c1
    refine Or.inr ⟨n_4, hn_4, h4, ?_⟩
    have hn := hn_4
    have hva := hva n_4 h4
    exact Or.inl ⟨by simp only [uA_ii], rfl, rfl, Or.inr (Or.inl ⟨c2, c3⟩)⟩
  · have hu := clk_t c11
    clear c11 c12 c15
    have h4 := n4lt hn_4 c1
    refine Or.inr ⟨n_4, hn_4, h4, ?_⟩
    have hn := hn_4
    have hva := hva n_4 h4
    have hP := (hV.1.2.2.1 n_4 h4).1 c2
    have rg := hP.rng
    have win := hP.win
    obtain ⟨i, oi, er, olt, k0, k1, z1⟩ := hP.own c3 (c6 n_4 hn)
    obtain rfl := ixeq c8 er
    have fr := hP.frng
    rw [far_m (fr i0 oi) rg.2.2] at k0 k1
    have ef : x_16.toInt = ((A 13 n_4).toInt - (A 29 (4 * n_4 + i0)).toInt) % 64 := by rw [ex_16]; exact far_m (fr i0 oi) rg.2.2
    have hO : OWN A n_4 i0 (A 13 n_4).toInt := ⟨fun j hj => by have e := olt j hj; rw [far_m (fr j (jlt oi hj)) rg.2.2] at e; exact e, k1⟩
    clear olt er ex_16
    have hNB := pj_N z1
    have hNB2 : NB (A 24) (4 * n_4 + i0) = ((A 24 (4 * n_4 + i0)).toInt + 3) / 4 := rfl
    have h6 := hV.1.2.2.2.2.1 (4 * n_4 + i0) (ix16 h4 c7)
    obtain ⟨f0, hf0⟩ : ∃ f0 : Nat, (f0 : Int) = (A 23 (4 * n_4 + i0)).toInt + 4 * (((A 13 n_4).toInt - (A 29 (4 * n_4 + i0)).toInt) % 64) := ⟨_, Int.toNat_of_nonneg (pos4 h6.2.2.1 k0)⟩
    have hleft : x_38.toInt = (A 24 (4 * n_4 + i0)).toInt - 4 * (((A 13 n_4).toInt - (A 29 (4 * n_4 + i0)).toInt) % 64) := by rw [fx_38, fx_37, ef]
    have hE := EMR.none (c := fun c => A 4 (32 * (n_4 % 2) + f0 + c)) hemit hV.2
    refine Or.inr ⟨c2, c4, i0, oi, hO, ?_, rfl, _, u_29, _, _, _, _, x_62, f0, hu, hf0, hE, ?_, ?_, j8 rfl rfl rfl rfl rfl rfl rfl rfl, rfl, rfl, fun j k1 k2 k3 => uA10 k1 k2 k3⟩
    · unfold NUM; rw [if_neg c9]; exact (win1 rg.2.2 rg.2.1 win (n := 1) (by decide) fx_24 fx_25 fx_26 fx_27).mp c10
    · exact ⟨fun e => absurd e c16, fun _ => ⟨rfl, by rw [fx_55, fx_37, ef]⟩, fun _ => ⟨rfl, rfl⟩, fun e => absurd (kd3 h6.2.1 c22 c23) e, fun e => absurd e c9, fun _ e => absurd (kd3 h6.2.1 c22 c23) e⟩
    · unfold NUM; rw [if_neg c9, fx_62]; rw [fx_24]
  · exact absurd c23 c9
  · exact absurd c23 c9
  · have hu := clk_t c11
    clear c11 c12 c15
    have h4 := n4lt hn_4 c1
    refine Or.inr ⟨n_4, hn_4, h4, ?_⟩
    have hn := hn_4
    have hva := hva n_4 h4
    have hP := (hV.1.2.2.1 n_4 h4).1 c2
    have rg := hP.rng
    have win := hP.win
    obtain ⟨i, oi, er, olt, k0, k1, z1⟩ := hP.own c3 (c6 n_4 hn)
    obtain rfl := ixeq c8 er
    have fr := hP.frng
    rw [far_m (fr i0 oi) rg.2.2] at k0 k1
    have ef : x_16.toInt = ((A 13 n_4).toInt - (A 29 (4 * n_4 + i0)).toInt) % 64 := by rw [ex_16]; exact far_m (fr i0 oi) rg.2.2
    have hO : OWN A n_4 i0 (A 13 n_4).toInt := ⟨fun j hj => by have e := olt j hj; rw [far_m (fr j (jlt oi hj)) rg.2.2] at e; exact e, k1⟩
    clear olt er ex_16
    have hNB := pj_N z1
    have hNB2 : NB (A 24) (4 * n_4 + i0) = ((A 24 (4 * n_4 + i0)).toInt + 3) / 4 := rfl
    have h6 := hV.1.2.2.2.2.1 (4 * n_4 + i0) (ix16 h4 c7)
    obtain ⟨f0, hf0⟩ : ∃ f0 : Nat, (f0 : Int) = (A 23 (4 * n_4 + i0)).toInt + 4 * (((A 13 n_4).toInt - (A 29 (4 * n_4 + i0)).toInt) % 64) := ⟨_, Int.toNat_of_nonneg (pos4 h6.2.2.1 k0)⟩
    have hleft : x_38.toInt = (A 24 (4 * n_4 + i0)).toInt - 4 * (((A 13 n_4).toInt - (A 29 (4 * n_4 + i0)).toInt) % 64) := by rw [fx_38, fx_37, ef]
    have hE := EMR.load (nd := n_4 % 2) (f0 := f0) hemit hload hV.2 (nd2 hn) (by rw [fx_78, fx_37, ef]; exact hf0) (by decide)
    refine Or.inr ⟨c2, c4, i0, oi, hO, ?_, rfl, _, u_29, _, _, _, _, x_83, f0, hu, hf0, hE, ?_, ?_, j8 rfl rfl rfl rfl rfl rfl rfl rfl, rfl, rfl, fun j k1 k2 k3 => uA10 k1 k2 k3⟩
    · unfold NUM; rw [if_neg c9]; exact (win1 rg.2.2 rg.2.1 win (n := 1) (by decide) fx_24 fx_25 fx_26 fx_27).mp c10
    · exact ⟨fun e => absurd e c16, fun _ => ⟨rfl, by rw [fx_55, fx_37, ef]⟩, fun e => kdn c22 e, fun e => hva i0 oi e, fun e => absurd e c9, fun _ _ => by rw [if_pos (by rw [← hleft]; exact c23)]; exact i_4⟩
    · unfold NUM; rw [if_neg c9, fx_83]; rw [fx_24]
  · have hu := clk_t c11
    clear c11 c12 c15
    have h4 := n4lt hn_4 c1
    refine Or.inr ⟨n_4, hn_4, h4, ?_⟩
    have hn := hn_4
    have hva := hva n_4 h4
    have hP := (hV.1.2.2.1 n_4 h4).1 c2
    have rg := hP.rng
    have win := hP.win
    obtain ⟨i, oi, er, olt, k0, k1, z1⟩ := hP.own c3 (c6 n_4 hn)
    obtain rfl := ixeq c8 er
    have fr := hP.frng
    rw [far_m (fr i0 oi) rg.2.2] at k0 k1
    have ef : x_16.toInt = ((A 13 n_4).toInt - (A 29 (4 * n_4 + i0)).toInt) % 64 := by rw [ex_16]; exact far_m (fr i0 oi) rg.2.2
    have hO : OWN A n_4 i0 (A 13 n_4).toInt := ⟨fun j hj => by have e := olt j hj; rw [far_m (fr j (jlt oi hj)) rg.2.2] at e; exact e, k1⟩
    clear olt er ex_16
    have hNB := pj_N z1
    have hNB2 : NB (A 24) (4 * n_4 + i0) = ((A 24 (4 * n_4 + i0)).toInt + 3) / 4 := rfl
    have h6 := hV.1.2.2.2.2.1 (4 * n_4 + i0) (ix16 h4 c7)
    obtain ⟨f0, hf0⟩ : ∃ f0 : Nat, (f0 : Int) = (A 23 (4 * n_4 + i0)).toInt + 4 * (((A 13 n_4).toInt - (A 29 (4 * n_4 + i0)).toInt) % 64) := ⟨_, Int.toNat_of_nonneg (pos4 h6.2.2.1 k0)⟩
    have hleft : x_38.toInt = (A 24 (4 * n_4 + i0)).toInt - 4 * (((A 13 n_4).toInt - (A 29 (4 * n_4 + i0)).toInt) % 64) := by rw [fx_38, fx_37, ef]
    have hE := EMR.load (nd := n_4 % 2) (f0 := f0) hemit hload hV.2 (nd2 hn) (by rw [fx_78, fx_37, ef]; exact hf0) (sz4 (left1 hleft k1) c23)
    refine Or.inr ⟨c2, c4, i0, oi, hO, ?_, rfl, _, u_29, _, _, _, _, x_89, f0, hu, hf0, hE, ?_, ?_, j8 rfl rfl rfl rfl rfl rfl rfl rfl, rfl, rfl, fun j k1 k2 k3 => uA10 k1 k2 k3⟩
    · unfold NUM; rw [if_neg c9]; exact (win1 rg.2.2 rg.2.1 win (n := 1) (by decide) fx_24 fx_25 fx_26 fx_27).mp c10
    · exact ⟨fun e => absurd e c16, fun _ => ⟨rfl, by rw [fx_55, fx_37, ef]⟩, fun e => kdn c22 e, fun e => hva i0 oi e, fun e => absurd e c9, fun _ _ => by rw [if_neg (by rw [← hleft]; exact c23)]; exact hleft⟩
    · unfold NUM; rw [if_neg c9, fx_89]; rw [fx_24]
  · exact absurd c16 c17
  · exact absurd c16 c17
  · have hu := clk_t c11
    have hmk := mk_t fx_45 c12 c15
    clear c11 c12 c15
    have h4 := n4lt hn_4 c1
    refine Or.inr ⟨n_4, hn_4, h4, ?_⟩
    have hn := hn_4
    have hva := hva n_4 h4
    have hP := (hV.1.2.2.1 n_4 h4).1 c2
    have rg := hP.rng
    have win := hP.win
    obtain ⟨i, oi, er, olt, k0, k1, z1⟩ := hP.own c3 (c6 n_4 hn)
    obtain rfl := ixeq c8 er
    have fr := hP.frng
    rw [far_m (fr i0 oi) rg.2.2] at k0 k1
    have ef : x_16.toInt = ((A 13 n_4).toInt - (A 29 (4 * n_4 + i0)).toInt) % 64 := by rw [ex_16]; exact far_m (fr i0 oi) rg.2.2
    have hO : OWN A n_4 i0 (A 13 n_4).toInt := ⟨fun j hj => by have e := olt j hj; rw [far_m (fr j (jlt oi hj)) rg.2.2] at e; exact e, k1⟩
    clear olt er ex_16
    have hNB := pj_N z1
    have hNB2 : NB (A 24) (4 * n_4 + i0) = ((A 24 (4 * n_4 + i0)).toInt + 3) / 4 := rfl
    have h6 := hV.1.2.2.2.2.1 (4 * n_4 + i0) (ix16 h4 c7)
    obtain ⟨f0, hf0⟩ : ∃ f0 : Nat, (f0 : Int) = (A 23 (4 * n_4 + i0)).toInt + 4 * (((A 13 n_4).toInt - (A 29 (4 * n_4 + i0)).toInt) % 64) := ⟨_, Int.toNat_of_nonneg (pos4 h6.2.2.1 k0)⟩
    have hleft : x_38.toInt = (A 24 (4 * n_4 + i0)).toInt - 4 * (((A 13 n_4).toInt - (A 29 (4 * n_4 + i0)).toInt) % 64) := by rw [fx_38, fx_37, ef]
    have hE := EMR.load (nd := n_4 % 2) (f0 := f0) hemit hload hV.2 (nd2 hn) (by rw [fx_124, fx_37, ef]; exact hf0) (by decide)
    refine Or.inr ⟨c2, c4, i0, oi, hO, ?_, rfl, _, u_29, _, _, _, _, x_129, f0, hu, hf0, hE, ?_, ?_, j8 rfl rfl rfl rfl rfl rfl rfl rfl, rfl, rfl, fun j k1 k2 k3 => uA10 k1 k2 k3⟩
    · unfold NUM; rw [if_neg c9]; exact (win1 rg.2.2 rg.2.1 win (n := 1) (by decide) fx_24 fx_25 fx_26 fx_27).mp c10
    · exact ⟨fun _ => ⟨by rw [hmk, c14 (4 * n_4 + i0) c8, ef], rfl⟩, fun e => absurd c16 e, fun e => kd0 c16 e, fun e => hva i0 oi e, fun e => absurd e c9, fun _ _ => by rw [if_pos (by rw [← hleft]; exact c23)]; exact i_4⟩
    · unfold NUM; rw [if_neg c9, fx_129]; rw [fx_24]
  · have hu := clk_t c11
    have hmk := mk_t fx_45 c12 c15
    clear c11 c12 c15
    have h4 := n4lt hn_4 c1
    refine Or.inr ⟨n_4, hn_4, h4, ?_⟩
    have hn := hn_4
    have hva := hva n_4 h4
    have hP := (hV.1.2.2.1 n_4 h4).1 c2
    have rg := hP.rng
    have win := hP.win
    obtain ⟨i, oi, er, olt, k0, k1, z1⟩ := hP.own c3 (c6 n_4 hn)
    obtain rfl := ixeq c8 er
    have fr := hP.frng
    rw [far_m (fr i0 oi) rg.2.2] at k0 k1
    have ef : x_16.toInt = ((A 13 n_4).toInt - (A 29 (4 * n_4 + i0)).toInt) % 64 := by rw [ex_16]; exact far_m (fr i0 oi) rg.2.2
    have hO : OWN A n_4 i0 (A 13 n_4).toInt := ⟨fun j hj => by have e := olt j hj; rw [far_m (fr j (jlt oi hj)) rg.2.2] at e; exact e, k1⟩
    clear olt er ex_16
    have hNB := pj_N z1
    have hNB2 : NB (A 24) (4 * n_4 + i0) = ((A 24 (4 * n_4 + i0)).toInt + 3) / 4 := rfl
    have h6 := hV.1.2.2.2.2.1 (4 * n_4 + i0) (ix16 h4 c7)
    obtain ⟨f0, hf0⟩ : ∃ f0 : Nat, (f0 : Int) = (A 23 (4 * n_4 + i0)).toInt + 4 * (((A 13 n_4).toInt - (A 29 (4 * n_4 + i0)).toInt) % 64) := ⟨_, Int.toNat_of_nonneg (pos4 h6.2.2.1 k0)⟩
    have hleft : x_38.toInt = (A 24 (4 * n_4 + i0)).toInt - 4 * (((A 13 n_4).toInt - (A 29 (4 * n_4 + i0)).toInt) % 64) := by rw [fx_38, fx_37, ef]
    have hE := EMR.load (nd := n_4 % 2) (f0 := f0) hemit hload hV.2 (nd2 hn) (by rw [fx_124, fx_37, ef]; exact hf0) (sz4 (left1 hleft k1) c23)
    refine Or.inr ⟨c2, c4, i0, oi, hO, ?_, rfl, _, u_29, _, _, _, _, x_135, f0, hu, hf0, hE, ?_, ?_, j8 rfl rfl rfl rfl rfl rfl rfl rfl, rfl, rfl, fun j k1 k2 k3 => uA10 k1 k2 k3⟩
    · unfold NUM; rw [if_neg c9]; exact (win1 rg.2.2 rg.2.1 win (n := 1) (by decide) fx_24 fx_25 fx_26 fx_27).mp c10
    · exact ⟨fun _ => ⟨by rw [hmk, c14 (4 * n_4 + i0) c8, ef], rfl⟩, fun e => absurd c16 e, fun e => kd0 c16 e, fun e => hva i0 oi e, fun e => absurd e c9, fun _ _ => by rw [if_neg (by rw [← hleft]; exact c23)]; exact hleft⟩
    · unfold NUM; rw [if_neg c9, fx_135]; rw [fx_24]
  · skip
    have h4 := n4lt hn_4 c1
    refine Or.inr ⟨n_4, hn_4, h4, ?_⟩
    have hn := hn_4
    have hva := hva n_4 h4
    have hP := (hV.1.2.2.1 n_4 h4).1 c2
    have rg := hP.rng
    have win := hP.win
    obtain ⟨i, oi, er, olt, k0, k1, z1⟩ := hP.own c3 (c6 n_4 hn)
    obtain rfl := ixeq c8 er
    have fr := hP.frng
    rw [far_m (fr i0 oi) rg.2.2] at k0 k1
    have ef : x_16.toInt = ((A 13 n_4).toInt - (A 29 (4 * n_4 + i0)).toInt) % 64 := by rw [ex_16]; exact far_m (fr i0 oi) rg.2.2
    have hO : OWN A n_4 i0 (A 13 n_4).toInt := ⟨fun j hj => by have e := olt j hj; rw [far_m (fr j (jlt oi hj)) rg.2.2] at e; exact e, k1⟩
    clear olt er ex_16
    have hNB := pj_N z1
    have hNB2 : NB (A 24) (4 * n_4 + i0) = ((A 24 (4 * n_4 + i0)).toInt + 3) / 4 := rfl
    have h6 := hV.1.2.2.2.2.1 (4 * n_4 + i0) (ix16 h4 c7)
    exact Or.inl ⟨by simp only [uA_ii], rfl, rfl, Or.inr (Or.inr (Or.inr ⟨i0, oi, hO, fun e => c10 ((win1 rg.2.2 rg.2.1 win (n := 1) (by decide) fx_24 fx_25 fx_26 fx_27).mpr (by unfold NUM at e; rw [if_neg c9] at e; exact e))⟩))⟩
  · exact absurd c9 c23
  · have hu := clk_t c13
    clear c13 c14 c17
    have h4 := n4lt hn_4 c1
    refine Or.inr ⟨n_4, hn_4, h4, ?_⟩
    have hn := hn_4
    have hva := hva n_4 h4
    have hP := (hV.1.2.2.1 n_4 h4).1 c2
    have rg := hP.rng
    have win := hP.win
    obtain ⟨i, oi, er, olt, k0, k1, z1⟩ := hP.own c3 (c6 n_4 hn)
    obtain rfl := ixeq c8 er
    have fr := hP.frng
    rw [far_m (fr i0 oi) rg.2.2] at k0 k1
    have ef : x_16.toInt = ((A 13 n_4).toInt - (A 29 (4 * n_4 + i0)).toInt) % 64 := by rw [ex_16]; exact far_m (fr i0 oi) rg.2.2
    have hO : OWN A n_4 i0 (A 13 n_4).toInt := ⟨fun j hj => by have e := olt j hj; rw [far_m (fr j (jlt oi hj)) rg.2.2] at e; exact e, k1⟩
    clear olt er ex_16
    have hNB := pj_N z1
    have hNB2 : NB (A 24) (4 * n_4 + i0) = ((A 24 (4 * n_4 + i0)).toInt + 3) / 4 := rfl
    have h6 := hV.1.2.2.2.2.1 (4 * n_4 + i0) (ix16 h4 c7)
    obtain ⟨f0, hf0⟩ : ∃ f0 : Nat, (f0 : Int) = (A 23 (4 * n_4 + i0)).toInt + 4 * (((A 13 n_4).toInt - (A 29 (4 * n_4 + i0)).toInt) % 64) := ⟨_, Int.toNat_of_nonneg (pos4 h6.2.2.1 k0)⟩
    have hleft : x_155.toInt = (A 24 (4 * n_4 + i0)).toInt - 4 * (((A 13 n_4).toInt - (A 29 (4 * n_4 + i0)).toInt) % 64) := by rw [fx_155, fx_154, ef]
    have hE := EMR.size (sz := x_155) (c := fun c => A 4 (32 * (n_4 % 2) + f0 + c)) hemit (Or.inl ⟨c24, rfl⟩) hV.2 (fun e => kd2c c9 e)
    refine Or.inr ⟨c2, c4, i0, oi, hO, ?_, rfl, _, u_146, _, _, _, _, x_183, f0, hu, hf0, hE, ?_, ?_, j8 rfl rfl rfl rfl rfl rfl rfl rfl, rfl, rfl, fun j k1 k2 k3 => uA10 k1 k2 k3⟩
    · unfold NUM; rw [if_pos c9]; exact (win1 rg.2.2 rg.2.1 win (n := NB (A 24) (4 * n_4 + i0) - ((A 13 n_4).toInt - (A 29 (4 * n_4 + i0)).toInt) % 64) (num3 hNB k0 k1) (by rw [fx_141, fx_139, c11 (4 * n_4 + i0) c8, ef]) fx_142 fx_143 fx_144).mp c12
    · exact ⟨fun e => kd20 c9 e, fun _ => ⟨rfl, by rw [fx_172, fx_154, ef]⟩, fun e => kd2 c9 e, fun e => hva i0 oi e, fun e => hleft, fun e => absurd c9 e⟩
    · unfold NUM; rw [if_pos c9, fx_183]; rw [fx_141, fx_139, c11 (4 * n_4 + i0) c8, ef]
  · have hu := clk_t c13
    clear c13 c14 c17
    have h4 := n4lt hn_4 c1
    refine Or.inr ⟨n_4, hn_4, h4, ?_⟩
    have hn := hn_4
    have hva := hva n_4 h4
    have hP := (hV.1.2.2.1 n_4 h4).1 c2
    have rg := hP.rng
    have win := hP.win
    obtain ⟨i, oi, er, olt, k0, k1, z1⟩ := hP.own c3 (c6 n_4 hn)
    obtain rfl := ixeq c8 er
    have fr := hP.frng
    rw [far_m (fr i0 oi) rg.2.2] at k0 k1
    have ef : x_16.toInt = ((A 13 n_4).toInt - (A 29 (4 * n_4 + i0)).toInt) % 64 := by rw [ex_16]; exact far_m (fr i0 oi) rg.2.2
    have hO : OWN A n_4 i0 (A 13 n_4).toInt := ⟨fun j hj => by have e := olt j hj; rw [far_m (fr j (jlt oi hj)) rg.2.2] at e; exact e, k1⟩
    clear olt er ex_16
    have hNB := pj_N z1
    have hNB2 : NB (A 24) (4 * n_4 + i0) = ((A 24 (4 * n_4 + i0)).toInt + 3) / 4 := rfl
    have h6 := hV.1.2.2.2.2.1 (4 * n_4 + i0) (ix16 h4 c7)
    obtain ⟨f0, hf0⟩ : ∃ f0 : Nat, (f0 : Int) = (A 23 (4 * n_4 + i0)).toInt + 4 * (((A 13 n_4).toInt - (A 29 (4 * n_4 + i0)).toInt) % 64) := ⟨_, Int.toNat_of_nonneg (pos4 h6.2.2.1 k0)⟩
    have hleft : x_155.toInt = (A 24 (4 * n_4 + i0)).toInt - 4 * (((A 13 n_4).toInt - (A 29 (4 * n_4 + i0)).toInt) % 64) := by rw [fx_155, fx_154, ef]
    have hE := EMR.size (sz := x_155) (c := fun c => A 4 (32 * (n_4 % 2) + f0 + c)) hemit (Or.inr ⟨n_186, hn_186, rfl⟩) hV.2 (fun e => kd2c c9 e)
    refine Or.inr ⟨c2, c4, i0, oi, hO, ?_, rfl, _, u_146, _, _, _, _, x_189, f0, hu, hf0, hE, ?_, ?_, j8 rfl rfl rfl rfl rfl rfl rfl rfl, rfl, rfl, fun j k1 k2 k3 => uA10 k1 k2 k3⟩
    · unfold NUM; rw [if_pos c9]; exact (win1 rg.2.2 rg.2.1 win (n := NB (A 24) (4 * n_4 + i0) - ((A 13 n_4).toInt - (A 29 (4 * n_4 + i0)).toInt) % 64) (num3 hNB k0 k1) (by rw [fx_141, fx_139, c11 (4 * n_4 + i0) c8, ef]) fx_142 fx_143 fx_144).mp c12
    · exact ⟨fun e => kd20 c9 e, fun _ => ⟨rfl, by rw [fx_172, fx_154, ef]⟩, fun e => kd2 c9 e, fun e => hva i0 oi e, fun e => hleft, fun e => absurd c9 e⟩
    · unfold NUM; rw [if_pos c9, fx_189]; rw [fx_141, fx_139, c11 (4 * n_4 + i0) c8, ef]
  · skip
    have h4 := n4lt hn_4 c1
    refine Or.inr ⟨n_4, hn_4, h4, ?_⟩
    have hn := hn_4
    have hva := hva n_4 h4
    have hP := (hV.1.2.2.1 n_4 h4).1 c2
    have rg := hP.rng
    have win := hP.win
    obtain ⟨i, oi, er, olt, k0, k1, z1⟩ := hP.own c3 (c6 n_4 hn)
    obtain rfl := ixeq c8 er
    have fr := hP.frng
    rw [far_m (fr i0 oi) rg.2.2] at k0 k1
    have ef : x_16.toInt = ((A 13 n_4).toInt - (A 29 (4 * n_4 + i0)).toInt) % 64 := by rw [ex_16]; exact far_m (fr i0 oi) rg.2.2
    have hO : OWN A n_4 i0 (A 13 n_4).toInt := ⟨fun j hj => by have e := olt j hj; rw [far_m (fr j (jlt oi hj)) rg.2.2] at e; exact e, k1⟩
    clear olt er ex_16
    have hNB := pj_N z1
    have hNB2 : NB (A 24) (4 * n_4 + i0) = ((A 24 (4 * n_4 + i0)).toInt + 3) / 4 := rfl
    have h6 := hV.1.2.2.2.2.1 (4 * n_4 + i0) (ix16 h4 c7)
    exact Or.inl ⟨by simp only [uA_ii], rfl, rfl, Or.inr (Or.inr (Or.inr ⟨i0, oi, hO, fun e => c12 ((win1 rg.2.2 rg.2.1 win (n := NB (A 24) (4 * n_4 + i0) - ((A 13 n_4).toInt - (A 29 (4 * n_4 + i0)).toInt) % 64) (num3 hNB k0 k1) (by rw [fx_141, fx_139, c11 (4 * n_4 + i0) c8, ef]) fx_142 fx_143 fx_144).mpr (by unfold NUM at e; rw [if_pos c9] at e; exact e))⟩))⟩
  · skip
    have h4 := n4lt hn_4 c1
    refine Or.inr ⟨n_4, hn_4, h4, ?_⟩
    have hn := hn_4
    have hva := hva n_4 h4
    exact Or.inl ⟨by simp only [uA_ii], rfl, rfl, Or.inr (Or.inr (Or.inl c4))⟩
  · exact Or.inl ⟨fun e => c1 ⟨e.1, by have := i_3t; omega⟩, by simp only [uA_ii], rfl, rfl⟩
