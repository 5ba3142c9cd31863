theorem uA_u {A : AA} {j : Nat} {f g : Nat → Int32} : uA (uA A j f) j g = uA A j g := by
  funext k
  by_cases e : k = j
  · subst e; rw [uA_s, uA_s]
  · rw [uA_n e, uA_n e, uA_n e]
/-- where the class's objects lie -/
def SHX (x : Nat) (R : RR) : Prop :=
  (R x 0 = x + 55 ∧ R x 1 = x + 76 ∧ R x 2 = x + 1) ∧
  (∀ n, n < 2 → R (x + 55) n = x + 56 + 10 * n ∧ R (x + 56 + 10 * n) 0 = x + 57 + 10 * n ∧ R (x + 56 + 10 * n) 1 = x + 58 + 10 * n ∧ R (x + 56 + 10 * n) 2 = x + 59 + 10 * n ∧ ∀ j, j < 6 → R (x + 58 + 10 * n) j = x + 60 + 10 * n + j) ∧
  (∀ q, q < 4 → R (x + 76) q = x + 84 + 17 * q ∧ R (x + 84 + 17 * q) 0 = x + 77 + 17 * q ∧ R (x + 84 + 17 * q) 1 = x + 85 + 17 * q) ∧
  (∀ q, q < 4 → R (x + 77 + 17 * q) 1 = x + 56 + 10 * (q % 2) ∧ R (x + 77 + 17 * q) 2 = x + 1 ∧ R (x + 77 + 17 * q) 6 = x + 78 + 17 * q) ∧
  (∀ q, q < 4 → R (x + 78 + 17 * q) 1 = x + 56 + 10 * (q % 2) ∧ R (x + 78 + 17 * q) 2 = x + 79 + 17 * q ∧ ∀ i, i < 4 → R (x + 79 + 17 * q) i = x + 80 + 17 * q + i) ∧
  (∀ q, q < 4 → R (x + 85 + 17 * q) 1 = x + 56 + 10 * (q % 2) ∧ R (x + 85 + 17 * q) 2 = x + 1 ∧ R (x + 85 + 17 * q) 3 = x + 88 + 17 * q ∧ R (x + 85 + 17 * q) 7 = x + 86 + 17 * q ∧ R (x + 85 + 17 * q) 8 = x + 87 + 17 * q) ∧
  (∀ q, q < 4 → R (x + 88 + 17 * q) 1 = x + 56 + 10 * (q % 2) ∧ R (x + 88 + 17 * q) 2 = x + 89 + 17 * q ∧ ∀ i, i < 4 → R (x + 89 + 17 * q) i = x + 90 + 17 * q + i) ∧
  (R (x + 1) 0 = x + 2 ∧ R (x + 1) 3 = x + 5 ∧ ∀ p, p < 26 → R (x + 3 + 2 * p) 7 = x + 4 + 2 * p)
/-- the groups of these objects -/
def GRX (x : Nat) (G : Nat → Nat) : Prop :=
  (G x = 1 ∧ G (x + 1) = 4 ∧ G (x + 2) = 30 ∧ G (x + 55) = 2 ∧ G (x + 76) = 3) ∧
  (∀ p, p < 26 → G (x + 3 + 2 * p) = 31 ∧ G (x + 4 + 2 * p) = 32) ∧
  (∀ n, n < 2 → G (x + 56 + 10 * n) = 5 ∧ G (x + 57 + 10 * n) = 14 ∧ G (x + 58 + 10 * n) = 6 ∧ G (x + 59 + 10 * n) = 15 ∧ ∀ j, j < 6 → G (x + 60 + 10 * n + j) = 7) ∧
  (∀ q, q < 4 → G (x + 77 + 17 * q) = 9 ∧ G (x + 78 + 17 * q) = 11 ∧ G (x + 79 + 17 * q) = 12 ∧ G (x + 84 + 17 * q) = 8 ∧ G (x + 85 + 17 * q) = 10 ∧ G (x + 86 + 17 * q) = 16 ∧ G (x + 87 + 17 * q) = 17 ∧ G (x + 88 + 17 * q) = 11 ∧ G (x + 89 + 17 * q) = 12 ∧ ∀ i, i < 4 → G (x + 80 + 17 * q + i) = 13 ∧ G (x + 90 + 17 * q + i) = 13)
/-- the completions of a node -/
def NS (x n : Nat) (B : AA) (d e : Nat → Int32) : Prop := ∃ h : Nat, h < 16 ∧ (h : Int) = (B (x + 56 + 10 * n) 3).toInt ∧ B (x + 56 + 10 * n) 4 = d n ∧ ∀ i p : Nat, (i : Int) < (d n).toInt → p < 5 → B (x + 59 + 10 * n) (5 * ((h + i) % 16) + p) = e (80 * n + 5 * i + p)
theorem NS.cg {x n : Nat} {B Z : AA} {d e d' e' : Nat → Int32} (h : NS x n B d e) (h1 : Z (x + 56 + 10 * n) = B (x + 56 + 10 * n)) (h2 : Z (x + 59 + 10 * n) = B (x + 59 + 10 * n)) (h3 : d' n = d n) (h4 : ∀ k, 80 * n ≤ k → k < 80 * n + 80 → e' k = e k) (h5 : (d n).toInt ≤ 16) : NS x n Z d' e' := by
  obtain ⟨a, b1, b2, b3, b4⟩ := h
  refine ⟨a, b1, by rw [h1]; exact b2, by rw [h1, h3]; exact b3, fun i p hi hp => ?_⟩
  rw [h3] at hi
  rw [h2, h4 _ (by omega) (by omega)]
  exact b4 i p hi hp
/-- five in a row -/
def w5 (f : Nat → Int32) (n : Nat) (a b c d e : Int32) : Nat → Int32 := fun k => if k = n then a else if k = n + 1 then b else if k = n + 2 then c else if k = n + 3 then d else if k = n + 4 then e else f k
theorem w5_u {f : Nat → Int32} {n n1 n2 n3 n4 : Nat} {a b c d e : Int32} (h1 : n1 = n + 1) (h2 : n2 = n + 2) (h3 : n3 = n + 3) (h4 : n4 = n + 4) : upd (upd (upd (upd (upd f n a) n1 b) n2 c) n3 d) n4 e = w5 f n a b c d e := by
  subst h1 h2 h3 h4
  funext k
  unfold w5
  by_cases q4 : k = n + 4
  · subst q4; rw [upd_s, if_neg (by omega), if_neg (by omega), if_neg (by omega), if_neg (by omega), if_pos rfl]
  rw [upd_n q4]
  by_cases q3 : k = n + 3
  · subst q3; rw [upd_s, if_neg (by omega), if_neg (by omega), if_neg (by omega), if_pos rfl]
  rw [upd_n q3]
  by_cases q2 : k = n + 2
  · subst q2; rw [upd_s, if_neg (by omega), if_neg (by omega), if_pos rfl]
  rw [upd_n q2]
  by_cases q1 : k = n + 1
  · subst q1; rw [upd_s, if_neg (by omega), if_pos rfl]
  rw [upd_n q1]
  by_cases q0 : k = n
  · subst q0; rw [upd_s, if_pos rfl]
  rw [upd_n q0, if_neg q0, if_neg q1, if_neg q2, if_neg q3, if_neg q4]
theorem w5_o {f : Nat → Int32} {n k : Nat} {a b c d e : Int32} (h : k < n ∨ n + 5 ≤ k) : w5 f n a b c d e k = f k := by
  unfold w5
  rw [if_neg (by omega), if_neg (by omega), if_neg (by omega), if_neg (by omega), if_neg (by omega)]
theorem w5_i {f g : Nat → Int32} {n m p : Nat} {a b c d e : Int32} (h : p < 5) : w5 f n a b c d e (n + p) = w5 g m a b c d e (m + p) := by
  unfold w5
  rcases (show p = 0 ∨ p = 1 ∨ p = 2 ∨ p = 3 ∨ p = 4 by omega) with rfl | rfl | rfl | rfl | rfl <;> simp
/-- what a completion does in the class -/
theorem e_complete {G : Nat → Nat} {B : AA} {R : RR} {N p : Nat} {q st : Int32} {Z : AA} (h : C_X1_complete G B R N q p st Z) (hr : R N 2 ≠ N) : ((B N 4).toInt = 16 ∧ Z = B) ∨ ((B N 4).toInt ≠ 16 ∧ ∃ (n : Nat) (c : Int32), (n : Int) = 5 * (((B N 3).toInt + (B N 4).toInt) % 16) ∧ c.toInt = (B N 4).toInt + 1 ∧ c = B N 4 + 1 ∧ Z = uA (uA B (R N 2) (w5 (B (R N 2)) n q (B p 0) (B p 1) st (if (B p 0).toInt = 4 then B p 9 else B p 3))) N (upd (B N) 4 c)) := by
  rcases h with ⟨c1, x_5, ex_5, fx_5, x_6, ex_6, fx_6, x_7, ex_7, fx_7, n_11, hn_11, B_12, rfl, x_14, ex_14, fx_14, n_19, hn_19, B_20, rfl, x_22, ex_22, fx_22, n_27, hn_27, B_28, rfl, x_30, ex_30, fx_30, n_33, hn_33, B_34, rfl, x_36, ex_36, fx_36, c2, n_44, hn_44, B_45, rfl, x_48, ex_48, fx_48, B_50, rfl, rfl⟩ | ⟨c1, x_5, ex_5, fx_5, x_6, ex_6, fx_6, x_7, ex_7, fx_7, n_11, hn_11, B_12, rfl, x_14, ex_14, fx_14, n_19, hn_19, B_20, rfl, x_22, ex_22, fx_22, n_27, hn_27, B_28, rfl, x_30, ex_30, fx_30, n_33, hn_33, B_34, rfl, x_36, ex_36, fx_36, c2, n_54, hn_54, B_55, rfl, x_58, ex_58, fx_58, B_60, rfl, rfl⟩ | ⟨c1, rfl⟩
  · refine Or.inr ⟨c1, n_11, x_48, by omega, fx_48, ex_48, ?_⟩
    rw [if_neg c2]
    simp only [uA_s, uA_u, uA_n (Ne.symm hr)]
    rw [w5_u (by omega) (by omega) (by omega) (by omega)]
  · refine Or.inr ⟨c1, n_11, x_58, by omega, fx_58, ex_58, ?_⟩
    rw [if_pos c2]
    simp only [uA_s, uA_u, uA_n (Ne.symm hr)]
    rw [w5_u (by omega) (by omega) (by omega) (by omega)]
  · exact Or.inl ⟨c1, rfl⟩
/-- and in the reference -/
theorem r_complete {A : AA} {cd pk q kd se st le : Int32} {Z : AA} {cdz pkz : Int32} (h : D_X10_complete A cd pk q kd se st le Z cdz pkz) {n : Nat} (hn : (n : Int) = q.toInt % 2) : cdz = cd ∧ pkz = pk ∧ (((A 8 n).toInt = 16 ∧ Z = A) ∨ ((A 8 n).toInt ≠ 16 ∧ ∃ (m : Nat) (c : Int32), (m : Int) = 80 * (n : Int) + 5 * (A 8 n).toInt ∧ c.toInt = (A 8 n).toInt + 1 ∧ c = A 8 n + 1 ∧ Z = uA (uA A 8 (upd (A 8) n c)) 9 (w5 (A 9) m q kd se st le))) := by
  rcases h with ⟨x_1, ex_1, fx_1, n_4, hn_4, c1, x_9, ex_9, fx_9, x_11, ex_11, fx_11, x_12, ex_12, fx_12, n_15, hn_15, g_14, rfl, x_16, ex_16, fx_16, n_19, hn_19, g_18, rfl, x_20, ex_20, fx_20, n_23, hn_23, g_22, rfl, x_24, ex_24, fx_24, n_27, hn_27, g_26, rfl, x_28, ex_28, fx_28, n_31, hn_31, g_30, rfl, x_33, ex_33, fx_33, g_34, rfl, rfl, rfl, rfl⟩ | ⟨x_1, ex_1, fx_1, n_4, hn_4, c1, rfl, rfl, rfl⟩
  · obtain rfl : n_4 = n := by omega
    refine ⟨rfl, rfl, Or.inr ⟨c1, n_15, x_33, by omega, fx_33, ex_33, ?_⟩⟩
    rw [w5_u (by omega) (by omega) (by omega) (by omega)]
  · obtain rfl : n_4 = n := by omega
    exact ⟨rfl, rfl, Or.inl ⟨c1, uu_id⟩⟩
/-- all that a completion at a node changes, on both sides -/
def CMP (x n : Nat) (B Z A A' : AA) : Prop := (∀ m, m < 2 → NS x m Z (A' 8) (A' 9)) ∧ I3 (A' 8) ∧ (∀ a, a ≠ x + 56 + 10 * n → a ≠ x + 59 + 10 * n → Z a = B a) ∧ (∀ j, j ≠ 8 → j ≠ 9 → A' j = A j)
theorem CMP.rf {x n : Nat} {B A : AA} (h : ∀ m, m < 2 → NS x m B (A 8) (A 9)) (hI : I3 (A 8)) : CMP x n B B A A := ⟨h, hI, fun _ _ _ => rfl, fun _ _ _ => rfl⟩
theorem CMP.tr {x n : Nat} {B Z Y A A' A2 : AA} (h : CMP x n B Z A A') (g : CMP x n Z Y A' A2) : CMP x n B Y A A2 := ⟨g.1, g.2.1, fun a h1 h2 => (g.2.2.1 a h1 h2).trans (h.2.2.1 a h1 h2), fun j h1 h2 => (g.2.2.2 j h1 h2).trans (h.2.2.2 j h1 h2)⟩
theorem s_complete {x n : Nat} {G : Nat → Nat} {B : AA} {R : RR} {A : AA} (hS : SHX x R) (hn : n < 2) (hns : ∀ m, m < 2 → NS x m B (A 8) (A 9)) (hI : I3 (A 8)) {q kd se st le cd pk cdz pkz : Int32} {p : Nat} {Z A' : AA} (hq : (n : Int) = q.toInt % 2) (hc : C_X1_complete G B R (x + 56 + 10 * n) q p st Z) (hd : D_X10_complete A cd pk q kd se st le A' cdz pkz) (e0 : B p 0 = kd) (e1 : B p 1 = se) (e2 : (if kd.toInt = 4 then B p 9 else B p 3) = le) : cdz = cd ∧ pkz = pk ∧ CMP x n B Z A A' := by
  have hr : R (x + 56 + 10 * n) 2 = x + 59 + 10 * n := (hS.2.1 n hn).2.2.2.1
  obtain ⟨rfl, rfl, hd2⟩ := r_complete hd hq
  clear hd
  refine ⟨rfl, rfl, ?_⟩
  obtain ⟨h, hh, h1, h2, h3⟩ := hns n hn
  have hI1 := hI n hn
  rcases e_complete hc (by rw [hr]; omega) with ⟨c1, rfl⟩ | ⟨c1, k, c, hk, hc1, hc2, rfl⟩
  · rcases hd2 with ⟨d1, rfl⟩ | ⟨d1, -⟩
    · exact CMP.rf hns hI
    · rw [h2] at c1; exact absurd c1 d1
  · rcases hd2 with ⟨d1, -⟩ | ⟨d1, m, d, hm, hd1, hd2, rfl⟩
    · rw [h2] at c1; exact absurd d1 c1
    · rw [e0, e1, e2, hr]
      rw [h2] at hk hc1 hc2
      have ecd : c = d := by rw [hc2, hd2]
      subst ecd
      refine ⟨fun m2 hm2 => ?_, fun m2 hm2 => ?_, fun a h4 h5 => by rw [uA_n h4, uA_n h5], fun j h4 h5 => by rw [uA_n h5, uA_n h4]⟩
      · by_cases e : m2 = n
        · subst e
          refine ⟨h, hh, by rw [uA_s, upd_n (by decide)]; exact h1, by rw [uA_s, upd_s]; exact upd_s.symm, fun i p2 hi hp2 => ?_⟩
          show uA (uA B _ _) _ _ (x + 59 + 10 * m2) _ = w5 (A 9) m _ _ _ _ _ _
          have hi : (i : Int) < (upd (A 8) m2 c m2).toInt := hi
          rw [upd_s] at hi
          rw [uA_n (by omega), uA_s]
          by_cases e : (i : Int) = (A 8 m2).toInt
          · rw [show 5 * ((h + i) % 16) + p2 = k + p2 by omega, show 80 * m2 + 5 * i + p2 = m + p2 by omega]
            exact w5_i hp2
          · rw [w5_o (by omega), w5_o (by omega)]
            exact h3 i p2 (by omega) hp2
        · refine (hns m2 hm2).cg (by rw [uA_n (by omega), uA_n (by omega)]) (by rw [uA_n (by omega), uA_n (by omega)]) (upd_n e) (fun k2 h4 h5 => w5_o (by omega)) (hI m2 hm2).2
      · show 0 ≤ (upd (A 8) n c m2).toInt ∧ (upd (A 8) n c m2).toInt ≤ 16
        by_cases e : m2 = n
        · subst e; rw [upd_s]; omega
        · rw [upd_n e]; exact hI m2 hm2
