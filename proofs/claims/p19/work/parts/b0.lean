section
theorem e_at {G : Nat → Nat} {B : AA} {R : RR} {N M : Nat} {p r : Int32} {k : Nat} (h : C_X1_at G B R N p r) (hM : R N 0 = M) (hk : (k : Int) = p.toInt) (h32 : k < 32) : r = B M k := by
  rcases h with ⟨c1, rfl⟩ | ⟨c1, n_6, hn_6, rfl⟩
  · omega
  · obtain rfl : n_6 = k := by omega
    rw [hM]
theorem e_put {G : Nat → Nat} {B : AA} {R : RR} {N M : Nat} {p v : Int32} {Z : AA} {k : Nat} (h : C_X1_put G B R N p v Z) (hM : R N 0 = M) (hk : (k : Int) = p.toInt) (h32 : k < 32) : Z = uA B M (upd (B M) k v) := by
  rcases h with ⟨c1, rfl⟩ | ⟨c1, n_6, hn_6, B_7, rfl, rfl⟩
  · omega
  · obtain rfl : n_6 = k := by omega
    rw [hM]
/-- w cells from f on are h's -/
def cpy (g : Nat → Int32) (f w : Nat) (h : Nat → Int32) : Nat → Int32 := fun c => if f ≤ c ∧ c < f + w then h (c - f) else g c
theorem cpy_z {g h : Nat → Int32} {f : Nat} : cpy g f 0 h = g := by
  funext c; unfold cpy; rw [if_neg (by omega)]
theorem cpy_s {g h : Nat → Int32} {f w k : Nat} {v : Int32} (hk : k = f + w) (hv : v = h w) : upd (cpy g f w h) k v = cpy g f (w + 1) h := by
  subst hk hv
  funext c
  unfold cpy
  by_cases e : c = f + w
  · subst e; rw [upd_s, if_pos (by omega), show f + w - f = w by omega]
  · rw [upd_n e]
    by_cases e2 : f ≤ c ∧ c < f + w
    · rw [if_pos e2, if_pos (by omega)]
    · rw [if_neg e2, if_neg (by omega)]
theorem cpy1 {g h : Nat → Int32} {f k0 : Nat} {v0 : Int32} (h0 : k0 = f) (a0 : v0 = h 0) : upd g k0 v0 = cpy g f 1 h := by
  have e := cpy_s (g := g) (h := h) (f := f) (w := 0) (k := k0) (v := v0) (by omega) a0
  rw [cpy_z] at e
  exact e
theorem cpy2 {g h : Nat → Int32} {f k0 k1 : Nat} {v0 v1 : Int32} (h0 : k0 = f) (a0 : v0 = h 0) (h1 : k1 = f + 1) (a1 : v1 = h 1) : upd (upd g k0 v0) k1 v1 = cpy g f 2 h := by
  rw [cpy1 h0 a0]; exact cpy_s h1 a1
theorem cpy3 {g h : Nat → Int32} {f k0 k1 k2 : Nat} {v0 v1 v2 : Int32} (h0 : k0 = f) (a0 : v0 = h 0) (h1 : k1 = f + 1) (a1 : v1 = h 1) (h2 : k2 = f + 2) (a2 : v2 = h 2) : upd (upd (upd g k0 v0) k1 v1) k2 v2 = cpy g f 3 h := by
  rw [cpy2 h0 a0 h1 a1]; exact cpy_s h2 a2
theorem cpy4 {g h : Nat → Int32} {f k0 k1 k2 k3 : Nat} {v0 v1 v2 v3 : Int32} (h0 : k0 = f) (a0 : v0 = h 0) (h1 : k1 = f + 1) (a1 : v1 = h 1) (h2 : k2 = f + 2) (a2 : v2 = h 2) (h3 : k3 = f + 3) (a3 : v3 = h 3) : upd (upd (upd (upd g k0 v0) k1 v1) k2 v2) k3 v3 = cpy g f 4 h := by
  rw [cpy3 h0 a0 h1 a1 h2 a2]; exact cpy_s h3 a3
theorem min4 {a b : Int32} (h : b = if 4 < a then 4 else a) : b.toInt = if 4 < a.toInt then 4 else a.toInt := by
  by_cases e : 4 < a
  · have e2 := e
    rw [lt_I, i_4] at e2
    rw [h, if_pos e, if_pos e2]; exact i_4
  · have e2 := e
    rw [lt_I, i_4] at e2
    rw [h, if_neg e, if_neg e2]
theorem off_t {a b : Int32} (h : 0 ≤ a.toInt ∧ a.toInt ≤ 64) (hb : 0 ≤ b.toInt ∧ b.toInt ≤ 64) : (a + b).toInt = a.toInt + b.toInt := s_add (by omega) (by omega)
theorem e_load {G : Nat → Nat} {B : AA} {R : RR} {a N M : Nat} {f n : Int32} {Z : AA} {f0 : Nat} (h : C_X2_load G B R a N f n Z) (ha : R a 7 = a + 1) (hM : R N 0 = M) (h1 : M ≠ a) (h2 : M ≠ a + 1) (hf : (f0 : Int) = f.toInt) (h32 : f.toInt + n.toInt ≤ 32) (hn : 0 ≤ n.toInt) (hf2 : f.toInt ≤ 32) : ∃ (c : Int32) (w : Nat), (c = if 4 < n then 4 else n) ∧ (c.toInt = if 4 < n.toInt then 4 else n.toInt) ∧ (w : Int) = c.toInt ∧ Z = uA (uA B a (upd (B a) 3 c)) (a + 1) (cpy (B (a + 1)) 0 w (fun k => B M (f0 + k))) := by
  have i0 := i_0
  have i1 := i_1
  have i2 := i_2
  have i3 := i_3
  rcases h with ⟨x_1, ex_1, B_4, rfl, c1, rfl⟩ | ⟨x_1, ex_1, B_4, rfl, c1, x_9, ex_9, r_11, hat, B_13, rfl, c2, rfl⟩ | ⟨x_1, ex_1, B_4, rfl, c1, x_9, ex_9, r_11, hat, B_13, rfl, c2, x_17, ex_17, r_19, hat_1, B_21, rfl, c3, rfl⟩ | ⟨x_1, ex_1, B_4, rfl, c1, x_9, ex_9, r_11, hat, B_13, rfl, c2, x_17, ex_17, r_19, hat_1, B_21, rfl, c3, x_25, ex_25, r_27, hat_2, B_29, rfl, c4, rfl⟩ | ⟨x_1, ex_1, B_4, rfl, c1, x_9, ex_9, r_11, hat, B_13, rfl, c2, x_17, ex_17, r_19, hat_1, B_21, rfl, c3, x_25, ex_25, r_27, hat_2, B_29, rfl, c4, x_33, ex_33, r_35, hat_3, B_37, rfl, rfl⟩
  all_goals
    have e4 := min4 ex_1
    try rw [ha]
  · refine ⟨x_1, 0, ex_1, e4, by omega, ?_⟩
    rw [cpy_z, show B (a + 1) = uA B a (upd (B a) 3 x_1) (a + 1) from (uA_n (by omega)).symm, uA_ii]
  · refine ⟨x_1, 1, ex_1, e4, by omega, ?_⟩
    have o0 := off_t (a := f) (b := 0) (by omega) (by decide)
    have t0 := e_at hat hM (k := f0 + 0) (by rw [ex_9]; omega) (by omega)
    rw [uA_n h1] at t0
    try simp only [uA_u, uA_s]
    rw [uA_n (show a + 1 ≠ a by omega)]
    rw [cpy1 (f := 0) (h := fun k => B M (f0 + k)) (by omega) t0]
  · refine ⟨x_1, 2, ex_1, e4, by omega, ?_⟩
    have o0 := off_t (a := f) (b := 0) (by omega) (by decide)
    have t0 := e_at hat hM (k := f0 + 0) (by rw [ex_9]; omega) (by omega)
    rw [uA_n h1] at t0
    have o1 := off_t (a := f) (b := 1) (by omega) (by decide)
    have t1 := e_at hat_1 hM (k := f0 + 1) (by rw [ex_17]; omega) (by omega)
    rw [ha, uA_n h2, uA_n h1] at t1
    try simp only [uA_u, uA_s]
    rw [uA_n (show a + 1 ≠ a by omega)]
    rw [cpy2 (f := 0) (h := fun k => B M (f0 + k)) (by omega) t0 (by omega) t1]
  · refine ⟨x_1, 3, ex_1, e4, by omega, ?_⟩
    have o0 := off_t (a := f) (b := 0) (by omega) (by decide)
    have t0 := e_at hat hM (k := f0 + 0) (by rw [ex_9]; omega) (by omega)
    rw [uA_n h1] at t0
    have o1 := off_t (a := f) (b := 1) (by omega) (by decide)
    have t1 := e_at hat_1 hM (k := f0 + 1) (by rw [ex_17]; omega) (by omega)
    rw [ha, uA_n h2, uA_n h1] at t1
    have o2 := off_t (a := f) (b := 2) (by omega) (by decide)
    have t2 := e_at hat_2 hM (k := f0 + 2) (by rw [ex_25]; omega) (by omega)
    rw [ha, uA_n h2, uA_n h2, uA_n h1] at t2
    try simp only [uA_u, uA_s]
    rw [uA_n (show a + 1 ≠ a by omega)]
    rw [cpy3 (f := 0) (h := fun k => B M (f0 + k)) (by omega) t0 (by omega) t1 (by omega) t2]
  · refine ⟨x_1, 4, ex_1, e4, by omega, ?_⟩
    have o0 := off_t (a := f) (b := 0) (by omega) (by decide)
    have t0 := e_at hat hM (k := f0 + 0) (by rw [ex_9]; omega) (by omega)
    rw [uA_n h1] at t0
    have o1 := off_t (a := f) (b := 1) (by omega) (by decide)
    have t1 := e_at hat_1 hM (k := f0 + 1) (by rw [ex_17]; omega) (by omega)
    rw [ha, uA_n h2, uA_n h1] at t1
    have o2 := off_t (a := f) (b := 2) (by omega) (by decide)
    have t2 := e_at hat_2 hM (k := f0 + 2) (by rw [ex_25]; omega) (by omega)
    rw [ha, uA_n h2, uA_n h2, uA_n h1] at t2
    have o3 := off_t (a := f) (b := 3) (by omega) (by decide)
    have t3 := e_at hat_3 hM (k := f0 + 3) (by rw [ex_33]; omega) (by omega)
    rw [ha, uA_n h2, uA_n h2, uA_n h2, uA_n h1] at t3
    try simp only [uA_u, uA_s]
    rw [uA_n (show a + 1 ≠ a by omega)]
    rw [cpy4 (f := 0) (h := fun k => B M (f0 + k)) (by omega) t0 (by omega) t1 (by omega) t2 (by omega) t3]

theorem r_load {A : AA} {cd pk r q f n : Int32} {Z : AA} {cdz pkz : Int32} {f0 nd w : Nat} (h : D_X10_load A cd pk r q f n Z cdz pkz) (hq : (nd : Int) = q.toInt % 2) (hf : (f0 : Int) = f.toInt) (hw : (w : Int) = n.toInt) (h4 : n.toInt ≤ 4) : cdz = cd ∧ pkz = pk ∧ ((r.toInt < 0 ∧ Z = A) ∨ (0 ≤ r.toInt ∧ ∃ m : Nat, (m : Int) = r.toInt ∧ Z = uA (uA A 44 (upd (A 44) m n)) 48 (cpy (A 48) (4 * m) w (fun k => A 4 (32 * nd + f0 + k))))) := by
  rcases h with ⟨c1, n_4, hn_4, g_3, rfl, c2, rfl, rfl, rfl⟩ | ⟨c1, n_4, hn_4, g_3, rfl, c2, x_7, ex_7, fx_7, x_8, ex_8, fx_8, x_9, ex_9, fx_9, x_10, ex_10, fx_10, x_11, ex_11, fx_11, x_12, ex_12, fx_12, n_15, hn_15, n_18, hn_18, g_17, rfl, c3, rfl, rfl, rfl⟩ | ⟨c1, n_4, hn_4, g_3, rfl, c2, x_7, ex_7, fx_7, x_8, ex_8, fx_8, x_9, ex_9, fx_9, x_10, ex_10, fx_10, x_11, ex_11, fx_11, x_12, ex_12, fx_12, n_15, hn_15, n_18, hn_18, g_17, rfl, c3, x_21, ex_21, fx_21, x_22, ex_22, fx_22, x_23, ex_23, fx_23, x_24, ex_24, fx_24, x_25, ex_25, fx_25, n_28, hn_28, n_31, hn_31, g_30, rfl, c4, rfl, rfl, rfl⟩ | ⟨c1, n_4, hn_4, g_3, rfl, c2, x_7, ex_7, fx_7, x_8, ex_8, fx_8, x_9, ex_9, fx_9, x_10, ex_10, fx_10, x_11, ex_11, fx_11, x_12, ex_12, fx_12, n_15, hn_15, n_18, hn_18, g_17, rfl, c3, x_21, ex_21, fx_21, x_22, ex_22, fx_22, x_23, ex_23, fx_23, x_24, ex_24, fx_24, x_25, ex_25, fx_25, n_28, hn_28, n_31, hn_31, g_30, rfl, c4, x_34, ex_34, fx_34, x_35, ex_35, fx_35, x_36, ex_36, fx_36, x_37, ex_37, fx_37, x_38, ex_38, fx_38, n_41, hn_41, n_44, hn_44, g_43, rfl, c5, rfl, rfl, rfl⟩ | ⟨c1, n_4, hn_4, g_3, rfl, c2, x_7, ex_7, fx_7, x_8, ex_8, fx_8, x_9, ex_9, fx_9, x_10, ex_10, fx_10, x_11, ex_11, fx_11, x_12, ex_12, fx_12, n_15, hn_15, n_18, hn_18, g_17, rfl, c3, x_21, ex_21, fx_21, x_22, ex_22, fx_22, x_23, ex_23, fx_23, x_24, ex_24, fx_24, x_25, ex_25, fx_25, n_28, hn_28, n_31, hn_31, g_30, rfl, c4, x_34, ex_34, fx_34, x_35, ex_35, fx_35, x_36, ex_36, fx_36, x_37, ex_37, fx_37, x_38, ex_38, fx_38, n_41, hn_41, n_44, hn_44, g_43, rfl, c5, x_47, ex_47, fx_47, x_48, ex_48, fx_48, x_49, ex_49, fx_49, x_50, ex_50, fx_50, x_51, ex_51, fx_51, n_54, hn_54, n_57, hn_57, g_56, rfl, rfl, rfl, rfl⟩ | ⟨c1, rfl, rfl, rfl⟩
  · obtain rfl : w = 0 := by omega
    refine ⟨rfl, rfl, Or.inr ⟨by omega, n_4, hn_4, ?_⟩⟩
    rw [cpy_z]
  · obtain rfl : w = 1 := by omega
    refine ⟨rfl, rfl, Or.inr ⟨by omega, n_4, hn_4, ?_⟩⟩
    rw [cpy1 (g := A 48) (f := 4 * n_4) (h := fun k => A 4 (32 * nd + f0 + k)) (by omega) (by show A 4 _ = A 4 _; congr 1; omega)]
  · obtain rfl : w = 2 := by omega
    refine ⟨rfl, rfl, Or.inr ⟨by omega, n_4, hn_4, ?_⟩⟩
    rw [cpy2 (g := A 48) (f := 4 * n_4) (h := fun k => A 4 (32 * nd + f0 + k)) (by omega) (by show A 4 _ = A 4 _; congr 1; omega) (by omega) (by show A 4 _ = A 4 _; congr 1; omega)]
  · obtain rfl : w = 3 := by omega
    refine ⟨rfl, rfl, Or.inr ⟨by omega, n_4, hn_4, ?_⟩⟩
    rw [cpy3 (g := A 48) (f := 4 * n_4) (h := fun k => A 4 (32 * nd + f0 + k)) (by omega) (by show A 4 _ = A 4 _; congr 1; omega) (by omega) (by show A 4 _ = A 4 _; congr 1; omega) (by omega) (by show A 4 _ = A 4 _; congr 1; omega)]
  · obtain rfl : w = 4 := by omega
    refine ⟨rfl, rfl, Or.inr ⟨by omega, n_4, hn_4, ?_⟩⟩
    rw [cpy4 (g := A 48) (f := 4 * n_4) (h := fun k => A 4 (32 * nd + f0 + k)) (by omega) (by show A 4 _ = A 4 _; congr 1; omega) (by omega) (by show A 4 _ = A 4 _; congr 1; omega) (by omega) (by show A 4 _ = A 4 _; congr 1; omega) (by omega) (by show A 4 _ = A 4 _; congr 1; omega)]
  · exact ⟨rfl, rfl, Or.inl ⟨by omega, by simp only [uA_ii]⟩⟩

theorem r_take {A : AA} {cd pk to n : Int32} {Z : AA} {cdz pkz : Int32} {f0 w : Nat} (h : D_X10_takeCells A cd pk to n Z cdz pkz) (hf : (f0 : Int) = to.toInt) (hw : (w : Int) = n.toInt) (h4 : n.toInt ≤ 4) : cdz = cd ∧ pkz = pk ∧ Z = uA A 4 (cpy (A 4) f0 w (fun k => A 48 (96 + k))) := by
  rcases h with ⟨c1, rfl, rfl, rfl⟩ | ⟨c1, x_2, ex_2, fx_2, n_6, hn_6, g_5, rfl, c2, rfl, rfl, rfl⟩ | ⟨c1, x_2, ex_2, fx_2, n_6, hn_6, g_5, rfl, c2, x_8, ex_8, fx_8, n_12, hn_12, g_11, rfl, c3, rfl, rfl, rfl⟩ | ⟨c1, x_2, ex_2, fx_2, n_6, hn_6, g_5, rfl, c2, x_8, ex_8, fx_8, n_12, hn_12, g_11, rfl, c3, x_14, ex_14, fx_14, n_18, hn_18, g_17, rfl, c4, rfl, rfl, rfl⟩ | ⟨c1, x_2, ex_2, fx_2, n_6, hn_6, g_5, rfl, c2, x_8, ex_8, fx_8, n_12, hn_12, g_11, rfl, c3, x_14, ex_14, fx_14, n_18, hn_18, g_17, rfl, c4, x_20, ex_20, fx_20, n_24, hn_24, g_23, rfl, rfl, rfl, rfl⟩
  · obtain rfl : w = 0 := by omega
    refine ⟨rfl, rfl, ?_⟩
    rw [cpy_z]
  · obtain rfl : w = 1 := by omega
    refine ⟨rfl, rfl, ?_⟩
    rw [cpy1 (g := A 4) (f := f0) (h := fun k => A 48 (96 + k)) (by omega) (by show A 48 _ = A 48 _; congr 1; try omega)]
  · obtain rfl : w = 2 := by omega
    refine ⟨rfl, rfl, ?_⟩
    rw [cpy2 (g := A 4) (f := f0) (h := fun k => A 48 (96 + k)) (by omega) (by show A 48 _ = A 48 _; congr 1; try omega) (by omega) (by show A 48 _ = A 48 _; congr 1; try omega)]
  · obtain rfl : w = 3 := by omega
    refine ⟨rfl, rfl, ?_⟩
    rw [cpy3 (g := A 4) (f := f0) (h := fun k => A 48 (96 + k)) (by omega) (by show A 48 _ = A 48 _; congr 1; try omega) (by omega) (by show A 48 _ = A 48 _; congr 1; try omega) (by omega) (by show A 48 _ = A 48 _; congr 1; try omega)]
  · obtain rfl : w = 4 := by omega
    refine ⟨rfl, rfl, ?_⟩
    rw [cpy4 (g := A 4) (f := f0) (h := fun k => A 48 (96 + k)) (by omega) (by show A 48 _ = A 48 _; congr 1; try omega) (by omega) (by show A 48 _ = A 48 _; congr 1; try omega) (by omega) (by show A 48 _ = A 48 _; congr 1; try omega) (by omega) (by show A 48 _ = A 48 _; congr 1; try omega)]

theorem e_unload {G : Nat → Nat} {B : AA} {R : RR} {a N M : Nat} {f mo : Int32} {Z : AA} {f0 : Nat} (h : C_X2_unload G B R a N f mo Z) (ha : R a 7 = a + 1) (hM : R N 0 = M) (h1 : M ≠ a) (h2 : M ≠ a + 1) (hf : (f0 : Int) = f.toInt) (hf2 : f.toInt ≤ 32) (h4 : (B a 3).toInt ≤ 4) (h32 : f.toInt + (B a 3).toInt ≤ 32 ∨ f.toInt + mo.toInt ≤ 32) : ∃ w : Nat, ((w : Int) = 0 ∧ ((B a 3).toInt ≤ 0 ∨ mo.toInt ≤ 0) ∨ (0 < (B a 3).toInt ∧ 0 < mo.toInt ∧ (w : Int) = if (B a 3).toInt ≤ mo.toInt then (B a 3).toInt else mo.toInt)) ∧ Z = uA B M (cpy (B M) f0 w (B (a + 1))) := by
  have i0 := i_0
  have i1 := i_1
  have i2 := i_2
  have i3 := i_3
  rcases h with ⟨c1, rfl⟩ | ⟨c1, c2, rfl⟩ | ⟨c1, c2, x_6, ex_6, U_11, hF, hput, c3, rfl⟩ | ⟨c1, c2, x_6, ex_6, U_11, hF, hput, c3, c4, rfl⟩ | ⟨c1, c2, x_6, ex_6, U_11, hF, hput, c3, c4, x_17, ex_17, U_22, hF_1, hput_1, c5, rfl⟩ | ⟨c1, c2, x_6, ex_6, U_11, hF, hput, c3, c4, x_17, ex_17, U_22, hF_1, hput_1, c5, c6, rfl⟩ | ⟨c1, c2, x_6, ex_6, U_11, hF, hput, c3, c4, x_17, ex_17, U_22, hF_1, hput_1, c5, c6, x_28, ex_28, U_33, hF_2, hput_2, c7, rfl⟩ | ⟨c1, c2, x_6, ex_6, U_11, hF, hput, c3, c4, x_17, ex_17, U_22, hF_1, hput_1, c5, c6, x_28, ex_28, U_33, hF_2, hput_2, c7, c8, rfl⟩ | ⟨c1, c2, x_6, ex_6, U_11, hF, hput, c3, c4, x_17, ex_17, U_22, hF_1, hput_1, c5, c6, x_28, ex_28, U_33, hF_2, hput_2, c7, c8, x_39, ex_39, U_44, hF_3, hput_3, c9, rfl⟩ | ⟨c1, c2, x_6, ex_6, U_11, hF, hput, c3, c4, x_17, ex_17, U_22, hF_1, hput_1, c5, c6, x_28, ex_28, U_33, hF_2, hput_2, c7, c8, x_39, ex_39, U_44, hF_3, hput_3, c9, c10, rfl⟩ | ⟨c1, c2, x_6, ex_6, U_11, hF, hput, c3, c4, x_17, ex_17, U_22, hF_1, hput_1, c5, c6, x_28, ex_28, U_33, hF_2, hput_2, c7, c8, x_39, ex_39, U_44, hF_3, hput_3, c9, c10, rfl⟩
  · refine ⟨0, ?_, ?_⟩
    · first
        | (left; exact ⟨by omega, by omega⟩)
        | (right; refine ⟨by omega, by omega, ?_⟩; split <;> omega)
    · rw [cpy_z, uA_ii]
  · refine ⟨0, ?_, ?_⟩
    · first
        | (left; exact ⟨by omega, by omega⟩)
        | (right; refine ⟨by omega, by omega, ?_⟩; split <;> omega)
    · rw [cpy_z, uA_ii]
  · refine ⟨1, ?_, ?_⟩
    · first
        | (right; refine ⟨by omega, by omega, ?_⟩; split <;> omega)
        | (left; exact ⟨by omega, by omega⟩)
    · have o0 := off_t (a := f) (b := 0) (by omega) (by decide)
      rw [ha] at hput
      have t0 := e_put hput hM (k := f0 + 0) (by rw [ex_6]; omega) (by omega)
      rw [t0]
      try simp only [uA_u, uA_s]
      rw [cpy1 (f := f0) (h := B (a + 1)) (by omega) rfl]
  · refine ⟨1, ?_, ?_⟩
    · first
        | (right; refine ⟨by omega, by omega, ?_⟩; split <;> omega)
        | (left; exact ⟨by omega, by omega⟩)
    · have o0 := off_t (a := f) (b := 0) (by omega) (by decide)
      rw [ha] at hput
      have t0 := e_put hput hM (k := f0 + 0) (by rw [ex_6]; omega) (by omega)
      rw [t0]
      try simp only [uA_u, uA_s]
      rw [cpy1 (f := f0) (h := B (a + 1)) (by omega) rfl]
  · refine ⟨2, ?_, ?_⟩
    · first
        | (right; refine ⟨by omega, by omega, ?_⟩; split <;> omega)
        | (left; exact ⟨by omega, by omega⟩)
    · have o0 := off_t (a := f) (b := 0) (by omega) (by decide)
      rw [ha] at hput
      have t0 := e_put hput hM (k := f0 + 0) (by rw [ex_6]; omega) (by omega)
      have o1 := off_t (a := f) (b := 1) (by omega) (by decide)
      rw [ha] at hput_1
      have t1 := e_put hput_1 hM (k := f0 + 1) (by rw [ex_17]; omega) (by omega)
      rw [t1, t0]
      try simp only [uA_u, uA_s]
      rw [cpy2 (f := f0) (h := B (a + 1)) (by omega) rfl (by omega) rfl]
  · refine ⟨2, ?_, ?_⟩
    · first
        | (right; refine ⟨by omega, by omega, ?_⟩; split <;> omega)
        | (left; exact ⟨by omega, by omega⟩)
    · have o0 := off_t (a := f) (b := 0) (by omega) (by decide)
      rw [ha] at hput
      have t0 := e_put hput hM (k := f0 + 0) (by rw [ex_6]; omega) (by omega)
      have o1 := off_t (a := f) (b := 1) (by omega) (by decide)
      rw [ha] at hput_1
      have t1 := e_put hput_1 hM (k := f0 + 1) (by rw [ex_17]; omega) (by omega)
      rw [t1, t0]
      try simp only [uA_u, uA_s]
      rw [cpy2 (f := f0) (h := B (a + 1)) (by omega) rfl (by omega) rfl]
  · refine ⟨3, ?_, ?_⟩
    · first
        | (right; refine ⟨by omega, by omega, ?_⟩; split <;> omega)
        | (left; exact ⟨by omega, by omega⟩)
    · have o0 := off_t (a := f) (b := 0) (by omega) (by decide)
      rw [ha] at hput
      have t0 := e_put hput hM (k := f0 + 0) (by rw [ex_6]; omega) (by omega)
      have o1 := off_t (a := f) (b := 1) (by omega) (by decide)
      rw [ha] at hput_1
      have t1 := e_put hput_1 hM (k := f0 + 1) (by rw [ex_17]; omega) (by omega)
      have o2 := off_t (a := f) (b := 2) (by omega) (by decide)
      rw [ha] at hput_2
      have t2 := e_put hput_2 hM (k := f0 + 2) (by rw [ex_28]; omega) (by omega)
      rw [t2, t1, t0]
      try simp only [uA_u, uA_s]
      rw [cpy3 (f := f0) (h := B (a + 1)) (by omega) rfl (by omega) rfl (by omega) rfl]
  · refine ⟨3, ?_, ?_⟩
    · first
        | (right; refine ⟨by omega, by omega, ?_⟩; split <;> omega)
        | (left; exact ⟨by omega, by omega⟩)
    · have o0 := off_t (a := f) (b := 0) (by omega) (by decide)
      rw [ha] at hput
      have t0 := e_put hput hM (k := f0 + 0) (by rw [ex_6]; omega) (by omega)
      have o1 := off_t (a := f) (b := 1) (by omega) (by decide)
      rw [ha] at hput_1
      have t1 := e_put hput_1 hM (k := f0 + 1) (by rw [ex_17]; omega) (by omega)
      have o2 := off_t (a := f) (b := 2) (by omega) (by decide)
      rw [ha] at hput_2
      have t2 := e_put hput_2 hM (k := f0 + 2) (by rw [ex_28]; omega) (by omega)
      rw [t2, t1, t0]
      try simp only [uA_u, uA_s]
      rw [cpy3 (f := f0) (h := B (a + 1)) (by omega) rfl (by omega) rfl (by omega) rfl]
  · refine ⟨4, ?_, ?_⟩
    · first
        | (right; refine ⟨by omega, by omega, ?_⟩; split <;> omega)
        | (left; exact ⟨by omega, by omega⟩)
    · have o0 := off_t (a := f) (b := 0) (by omega) (by decide)
      rw [ha] at hput
      have t0 := e_put hput hM (k := f0 + 0) (by rw [ex_6]; omega) (by omega)
      have o1 := off_t (a := f) (b := 1) (by omega) (by decide)
      rw [ha] at hput_1
      have t1 := e_put hput_1 hM (k := f0 + 1) (by rw [ex_17]; omega) (by omega)
      have o2 := off_t (a := f) (b := 2) (by omega) (by decide)
      rw [ha] at hput_2
      have t2 := e_put hput_2 hM (k := f0 + 2) (by rw [ex_28]; omega) (by omega)
      have o3 := off_t (a := f) (b := 3) (by omega) (by decide)
      rw [ha] at hput_3
      have t3 := e_put hput_3 hM (k := f0 + 3) (by rw [ex_39]; omega) (by omega)
      rw [t3, t2, t1, t0]
      try simp only [uA_u, uA_s]
      rw [cpy4 (f := f0) (h := B (a + 1)) (by omega) rfl (by omega) rfl (by omega) rfl (by omega) rfl]
  · refine ⟨4, ?_, ?_⟩
    · first
        | (right; refine ⟨by omega, by omega, ?_⟩; split <;> omega)
        | (left; exact ⟨by omega, by omega⟩)
    · have o0 := off_t (a := f) (b := 0) (by omega) (by decide)
      rw [ha] at hput
      have t0 := e_put hput hM (k := f0 + 0) (by rw [ex_6]; omega) (by omega)
      have o1 := off_t (a := f) (b := 1) (by omega) (by decide)
      rw [ha] at hput_1
      have t1 := e_put hput_1 hM (k := f0 + 1) (by rw [ex_17]; omega) (by omega)
      have o2 := off_t (a := f) (b := 2) (by omega) (by decide)
      rw [ha] at hput_2
      have t2 := e_put hput_2 hM (k := f0 + 2) (by rw [ex_28]; omega) (by omega)
      have o3 := off_t (a := f) (b := 3) (by omega) (by decide)
      rw [ha] at hput_3
      have t3 := e_put hput_3 hM (k := f0 + 3) (by rw [ex_39]; omega) (by omega)
      rw [t3, t2, t1, t0]
      try simp only [uA_u, uA_s]
      rw [cpy4 (f := f0) (h := B (a + 1)) (by omega) rfl (by omega) rfl (by omega) rfl (by omega) rfl]
  · refine ⟨4, ?_, ?_⟩
    · first
        | (right; refine ⟨by omega, by omega, ?_⟩; split <;> omega)
        | (left; exact ⟨by omega, by omega⟩)
    · have o0 := off_t (a := f) (b := 0) (by omega) (by decide)
      rw [ha] at hput
      have t0 := e_put hput hM (k := f0 + 0) (by rw [ex_6]; omega) (by omega)
      have o1 := off_t (a := f) (b := 1) (by omega) (by decide)
      rw [ha] at hput_1
      have t1 := e_put hput_1 hM (k := f0 + 1) (by rw [ex_17]; omega) (by omega)
      have o2 := off_t (a := f) (b := 2) (by omega) (by decide)
      rw [ha] at hput_2
      have t2 := e_put hput_2 hM (k := f0 + 2) (by rw [ex_28]; omega) (by omega)
      have o3 := off_t (a := f) (b := 3) (by omega) (by decide)
      rw [ha] at hput_3
      have t3 := e_put hput_3 hM (k := f0 + 3) (by rw [ex_39]; omega) (by omega)
      rw [t3, t2, t1, t0]
      try simp only [uA_u, uA_s]
      rw [cpy4 (f := f0) (h := B (a + 1)) (by omega) rfl (by omega) rfl (by omega) rfl (by omega) rfl]
end
section
theorem upd_u {f : Nat → Int32} {n : Nat} {a b : Int32} : upd (upd f n a) n b = upd f n b := by
  funext k
  by_cases e : k = n
  · subst e; rw [upd_s, upd_s]
  · rw [upd_n e, upd_n e, upd_n e]
/-- what the steps need of the reference's arrays -/
def RW (A : AA) (pk : Int32) : Prop := I3 (A 8) ∧ (∀ q, q < 4 → (0 ≤ (A 20 q).toInt ∧ (A 20 q).toInt ≤ 4) ∧ (0 ≤ (A 30 q).toInt ∧ (A 30 q).toInt ≤ 4)) ∧ 0 ≤ pk.toInt ∧ pk.toInt ≤ 24
theorem RIV.w {A : AA} {pk : Int32} (h : RIV A pk) : RW A pk := ⟨h.1.2.1, fun _ hq => h.c4 hq, h.2⟩
theorem RW.of {A : AA} {pk : Int32} {a b : Nat → Int32} (h3 : I3 (A 8)) (h8 : I8 (A 20) (A 30) a b) (hp : 0 ≤ pk.toInt ∧ pk.toInt ≤ 24) : RW A pk := ⟨h3, fun q hq => by
  have k := h8 q hq
  omega, hp⟩
theorem RW.cg {A A' : AA} {pk : Int32} (h : RW A pk) (h8 : A' 8 = A 8) (h20 : A' 20 = A 20) (h30 : A' 30 = A 30) : RW A' pk := by
  unfold RW
  rw [h8, h20, h30]
  exact h
theorem TKP.cg {x tk : Nat} {B Z A A' : AA} (h : TKP x tk B A) (htk : tk < 26) (hZ : ∀ a, x + 1 ≤ a → a < x + 55 → Z a = B a) (hA : ∀ j, 41 ≤ j → j ≤ 48 → A' j = A j) : TKP x tk Z A' :=
  PKT.cg h (hZ _ (by omega) (by omega)) (hZ _ (by omega) (by omega)) (fun j a b => by rw [hA j a (by omega)]) (fun k _ => by rw [hA 48 (by omega) (by omega)])
/-- a change within a pair and a node's completions -/
theorem SIM.prw {x q n : Nat} {t0 t1 t2 : Int32} {B Z : AA} {R : RR} {A A' : AA} {pk : Int32} (h : SIM x t0 t1 t2 B R A pk) (hV : RW A pk) (hq : q < 4) (hn : n < 2) (hZ : ∀ a, a ≠ x + 56 + 10 * n → a ≠ x + 59 + 10 * n → ¬ (x + 77 + 17 * q ≤ a ∧ a < x + 94 + 17 * q) → Z a = B a) (hN : ∀ m, m < 2 → NS x m Z (A' 8) (A' 9)) (hP : PQ x q t0 t1 t2 Z A') (hA : ∀ q', q' ≠ q → AGR q' A A') (hj : ∀ j, j ≠ 8 → j ≠ 9 → (j < 10 ∨ 39 < j) → A' j = A j) : SIM x t0 t1 t2 Z R A' pk := by
  obtain ⟨h1, ⟨pm, tk, h2, h3⟩, h4, h5, h6, h7⟩ := h
  refine ⟨h1, ⟨pm, tk, h2, h3.cg (fun a k1 k2 => hZ a (by omega) (by omega) (by omega)) (fun j k1 k2 => hj j (by omega) (by omega) (by omega)) hV.2.2.2 (fun i hi => (h2.2.2.2.2.1 i hi).1)⟩, fun m hm c hc => ?_, fun m hm j hj2 => ?_, hN, fun q' hq' => ?_⟩
  · rw [hZ _ (by omega) (by omega) (by omega), hj 4 (by omega) (by omega) (by omega)]
    exact h4 m hm c hc
  · rw [hZ _ (by omega) (by omega) (by omega), hj 5 (by omega) (by omega) (by omega), hj 6 (by omega) (by omega) (by omega), hj 7 (by omega) (by omega) (by omega)]
    exact h5 m hm j hj2
  · by_cases e : q' = q
    · subst e; exact hP
    · exact (h7 q' hq').cg (fun a k1 k2 => hZ a (by omega) (by omega) (by omega)) (hA q' e) (hV.2.1 q' hq').1.2 (hV.2.1 q' hq').2.2
/-- a change of a pair's numbers, clock and marks alone -/
theorem SIM.sc {x q : Nat} {t0 t1 t2 : Int32} {B Z : AA} {R : RR} {A A' : AA} {pk : Int32} (h : SIM x t0 t1 t2 B R A pk) (hV : RW A pk) (hq : q < 4) (hZ : ∀ a, a ≠ x + 77 + 17 * q → a ≠ x + 84 + 17 * q → a ≠ x + 85 + 17 * q → Z a = B a) (hf : ∀ j, j < 7 → Z (x + 77 + 17 * q) j = B (x + 77 + 17 * q) j) (hg : Z (x + 85 + 17 * q) 0 = B (x + 85 + 17 * q) 0) (hA : ∀ j, ¬ (10 ≤ j ∧ j ≤ 19 ∨ j = 36) → A' j = A j) (hk : ∀ j k, k ≠ q → A' j k = A j k) (hP : PS x q t0 Z A') : SIM x t0 t1 t2 Z R A' pk := by
  obtain ⟨h1, ⟨pm, tk, h2, h3⟩, h4, h5, h6, h7⟩ := h
  refine ⟨h1, ⟨pm, tk, h2, h3.cg (fun a k1 k2 => hZ a (by omega) (by omega) (by omega)) (fun j k1 k2 => hA j (by omega)) hV.2.2.2 (fun i hi => (h2.2.2.2.2.1 i hi).1)⟩, ?_, ?_, fun m hm => ?_, fun q' hq' => ?_⟩
  · rw [hA 4 (by omega)]; exact h4.cg (fun n hn => hZ _ (by omega) (by omega) (by omega))
  · rw [hA 5 (by omega), hA 6 (by omega), hA 7 (by omega)]; exact h5.cg (fun n hn j hj => hZ _ (by omega) (by omega) (by omega))
  · exact (h6 m hm).cg (hZ _ (by omega) (by omega) (by omega)) (hZ _ (by omega) (by omega) (by omega)) (by rw [hA 8 (by omega)]) (fun k _ _ => by rw [hA 9 (by omega)]) (hV.1 m hm).2
  · by_cases e : q' = q
    · subst e
      obtain ⟨c1, c2, c3, c4, c5⟩ := h7 q' hq'
      exact ⟨c1.cg (fun j hj => hf j (by omega)) hg (by rw [hZ _ (by omega) (by omega) (by omega)]) (by rw [hZ _ (by omega) (by omega) (by omega)]), hP, c3.cg (hZ _ (by omega) (by omega) (by omega)) (fun i _ => hZ _ (by omega) (by omega) (by omega)) (by rw [hA 20 (by omega)]) (by rw [hA 21 (by omega)]) (fun j k1 k2 i hi => by rw [hA j (by omega)]) (hV.2.1 q' hq').1.2, c4.cg (hZ _ (by omega) (by omega) (by omega)) (fun i _ => hZ _ (by omega) (by omega) (by omega)) (by rw [hA 30 (by omega)]) (by rw [hA 31 (by omega)]) (fun j k1 k2 i hi => by rw [hA j (by omega)]) (hV.2.1 q' hq').2.2, c5.cg (hZ _ (by omega) (by omega) (by omega)) (hZ _ (by omega) (by omega) (by omega)) (by rw [hA 37 (by omega)]) (fun i hi => by rw [hA 38 (by omega)]) (fun i hi => by rw [hA 39 (by omega)])⟩
    · exact (h7 q' hq').cg (fun a k1 k2 => hZ a (by omega) (by omega) (by omega)) ⟨fun j _ _ => Or.inl (hk j q' e), fun j hj i _ => by rw [hA j (by omega)], fun j hj i _ => by rw [hA j (by omega)]⟩ (hV.2.1 q' hq').1.2 (hV.2.1 q' hq').2.2
/-- a pair fails -/
theorem SIM.fail {x q : Nat} {G : Nat → Nat} {B : AA} {R : RR} {A : AA} {t0 t1 t2 pk : Int32} (h : SIM x t0 t1 t2 B R A pk) (hV : RW A pk) (hq : q < 4) {p c1 c2 st rs cd cdz pkz : Int32} {Z A' : AA} (hp : (q : Int) = p.toInt) (e1 : c1 = if 0 < st.toInt then st else 5) (e2 : c2 = if 0 < rs.toInt then rs else 5) (hc : C_X3_fail G B R (x + 84 + 17 * q) c1 c2 Z) (hd : D_X10_failPair A cd pk p st rs A' cdz pkz) : cdz = cd ∧ pkz = pk ∧ SIM x t0 t1 t2 Z R A' pk ∧ (∀ a, x + 1 ≤ a → a < x + 55 → Z a = B a) ∧ (∀ j, 40 ≤ j → A' j = A j) := by
  obtain ⟨a1, a2, a3, a4, a5, a6, a7, a8⟩ := s_fail h.1 hq h.2.2.2.2.1 hV.1 (h.2.2.2.2.2 q hq) (hV.2.1 q hq) hp e1 e2 hc hd
  exact ⟨a1, a2, h.prw hV hq (n := q % 2) (by omega) a6 a3 a5 a7 (fun j k1 k2 k3 => a8 j k1 k2 (by omega) (by omega) (by omega) (by omega) (by omega)), fun a k1 k2 => a6 a (by omega) (by omega) (by omega), fun j k => a8 j (by omega) (by omega) (by omega) (by omega) (by omega) (by omega) (by omega)⟩
theorem e_wait {G : Nat → Nat} {B : AA} {R : RR} {H : Nat} {Z : AA} {r : Int32} (h : C_X7_waitsTooLong G B R H Z r) : ((B H 9).toInt = (B H 8).toInt ∧ (B H 13).toInt = 0 ∧ Z = B ∧ r.toInt = 0) ∨ (¬ ((B H 9).toInt = (B H 8).toInt ∧ (B H 13).toInt = 0) ∧ (((B H 13).toInt = 0 ∧ ¬ (B H 3).toInt ≤ (B H 10 + 1).toInt ∧ Z = uA B H (upd (B H) 10 (B H 10 + 1)) ∧ r.toInt = 0) ∨ ((B H 13).toInt = 0 ∧ (B H 3).toInt ≤ (B H 10 + 1).toInt ∧ (B H 11 + 1).toInt ≤ (B H 4).toInt ∧ Z = uA B H (upd (upd (upd (B H) 10 0) 11 (B H 11 + 1)) 9 (B H 8)) ∧ r.toInt = 0) ∨ ((B H 13).toInt = 0 ∧ (B H 3).toInt ≤ (B H 10 + 1).toInt ∧ ¬ (B H 11 + 1).toInt ≤ (B H 4).toInt ∧ Z = uA B H (upd (upd (B H) 10 0) 11 (B H 11 + 1)) ∧ r.toInt = 1) ∨ (¬ (B H 13).toInt = 0 ∧ ¬ 3 ≤ (B H 10 + 1).toInt ∧ Z = uA B H (upd (B H) 10 (B H 10 + 1)) ∧ r.toInt = 0) ∨ (¬ (B H 13).toInt = 0 ∧ 3 ≤ (B H 10 + 1).toInt ∧ Z = uA B H (upd (upd (B H) 10 0) 13 0) ∧ r.toInt = 0))) := by
  rcases h with ⟨c1, x_3, ex_3, B_4, rfl, c2, c3, B_11, rfl, c4, x_16, ex_16, B_17, rfl, c5, B_23, rfl, rfl, rfl⟩ | ⟨c1, x_3, ex_3, B_4, rfl, c2, c3, B_11, rfl, c4, x_16, ex_16, B_17, rfl, c5, rfl, rfl⟩ | ⟨c1, x_3, ex_3, B_4, rfl, c2, c3, B_11, rfl, c4, B_24, rfl, rfl, rfl⟩ | ⟨c1, x_3, ex_3, B_4, rfl, c2, c3, rfl, rfl⟩ | ⟨c1, x_3, ex_3, B_4, rfl, c2, c3, B_26, rfl, c4, x_31, ex_31, B_32, rfl, c5, B_38, rfl, rfl, rfl⟩ | ⟨c1, x_3, ex_3, B_4, rfl, c2, c3, B_26, rfl, c4, x_31, ex_31, B_32, rfl, c5, rfl, rfl⟩ | ⟨c1, x_3, ex_3, B_4, rfl, c2, c3, B_26, rfl, c4, B_39, rfl, rfl, rfl⟩ | ⟨c1, x_3, ex_3, B_4, rfl, c2, c3, rfl, rfl⟩ | ⟨c1, c2, x_41, ex_41, B_42, rfl, c3, c4, B_49, rfl, c5, x_54, ex_54, B_55, rfl, c6, B_61, rfl, rfl, rfl⟩ | ⟨c1, c2, x_41, ex_41, B_42, rfl, c3, c4, B_49, rfl, c5, x_54, ex_54, B_55, rfl, c6, rfl, rfl⟩ | ⟨c1, c2, x_41, ex_41, B_42, rfl, c3, c4, B_49, rfl, c5, B_62, rfl, rfl, rfl⟩ | ⟨c1, c2, x_41, ex_41, B_42, rfl, c3, c4, rfl, rfl⟩ | ⟨c1, c2, x_41, ex_41, B_42, rfl, c3, c4, B_64, rfl, c5, x_69, ex_69, B_70, rfl, c6, B_76, rfl, rfl, rfl⟩ | ⟨c1, c2, x_41, ex_41, B_42, rfl, c3, c4, B_64, rfl, c5, x_69, ex_69, B_70, rfl, c6, rfl, rfl⟩ | ⟨c1, c2, x_41, ex_41, B_42, rfl, c3, c4, B_64, rfl, c5, B_77, rfl, rfl, rfl⟩ | ⟨c1, c2, x_41, ex_41, B_42, rfl, c3, c4, rfl, rfl⟩ | ⟨c1, c2, rfl, rfl⟩
  all_goals first
    | exact Or.inl ⟨c1, c2, rfl, by decide⟩
    | (exfalso; omega)
    | (refine Or.inr ⟨by omega, ?_⟩
       first | subst ex_3 | subst ex_41
       first | subst ex_16 | subst ex_31 | subst ex_54 | subst ex_69 | skip
       first
         | exact Or.inl ⟨by assumption, by assumption, by first | rfl | simp only [uA_s, uA_u, upd_u], by decide⟩
         | exact Or.inr (Or.inl ⟨by assumption, by assumption, by assumption, by first | rfl | simp only [uA_s, uA_u, upd_u], by decide⟩)
         | exact Or.inr (Or.inr (Or.inl ⟨by assumption, by assumption, by assumption, by first | rfl | simp only [uA_s, uA_u, upd_u], by decide⟩))
         | exact Or.inr (Or.inr (Or.inr (Or.inl ⟨by assumption, by assumption, by first | rfl | simp only [uA_s, uA_u, upd_u], by decide⟩)))
         | exact Or.inr (Or.inr (Or.inr (Or.inr ⟨by assumption, by assumption, by first | rfl | simp only [uA_s, uA_u, upd_u], by decide⟩))))
/-- the numbers, clock and marks of a pair that stays ready -/
theorem PS.mk1 {x q : Nat} {t0 : Int32} {B Z A A' : AA} (h : PS x q t0 B A) (hst : (A 10 q).toInt = 1) {f : Nat → Int32} (e10 : A' 10 q = A 10 q) (z84 : Z (x + 84 + 17 * q) = B (x + 84 + 17 * q)) (z85 : Z (x + 85 + 17 * q) = B (x + 85 + 17 * q)) (z77 : Z (x + 77 + 17 * q) = f) (n7 : f 7 = A' 11 q) (n8 : f 8 = A' 12 q) (n9 : f 9 = A' 13 q) (n10 : f 10 = A' 15 q) (n11 : f 11 = A' 16 q) (n12 : f 12 = A' 17 q) (n13 : f 13 = A' 18 q) (tim : TIM t0 (A' 18 q) (A' 15 q)) (b18 : B01 (A' 18 q)) (e14 : A' 14 q = A 14 q) (e19 : A' 19 q = A 19 q) (e36 : A' 36 q = A 36 q) : PS x q t0 Z A' := by
  obtain ⟨p1, p2, p3, p4, p5, p6, p7, p8, p9, p10⟩ := h
  unfold PS
  rw [z84, z85, z77, e10, e14, e19, e36]
  exact ⟨p1, fun _ => ⟨n7, n8, n9, (p2 hst).2.2.2⟩, ⟨n10, n11, n12⟩, fun _ => ⟨n13, tim⟩, p5, p6, p7, b18, p9, p10⟩
theorem inc_t {a t : Int32} (h : 0 ≤ a.toInt) (h2 : a.toInt < t.toInt) : (a + 1).toInt = a.toInt + 1 := by
  have hb := s_bd t
  rw [add_t (by rw [i_1t]; omega) (by rw [i_1t]; omega), i_1t]
/-- the requester's numbers, clock and marks are changed -/
theorem SIM.rq {x q : Nat} {t0 t1 t2 : Int32} {B : AA} {R : RR} {A A' : AA} {pk : Int32} (h : SIM x t0 t1 t2 B R A pk) (hV : RW A pk) (hq : q < 4) (hst : (A 10 q).toInt = 1) {f : Nat → Int32} (hf : ∀ j, j < 7 → f j = B (x + 77 + 17 * q) j) (hA : ∀ j, ¬ (j = 12 ∨ j = 13 ∨ 15 ≤ j ∧ j ≤ 18) → A' j = A j) (hk : ∀ j k, k ≠ q → A' j k = A j k) (n7 : f 7 = A 11 q) (n8 : f 8 = A' 12 q) (n9 : f 9 = A' 13 q) (n10 : f 10 = A' 15 q) (n11 : f 11 = A' 16 q) (n12 : f 12 = A' 17 q) (n13 : f 13 = A' 18 q) (tim : TIM t0 (A' 18 q) (A' 15 q)) (b18 : B01 (A' 18 q)) : SIM x t0 t1 t2 (uA B (x + 77 + 17 * q) f) R A' pk :=
  h.sc hV hq (fun a k1 k2 k3 => uA_n k1) (fun j hj => by rw [uA_s]; exact hf j hj) (by rw [uA_n (by omega)]) (fun j hj => hA j (by omega)) hk (PS.mk1 (h.2.2.2.2.2 q hq).2.1 hst (by rw [hA 10 (by omega)]) (uA_n (by omega)) (uA_n (by omega)) uA_s (by rw [hA 11 (by omega)]; exact n7) n8 n9 n10 n11 n12 n13 tim b18 (by rw [hA 14 (by omega)]) (by rw [hA 19 (by omega)]) (by rw [hA 36 (by omega)]))
def TPD (t0 t1 : Int32) (A : AA) (n : Nat) (cd pk p : Int32) (A' : AA) (r : Int32) : Prop := ((A 13 n).toInt = (A 12 n).toInt ∧ (A 18 n).toInt = 0 ∧ A' = A ∧ r = 0) ∨ (¬ ((A 13 n).toInt = (A 12 n).toInt ∧ (A 18 n).toInt = 0) ∧ (((A 18 n).toInt = 0 ∧ ¬ (A 15 n + 1).toInt = t0.toInt ∧ A' = uA A 15 (upd (A 15) n (A 15 n + 1)) ∧ r = 0) ∨ ((A 18 n).toInt = 0 ∧ (A 15 n + 1).toInt = t0.toInt ∧ (A 16 n + 1).toInt ≤ t1.toInt ∧ A' = uA (uA (uA A 13 (upd (A 13) n (A 12 n))) 15 (upd (A 15) n 0)) 16 (upd (A 16) n (A 16 n + 1)) ∧ r = 0) ∨ ((A 18 n).toInt = 0 ∧ (A 15 n + 1).toInt = t0.toInt ∧ ¬ (A 16 n + 1).toInt ≤ t1.toInt ∧ (∃ A1, D_X10_failPair (uA (uA A 15 (upd (A 15) n 0)) 16 (upd (A 16) n (A 16 n + 1))) cd pk p 1 0 A1 cd pk ∧ A1 = A') ∧ r = 1) ∨ (¬ (A 18 n).toInt = 0 ∧ ¬ 3 ≤ (A 15 n + 1).toInt ∧ A' = uA A 15 (upd (A 15) n (A 15 n + 1)) ∧ r = 0) ∨ (¬ (A 18 n).toInt = 0 ∧ 3 ≤ (A 15 n + 1).toInt ∧ A' = uA (uA A 15 (upd (A 15) n 0)) 18 (upd (A 18) n 0) ∧ r = 0)))
theorem r_tickPair {t0 t1 t2 : Int32} {A : AA} {cd pk p : Int32} {A' : AA} {cdz pkz r : Int32} {n : Nat} (h : D_X10_tickPair t0 t1 t2 A cd pk p A' cdz pkz r) (hn : (n : Int) = p.toInt) : cdz = cd ∧ pkz = pk ∧ ((¬ (A 10 n).toInt = 1 ∧ A' = A ∧ r = 0) ∨ ((A 10 n).toInt = 1 ∧ TPD t0 t1 A n cd pk p A' r)) := by
  rcases h with ⟨n_1, hn_1, c1, rfl, rfl, rfl, rfl⟩ | ⟨n_1, hn_1, c1, c2, x_9, ex_9, g_10, rfl, c3, fx_9, g_15, rfl, x_17, ex_17, g_18, rfl, c4, g_22, rfl, rfl, rfl, rfl, rfl⟩ | ⟨n_1, hn_1, c1, c2, x_9, ex_9, g_10, rfl, c3, fx_9, g_15, rfl, x_17, ex_17, g_18, rfl, c4, ur_24, hfailPair, c5, c6, c7, rfl, rfl, rfl, rfl⟩ | ⟨n_1, hn_1, c1, c2, x_9, ex_9, g_10, rfl, c3, c4, rfl, rfl, rfl, rfl⟩ | ⟨n_1, hn_1, c1, c2, x_9, ex_9, g_10, rfl, c3, c4, g_27, rfl, g_28, rfl, rfl, rfl, rfl, rfl⟩ | ⟨n_1, hn_1, c1, c2, x_9, ex_9, g_10, rfl, c3, c4, rfl, rfl, rfl, rfl⟩ | ⟨n_1, hn_1, c1, c2, c3, x_32, ex_32, g_33, rfl, c4, fx_32, g_38, rfl, x_40, ex_40, g_41, rfl, c5, g_45, rfl, rfl, rfl, rfl, rfl⟩ | ⟨n_1, hn_1, c1, c2, c3, x_32, ex_32, g_33, rfl, c4, fx_32, g_38, rfl, x_40, ex_40, g_41, rfl, c5, ur_47, hfailPair, c6, c7, c8, rfl, rfl, rfl, rfl⟩ | ⟨n_1, hn_1, c1, c2, c3, x_32, ex_32, g_33, rfl, c4, c5, rfl, rfl, rfl, rfl⟩ | ⟨n_1, hn_1, c1, c2, c3, x_32, ex_32, g_33, rfl, c4, c5, g_50, rfl, g_51, rfl, rfl, rfl, rfl, rfl⟩ | ⟨n_1, hn_1, c1, c2, c3, x_32, ex_32, g_33, rfl, c4, c5, rfl, rfl, rfl, rfl⟩ | ⟨n_1, hn_1, c1, c2, c3, rfl, rfl, rfl, rfl⟩
  all_goals
    obtain rfl : n_1 = n := by omega
    refine ⟨rfl, rfl, ?_⟩
  · exact Or.inl ⟨c1, by simp only [uA_ii], rfl⟩
  · subst ex_9 ex_17
    refine Or.inr ⟨c1, Or.inr ⟨fun k => c2 k.1, Or.inr (Or.inl ⟨c3, fx_9, c4, ?_, rfl⟩)⟩⟩
    rw [upd_u]
    funext j
    by_cases a0 : j = 36
    · subst a0; rfl
    by_cases a1 : j = 30
    · subst a1; rfl
    by_cases a2 : j = 20
    · subst a2; rfl
    by_cases a3 : j = 18
    · subst a3; rfl
    by_cases a4 : j = 16
    · subst a4; rfl
    by_cases a5 : j = 15
    · subst a5; rfl
    by_cases a6 : j = 13
    · subst a6; rfl
    by_cases a7 : j = 10
    · subst a7; rfl
    by_cases a8 : j = 9
    · subst a8; rfl
    by_cases a9 : j = 8
    · subst a9; rfl
    simp only [uA_n a0, uA_n a1, uA_n a2, uA_n a3, uA_n a4, uA_n a5, uA_n a6, uA_n a7, uA_n a8, uA_n a9]
  · subst ex_9 ex_17
    rw [upd_u] at hfailPair
    simp only [uA_u] at hfailPair
    refine Or.inr ⟨c1, Or.inr ⟨fun k => c2 k.1, Or.inr (Or.inr (Or.inl ⟨c3, fx_9, c4, ⟨_, hfailPair, ?_⟩, rfl⟩))⟩⟩
    rw [upd_u]
    funext j
    by_cases a0 : j = 36
    · subst a0; rfl
    by_cases a1 : j = 30
    · subst a1; rfl
    by_cases a2 : j = 20
    · subst a2; rfl
    by_cases a3 : j = 18
    · subst a3; rfl
    by_cases a4 : j = 16
    · subst a4; rfl
    by_cases a5 : j = 15
    · subst a5; rfl
    by_cases a6 : j = 13
    · subst a6; rfl
    by_cases a7 : j = 10
    · subst a7; rfl
    by_cases a8 : j = 9
    · subst a8; rfl
    by_cases a9 : j = 8
    · subst a9; rfl
    simp only [uA_n a0, uA_n a1, uA_n a2, uA_n a3, uA_n a4, uA_n a5, uA_n a6, uA_n a7, uA_n a8, uA_n a9]
  · subst ex_9
    refine Or.inr ⟨c1, Or.inr ⟨fun k => c2 k.1, Or.inl ⟨c3, c4, ?_, rfl⟩⟩⟩
    funext j
    by_cases a0 : j = 36
    · subst a0; rfl
    by_cases a1 : j = 30
    · subst a1; rfl
    by_cases a2 : j = 20
    · subst a2; rfl
    by_cases a3 : j = 18
    · subst a3; rfl
    by_cases a4 : j = 16
    · subst a4; rfl
    by_cases a5 : j = 15
    · subst a5; rfl
    by_cases a6 : j = 13
    · subst a6; rfl
    by_cases a7 : j = 10
    · subst a7; rfl
    by_cases a8 : j = 9
    · subst a8; rfl
    by_cases a9 : j = 8
    · subst a9; rfl
    simp only [uA_n a0, uA_n a1, uA_n a2, uA_n a3, uA_n a4, uA_n a5, uA_n a6, uA_n a7, uA_n a8, uA_n a9]
  · subst ex_9
    refine Or.inr ⟨c1, Or.inr ⟨fun k => c2 k.1, Or.inr (Or.inr (Or.inr (Or.inr ⟨c3, c4, ?_, rfl⟩)))⟩⟩
    rw [upd_u]
    funext j
    by_cases a0 : j = 36
    · subst a0; rfl
    by_cases a1 : j = 30
    · subst a1; rfl
    by_cases a2 : j = 20
    · subst a2; rfl
    by_cases a3 : j = 18
    · subst a3; rfl
    by_cases a4 : j = 16
    · subst a4; rfl
    by_cases a5 : j = 15
    · subst a5; rfl
    by_cases a6 : j = 13
    · subst a6; rfl
    by_cases a7 : j = 10
    · subst a7; rfl
    by_cases a8 : j = 9
    · subst a8; rfl
    by_cases a9 : j = 8
    · subst a9; rfl
    simp only [uA_n a0, uA_n a1, uA_n a2, uA_n a3, uA_n a4, uA_n a5, uA_n a6, uA_n a7, uA_n a8, uA_n a9]
  · subst ex_9
    refine Or.inr ⟨c1, Or.inr ⟨fun k => c2 k.1, Or.inr (Or.inr (Or.inr (Or.inl ⟨c3, c4, ?_, rfl⟩)))⟩⟩
    funext j
    by_cases a0 : j = 36
    · subst a0; rfl
    by_cases a1 : j = 30
    · subst a1; rfl
    by_cases a2 : j = 20
    · subst a2; rfl
    by_cases a3 : j = 18
    · subst a3; rfl
    by_cases a4 : j = 16
    · subst a4; rfl
    by_cases a5 : j = 15
    · subst a5; rfl
    by_cases a6 : j = 13
    · subst a6; rfl
    by_cases a7 : j = 10
    · subst a7; rfl
    by_cases a8 : j = 9
    · subst a8; rfl
    by_cases a9 : j = 8
    · subst a9; rfl
    simp only [uA_n a0, uA_n a1, uA_n a2, uA_n a3, uA_n a4, uA_n a5, uA_n a6, uA_n a7, uA_n a8, uA_n a9]
  · exact absurd c4 c3
  · exact absurd c4 c3
  · exact absurd c4 c3
  · subst ex_32
    refine Or.inr ⟨c1, Or.inr ⟨fun k => c3 k.2, Or.inr (Or.inr (Or.inr (Or.inr ⟨c4, c5, ?_, rfl⟩)))⟩⟩
    rw [upd_u]
    funext j
    by_cases a0 : j = 36
    · subst a0; rfl
    by_cases a1 : j = 30
    · subst a1; rfl
    by_cases a2 : j = 20
    · subst a2; rfl
    by_cases a3 : j = 18
    · subst a3; rfl
    by_cases a4 : j = 16
    · subst a4; rfl
    by_cases a5 : j = 15
    · subst a5; rfl
    by_cases a6 : j = 13
    · subst a6; rfl
    by_cases a7 : j = 10
    · subst a7; rfl
    by_cases a8 : j = 9
    · subst a8; rfl
    by_cases a9 : j = 8
    · subst a9; rfl
    simp only [uA_n a0, uA_n a1, uA_n a2, uA_n a3, uA_n a4, uA_n a5, uA_n a6, uA_n a7, uA_n a8, uA_n a9]
  · subst ex_32
    refine Or.inr ⟨c1, Or.inr ⟨fun k => c3 k.2, Or.inr (Or.inr (Or.inr (Or.inl ⟨c4, c5, ?_, rfl⟩)))⟩⟩
    funext j
    by_cases a0 : j = 36
    · subst a0; rfl
    by_cases a1 : j = 30
    · subst a1; rfl
    by_cases a2 : j = 20
    · subst a2; rfl
    by_cases a3 : j = 18
    · subst a3; rfl
    by_cases a4 : j = 16
    · subst a4; rfl
    by_cases a5 : j = 15
    · subst a5; rfl
    by_cases a6 : j = 13
    · subst a6; rfl
    by_cases a7 : j = 10
    · subst a7; rfl
    by_cases a8 : j = 9
    · subst a8; rfl
    by_cases a9 : j = 8
    · subst a9; rfl
    simp only [uA_n a0, uA_n a1, uA_n a2, uA_n a3, uA_n a4, uA_n a5, uA_n a6, uA_n a7, uA_n a8, uA_n a9]
  · exact Or.inr ⟨c1, Or.inl ⟨c2, c3, by simp only [uA_ii], rfl⟩⟩
end
section
theorem s_tickPair {x q : Nat} {G : Nat → Nat} {t0 t1 t2 : Int32} {B : AA} {R : RR} {A : AA} {pk cd p : Int32} (t0_2 : 2 ≤ t0.toInt) (h : SIM x t0 t1 t2 B R A pk) (hV : RW A pk) (hq : q < 4) (hp : (q : Int) = p.toInt) {Z : AA} {r : Int32} (hc : C_X3_failsByTime G B R (x + 84 + 17 * q) Z r) {A' : AA} {cdz pkz r' : Int32} (hd : D_X10_tickPair t0 t1 t2 A cd pk p A' cdz pkz r') : SIM x t0 t1 t2 Z R A' pk ∧ r = r' := by
  have hh := h
  obtain ⟨hS, -, -, -, hN, hPQ⟩ := hh
  obtain ⟨hC, hPS, -, -, -⟩ := hPQ q hq
  obtain ⟨p1, p2, p3, p4, p5, p6, p7, p8, p9, p10⟩ := hPS
  have k1 := congrArg Int32.toInt p1
  obtain ⟨-, -, hd⟩ := r_tickPair hd hp
  rcases hd with ⟨d1, rfl, rfl⟩ | ⟨hst, hd⟩
  · rcases hc with ⟨c1, rfl, rfl⟩ | ⟨c1, r_5, U_6, hF, hwaitsTooLong, c2, U_10, hF_1, hfail, rfl, rfl⟩ | ⟨c1, r_5, U_6, hF, hwaitsTooLong, c2, rfl, rfl⟩
    · exact ⟨h, rfl⟩
    · exfalso; omega
    · exfalso; omega
  have p2s := p2 hst
  have p4s := p4 (by omega)
  have b18 : (A 18 q).toInt = 0 ∨ (A 18 q).toInt = 1 := by
    rcases p8 with e | e
    · rw [e]; exact Or.inl i_0
    · rw [e]; exact Or.inr i_1t
  have ec : (A 15 q + 1).toInt = (A 15 q).toInt + 1 := by
    rcases b18 with e | e
    · exact inc_t (p4s.2.1 e).1 (p4s.2.1 e).2
    · exact inc_t (t := 3) (p4s.2.2 e).1 (by rw [i_3t]; exact (p4s.2.2 e).2)
  have t0a := p4s.2.1
  have t0b := p4s.2.2
  have wt : ∀ {U : AA} {v : Int32}, C_X7_waitsTooLong G B R (R (x + 84 + 17 * q) 0) U v → ((A 13 q).toInt = (A 12 q).toInt ∧ (A 18 q).toInt = 0 ∧ U = B ∧ v.toInt = 0) ∨ (¬ ((A 13 q).toInt = (A 12 q).toInt ∧ (A 18 q).toInt = 0) ∧ (((A 18 q).toInt = 0 ∧ ¬ t0.toInt ≤ (A 15 q + 1).toInt ∧ U = uA B (x + 77 + 17 * q) (upd (B (x + 77 + 17 * q)) 10 (A 15 q + 1)) ∧ v.toInt = 0) ∨ ((A 18 q).toInt = 0 ∧ t0.toInt ≤ (A 15 q + 1).toInt ∧ (A 16 q + 1).toInt ≤ t1.toInt ∧ U = uA B (x + 77 + 17 * q) (upd (upd (upd (B (x + 77 + 17 * q)) 10 0) 11 (A 16 q + 1)) 9 (A 12 q)) ∧ v.toInt = 0) ∨ ((A 18 q).toInt = 0 ∧ t0.toInt ≤ (A 15 q + 1).toInt ∧ ¬ (A 16 q + 1).toInt ≤ t1.toInt ∧ U = uA B (x + 77 + 17 * q) (upd (upd (B (x + 77 + 17 * q)) 10 0) 11 (A 16 q + 1)) ∧ v.toInt = 1) ∨ (¬ (A 18 q).toInt = 0 ∧ ¬ 3 ≤ (A 15 q + 1).toInt ∧ U = uA B (x + 77 + 17 * q) (upd (B (x + 77 + 17 * q)) 10 (A 15 q + 1)) ∧ v.toInt = 0) ∨ (¬ (A 18 q).toInt = 0 ∧ 3 ≤ (A 15 q + 1).toInt ∧ U = uA B (x + 77 + 17 * q) (upd (upd (B (x + 77 + 17 * q)) 10 0) 13 0) ∧ v.toInt = 0))) := fun hw => by
    rw [(hS.2.2.1 q hq).2.1] at hw
    have hw := e_wait hw
    rw [hC.2.1, hC.2.2.1, p2s.2.1, p2s.2.2.1, p3.1, p3.2.1, p4s.1] at hw
    exact hw
  have hfA : ∀ j, j < 7 → j ≠ 10 := fun j hj => by omega
  have iz := i_0
  rw [ec] at wt
  unfold TPD at hd
  rw [ec] at hd
  rcases hd with ⟨d1, d2, rfl, rfl⟩ | ⟨d0, hd⟩
  · rcases hc with ⟨c1, rfl, rfl⟩ | ⟨c1, r_5, U_6, hF, hwaitsTooLong, c2, U_10, hF_1, hfail, rfl, rfl⟩ | ⟨c1, r_5, U_6, hF, hwaitsTooLong, c2, rfl, rfl⟩
    · exfalso; omega
    · have := wt hwaitsTooLong; exfalso; omega
    · rcases wt hwaitsTooLong with ⟨w1, w2, rfl, w4⟩ | ⟨w1, w2⟩
      · exact ⟨h, rfl⟩
      · exact absurd ⟨d1, d2⟩ w1
  rcases hd with ⟨d1, d2, rfl, rfl⟩ | ⟨d1, d2, d3, rfl, rfl⟩ | ⟨d1, d2, d3, ⟨A1, d4, rfl⟩, rfl⟩ | ⟨d1, d2, rfl, rfl⟩ | ⟨d1, d2, rfl, rfl⟩
  · rcases hc with ⟨c1, rfl, rfl⟩ | ⟨c1, r_5, U_6, hF, hwaitsTooLong, c2, U_10, hF_1, hfail, rfl, rfl⟩ | ⟨c1, r_5, U_6, hF, hwaitsTooLong, c2, rfl, rfl⟩
    · exfalso; omega
    · rcases wt hwaitsTooLong with ⟨w1, w2, w3, w4⟩ | ⟨w1, ⟨w1, w2, w3, w4⟩ | ⟨w1, w2, w5, w3, w4⟩ | ⟨w1, w2, w5, w3, w4⟩ | ⟨w1, w2, w3, w4⟩ | ⟨w1, w2, w3, w4⟩⟩
      · exact absurd ⟨w1, w2⟩ d0
      · exfalso; first | omega | (have := t0a d1; omega)
      · exfalso; first | omega | (have := t0a d1; omega)
      · exfalso; first | omega | (have := t0a d1; omega)
      · exfalso; first | omega | (have := t0a d1; omega)
      · exfalso; first | omega | (have := t0a d1; omega)
    · rcases wt hwaitsTooLong with ⟨w1, w2, w3, w4⟩ | ⟨w1, ⟨w1, w2, w3, w4⟩ | ⟨w1, w2, w5, w3, w4⟩ | ⟨w1, w2, w5, w3, w4⟩ | ⟨w1, w2, w3, w4⟩ | ⟨w1, w2, w3, w4⟩⟩
      · exact absurd ⟨w1, w2⟩ d0
      · subst w3
        exact ⟨h.rq hV hq hst (fun j hj => by rw [upd_n (by omega)]) (fun j hj => by rw [uA_n (by omega)]) (fun j k hk => by
          by_cases a0 : j = 15
          · subst a0; exact upd_n hk
          rw [uA_n a0]) p2s.1 p2s.2.1 p2s.2.2.1 (by
          show _ = upd (A 15) q (A 15 q + 1) q
          exact upd_s.symm) p3.2.1 p3.2.2 p4s.1 (by
          show TIM t0 (A 18 q) (upd (A 15) q (A 15 q + 1) q)
          rw [upd_s]
          exact ⟨fun e9 => by have q1 := t0a e9; rw [ec]; omega, fun e9 => by have q1 := t0b e9; rw [ec]; omega⟩) p8, rfl⟩
      · exfalso; first | omega | (have := t0a d1; omega)
      · exfalso; first | omega | (have := t0a d1; omega)
      · exfalso; first | omega | (have := t0a d1; omega)
      · exfalso; first | omega | (have := t0a d1; omega)
  · rcases hc with ⟨c1, rfl, rfl⟩ | ⟨c1, r_5, U_6, hF, hwaitsTooLong, c2, U_10, hF_1, hfail, rfl, rfl⟩ | ⟨c1, r_5, U_6, hF, hwaitsTooLong, c2, rfl, rfl⟩
    · exfalso; omega
    · rcases wt hwaitsTooLong with ⟨w1, w2, w3, w4⟩ | ⟨w1, ⟨w1, w2, w3, w4⟩ | ⟨w1, w2, w5, w3, w4⟩ | ⟨w1, w2, w5, w3, w4⟩ | ⟨w1, w2, w3, w4⟩ | ⟨w1, w2, w3, w4⟩⟩
      · exact absurd ⟨w1, w2⟩ d0
      · exfalso; first | omega | (have := t0a d1; omega)
      · exfalso; first | omega | (have := t0a d1; omega)
      · exfalso; first | omega | (have := t0a d1; omega)
      · exfalso; first | omega | (have := t0a d1; omega)
      · exfalso; first | omega | (have := t0a d1; omega)
    · rcases wt hwaitsTooLong with ⟨w1, w2, w3, w4⟩ | ⟨w1, ⟨w1, w2, w3, w4⟩ | ⟨w1, w2, w5, w3, w4⟩ | ⟨w1, w2, w5, w3, w4⟩ | ⟨w1, w2, w3, w4⟩ | ⟨w1, w2, w3, w4⟩⟩
      · exact absurd ⟨w1, w2⟩ d0
      · exfalso; first | omega | (have := t0a d1; omega)
      · subst w3
        exact ⟨h.rq hV hq hst (fun j hj => by rw [upd_n (by omega), upd_n (by omega), upd_n (by omega)]) (fun j hj => by rw [uA_n (by omega), uA_n (by omega), uA_n (by omega)]) (fun j k hk => by
          by_cases a0 : j = 16
          · subst a0; exact upd_n hk
          by_cases a1 : j = 15
          · subst a1; exact upd_n hk
          by_cases a2 : j = 13
          · subst a2; exact upd_n hk
          rw [uA_n a0, uA_n a1, uA_n a2]) p2s.1 p2s.2.1 (by
          show _ = upd (A 13) q (A 12 q) q
          exact upd_s.symm) (by
          show _ = upd (A 15) q 0 q
          exact upd_s.symm) (by
          show _ = upd (A 16) q (A 16 q + 1) q
          exact upd_s.symm) p3.2.2 p4s.1 (by
          show TIM t0 (A 18 q) (upd (A 15) q 0 q)
          rw [upd_s]
          exact ⟨fun _ => by rw [i_0]; omega, fun _ => by rw [i_0]; omega⟩) p8, rfl⟩
      · exfalso; first | omega | (have := t0a d1; omega)
      · exfalso; first | omega | (have := t0a d1; omega)
      · exfalso; first | omega | (have := t0a d1; omega)
  · rcases hc with ⟨c1, rfl, rfl⟩ | ⟨c1, r_5, U_6, hF, hwaitsTooLong, c2, U_10, hF_1, hfail, rfl, rfl⟩ | ⟨c1, r_5, U_6, hF, hwaitsTooLong, c2, rfl, rfl⟩
    · exfalso; omega
    · rcases wt hwaitsTooLong with ⟨w1, w2, w3, w4⟩ | ⟨w1, ⟨w1, w2, w3, w4⟩ | ⟨w1, w2, w5, w3, w4⟩ | ⟨w1, w2, w5, w3, w4⟩ | ⟨w1, w2, w3, w4⟩ | ⟨w1, w2, w3, w4⟩⟩
      · exact absurd ⟨w1, w2⟩ d0
      · exfalso; first | omega | (have := t0a d1; omega)
      · exfalso; first | omega | (have := t0a d1; omega)
      · subst w3
        have h1 := h.rq (A' := uA (uA A 15 (upd (A 15) q 0)) 16 (upd (A 16) q (A 16 q + 1))) hV hq hst (f := upd (upd (B (x + 77 + 17 * q)) 10 0) 11 (A 16 q + 1)) (fun j hj => by rw [upd_n (by omega), upd_n (by omega)]) (fun j hj => by rw [uA_n (by omega), uA_n (by omega)]) (fun j k hk => by
          by_cases a0 : j = 16
          · subst a0; exact upd_n hk
          by_cases a1 : j = 15
          · subst a1; exact upd_n hk
          rw [uA_n a0, uA_n a1]) p2s.1 p2s.2.1 p2s.2.2.1 (by
          show _ = upd (A 15) q 0 q
          exact upd_s.symm) (by
          show _ = upd (A 16) q (A 16 q + 1) q
          exact upd_s.symm) p3.2.2 p4s.1 (by
          show TIM t0 (A 18 q) (upd (A 15) q 0 q)
          rw [upd_s]
          exact ⟨fun _ => by rw [i_0]; omega, fun _ => by rw [i_0]; omega⟩) p8
        obtain ⟨-, -, a3, -, -⟩ := h1.fail (st := 1) (rs := 0) (hV.cg rfl rfl rfl) hq hp (by decide) (by decide) hfail d4
        exact ⟨a3, rfl⟩
      · exfalso; first | omega | (have := t0a d1; omega)
      · exfalso; first | omega | (have := t0a d1; omega)
    · rcases wt hwaitsTooLong with ⟨w1, w2, w3, w4⟩ | ⟨w1, ⟨w1, w2, w3, w4⟩ | ⟨w1, w2, w5, w3, w4⟩ | ⟨w1, w2, w5, w3, w4⟩ | ⟨w1, w2, w3, w4⟩ | ⟨w1, w2, w3, w4⟩⟩
      · exact absurd ⟨w1, w2⟩ d0
      · exfalso; first | omega | (have := t0a d1; omega)
      · exfalso; first | omega | (have := t0a d1; omega)
      · exfalso; first | omega | (have := t0a d1; omega)
      · exfalso; first | omega | (have := t0a d1; omega)
      · exfalso; first | omega | (have := t0a d1; omega)
  · rcases hc with ⟨c1, rfl, rfl⟩ | ⟨c1, r_5, U_6, hF, hwaitsTooLong, c2, U_10, hF_1, hfail, rfl, rfl⟩ | ⟨c1, r_5, U_6, hF, hwaitsTooLong, c2, rfl, rfl⟩
    · exfalso; omega
    · rcases wt hwaitsTooLong with ⟨w1, w2, w3, w4⟩ | ⟨w1, ⟨w1, w2, w3, w4⟩ | ⟨w1, w2, w5, w3, w4⟩ | ⟨w1, w2, w5, w3, w4⟩ | ⟨w1, w2, w3, w4⟩ | ⟨w1, w2, w3, w4⟩⟩
      · exact absurd ⟨w1, w2⟩ d0
      · exfalso; first | omega | (have := t0a d1; omega)
      · exfalso; first | omega | (have := t0a d1; omega)
      · exfalso; first | omega | (have := t0a d1; omega)
      · exfalso; first | omega | (have := t0a d1; omega)
      · exfalso; first | omega | (have := t0a d1; omega)
    · rcases wt hwaitsTooLong with ⟨w1, w2, w3, w4⟩ | ⟨w1, ⟨w1, w2, w3, w4⟩ | ⟨w1, w2, w5, w3, w4⟩ | ⟨w1, w2, w5, w3, w4⟩ | ⟨w1, w2, w3, w4⟩ | ⟨w1, w2, w3, w4⟩⟩
      · exact absurd ⟨w1, w2⟩ d0
      · exfalso; first | omega | (have := t0a d1; omega)
      · exfalso; first | omega | (have := t0a d1; omega)
      · exfalso; first | omega | (have := t0a d1; omega)
      · subst w3
        exact ⟨h.rq hV hq hst (fun j hj => by rw [upd_n (by omega)]) (fun j hj => by rw [uA_n (by omega)]) (fun j k hk => by
          by_cases a0 : j = 15
          · subst a0; exact upd_n hk
          rw [uA_n a0]) p2s.1 p2s.2.1 p2s.2.2.1 (by
          show _ = upd (A 15) q (A 15 q + 1) q
          exact upd_s.symm) p3.2.1 p3.2.2 p4s.1 (by
          show TIM t0 (A 18 q) (upd (A 15) q (A 15 q + 1) q)
          rw [upd_s]
          exact ⟨fun e9 => by have q1 := t0a e9; rw [ec]; omega, fun e9 => by have q1 := t0b e9; rw [ec]; omega⟩) p8, rfl⟩
      · exfalso; first | omega | (have := t0a d1; omega)
  · rcases hc with ⟨c1, rfl, rfl⟩ | ⟨c1, r_5, U_6, hF, hwaitsTooLong, c2, U_10, hF_1, hfail, rfl, rfl⟩ | ⟨c1, r_5, U_6, hF, hwaitsTooLong, c2, rfl, rfl⟩
    · exfalso; omega
    · rcases wt hwaitsTooLong with ⟨w1, w2, w3, w4⟩ | ⟨w1, ⟨w1, w2, w3, w4⟩ | ⟨w1, w2, w5, w3, w4⟩ | ⟨w1, w2, w5, w3, w4⟩ | ⟨w1, w2, w3, w4⟩ | ⟨w1, w2, w3, w4⟩⟩
      · exact absurd ⟨w1, w2⟩ d0
      · exfalso; first | omega | (have := t0a d1; omega)
      · exfalso; first | omega | (have := t0a d1; omega)
      · exfalso; first | omega | (have := t0a d1; omega)
      · exfalso; first | omega | (have := t0a d1; omega)
      · exfalso; first | omega | (have := t0a d1; omega)
    · rcases wt hwaitsTooLong with ⟨w1, w2, w3, w4⟩ | ⟨w1, ⟨w1, w2, w3, w4⟩ | ⟨w1, w2, w5, w3, w4⟩ | ⟨w1, w2, w5, w3, w4⟩ | ⟨w1, w2, w3, w4⟩ | ⟨w1, w2, w3, w4⟩⟩
      · exact absurd ⟨w1, w2⟩ d0
      · exfalso; first | omega | (have := t0a d1; omega)
      · exfalso; first | omega | (have := t0a d1; omega)
      · exfalso; first | omega | (have := t0a d1; omega)
      · exfalso; first | omega | (have := t0a d1; omega)
      · subst w3
        exact ⟨h.rq hV hq hst (fun j hj => by rw [upd_n (by omega), upd_n (by omega)]) (fun j hj => by rw [uA_n (by omega), uA_n (by omega)]) (fun j k hk => by
          by_cases a0 : j = 18
          · subst a0; exact upd_n hk
          by_cases a1 : j = 15
          · subst a1; exact upd_n hk
          rw [uA_n a0, uA_n a1]) p2s.1 p2s.2.1 p2s.2.2.1 (by
          show _ = upd (A 15) q 0 q
          exact upd_s.symm) p3.2.1 p3.2.2 (by
          show _ = upd (A 18) q 0 q
          exact upd_s.symm) (by
          show TIM t0 (upd (A 18) q 0 q) (upd (A 15) q 0 q)
          rw [upd_s, upd_s]
          exact ⟨fun _ => by rw [i_0]; omega, fun _ => by rw [i_0]; omega⟩) (by
          show B01 (upd (A 18) q 0 q)
          rw [upd_s]; exact Or.inl rfl), rfl⟩
end
section
/-- a change of the fabric alone -/
theorem SIM.fbw {x : Nat} {t0 t1 t2 : Int32} {B Z : AA} {R Y : RR} {A A' : AA} {pk pk' : Int32} (h : SIM x t0 t1 t2 B R A pk) (hV : RW A pk) (hS : SHX x Y) (hF : ∃ (pm : Nat → Nat) (tk : Nat), DYN x Y pm tk ∧ FB x pm Z A' pk') (hZ : ∀ a, ¬ (x + 1 ≤ a ∧ a < x + 55) → Z a = B a) (hj : ∀ j, j < 41 → A' j = A j) : SIM x t0 t1 t2 Z Y A' pk' := by
  obtain ⟨h1, -, h4, h5, h6, h7⟩ := h
  refine ⟨hS, hF, fun m hm c hc => ?_, fun m hm j hj2 => ?_, fun m hm => ?_, fun q' hq' => ?_⟩
  · rw [hZ _ (by omega), hj 4 (by omega)]; exact h4 m hm c hc
  · rw [hZ _ (by omega), hj 5 (by omega), hj 6 (by omega), hj 7 (by omega)]; exact h5 m hm j hj2
  · exact (h6 m hm).cg (hZ _ (by omega)) (hZ _ (by omega)) (by rw [hj 8 (by omega)]) (fun k _ _ => by rw [hj 9 (by omega)]) (hV.1 m hm).2
  · exact (h7 q' hq').cg (fun a k1 k2 => hZ a (by omega)) (AGR.of (fun j _ k2 => hj j (by omega))) (hV.2.1 q' hq').1.2 (hV.2.1 q' hq').2.2
theorem e_fbt {G : Nat → Nat} {B : AA} {R : RR} {H : Nat} {Z : AA} {r : Int32} (h : C_X3_failsByTime G B R H Z r) : r = 0 ∨ r = 1 := by
  rcases h with ⟨c1, rfl, rfl⟩ | ⟨c1, r_5, U_6, hF, hwaitsTooLong, c2, U_10, hF_1, hfail, rfl, rfl⟩ | ⟨c1, r_5, U_6, hF, hwaitsTooLong, c2, rfl, rfl⟩
  · exact Or.inl rfl
  · exact Or.inr rfl
  · exact Or.inl rfl
theorem e_tick {x : Nat} {G : Nat → Nat} {B : AA} {R : RR} {Z : AA} {r : Int32} (hS : SHX x R) (h : C_X9_tick G B R x Z r) : ∃ (U1 U2 U3 : AA) (r1 r2 r3 r4 : Int32), C_X3_failsByTime G B R (x + 84 + 17 * 0) U1 r1 ∧ C_X3_failsByTime G U1 R (x + 84 + 17 * 1) U2 r2 ∧ C_X3_failsByTime G U2 R (x + 84 + 17 * 2) U3 r3 ∧ C_X3_failsByTime G U3 R (x + 84 + 17 * 3) Z r4 ∧ r.toInt = (if r1.toInt = 0 then 0 else 1) + (if r2.toInt = 0 then 0 else 1) + (if r3.toInt = 0 then 0 else 1) + (if r4.toInt = 0 then 0 else 1) := by
  rcases h with ⟨r_7, U_8, hF, hfailsByTime, c1, r_15, U_16, hF_1, hfailsByTime_1, c2, r_23, U_24, hF_2, hfailsByTime_2, c3, r_31, U_32, hF_3, hfailsByTime_3, c4, rfl, rfl⟩ | ⟨r_7, U_8, hF, hfailsByTime, c1, r_15, U_16, hF_1, hfailsByTime_1, c2, r_23, U_24, hF_2, hfailsByTime_2, c3, r_31, U_32, hF_3, hfailsByTime_3, c4, rfl, rfl⟩ | ⟨r_7, U_8, hF, hfailsByTime, c1, r_15, U_16, hF_1, hfailsByTime_1, c2, r_23, U_24, hF_2, hfailsByTime_2, c3, r_41, U_42, hF_3, hfailsByTime_3, c4, rfl, rfl⟩ | ⟨r_7, U_8, hF, hfailsByTime, c1, r_15, U_16, hF_1, hfailsByTime_1, c2, r_23, U_24, hF_2, hfailsByTime_2, c3, r_41, U_42, hF_3, hfailsByTime_3, c4, rfl, rfl⟩ | ⟨r_7, U_8, hF, hfailsByTime, c1, r_15, U_16, hF_1, hfailsByTime_1, c2, r_51, U_52, hF_2, hfailsByTime_2, c3, r_59, U_60, hF_3, hfailsByTime_3, c4, rfl, rfl⟩ | ⟨r_7, U_8, hF, hfailsByTime, c1, r_15, U_16, hF_1, hfailsByTime_1, c2, r_51, U_52, hF_2, hfailsByTime_2, c3, r_59, U_60, hF_3, hfailsByTime_3, c4, rfl, rfl⟩ | ⟨r_7, U_8, hF, hfailsByTime, c1, r_15, U_16, hF_1, hfailsByTime_1, c2, r_51, U_52, hF_2, hfailsByTime_2, c3, r_69, U_70, hF_3, hfailsByTime_3, c4, rfl, rfl⟩ | ⟨r_7, U_8, hF, hfailsByTime, c1, r_15, U_16, hF_1, hfailsByTime_1, c2, r_51, U_52, hF_2, hfailsByTime_2, c3, r_69, U_70, hF_3, hfailsByTime_3, c4, rfl, rfl⟩ | ⟨r_7, U_8, hF, hfailsByTime, c1, r_79, U_80, hF_1, hfailsByTime_1, c2, r_87, U_88, hF_2, hfailsByTime_2, c3, r_95, U_96, hF_3, hfailsByTime_3, c4, rfl, rfl⟩ | ⟨r_7, U_8, hF, hfailsByTime, c1, r_79, U_80, hF_1, hfailsByTime_1, c2, r_87, U_88, hF_2, hfailsByTime_2, c3, r_95, U_96, hF_3, hfailsByTime_3, c4, rfl, rfl⟩ | ⟨r_7, U_8, hF, hfailsByTime, c1, r_79, U_80, hF_1, hfailsByTime_1, c2, r_87, U_88, hF_2, hfailsByTime_2, c3, r_105, U_106, hF_3, hfailsByTime_3, c4, rfl, rfl⟩ | ⟨r_7, U_8, hF, hfailsByTime, c1, r_79, U_80, hF_1, hfailsByTime_1, c2, r_87, U_88, hF_2, hfailsByTime_2, c3, r_105, U_106, hF_3, hfailsByTime_3, c4, rfl, rfl⟩ | ⟨r_7, U_8, hF, hfailsByTime, c1, r_79, U_80, hF_1, hfailsByTime_1, c2, r_115, U_116, hF_2, hfailsByTime_2, c3, r_123, U_124, hF_3, hfailsByTime_3, c4, rfl, rfl⟩ | ⟨r_7, U_8, hF, hfailsByTime, c1, r_79, U_80, hF_1, hfailsByTime_1, c2, r_115, U_116, hF_2, hfailsByTime_2, c3, r_123, U_124, hF_3, hfailsByTime_3, c4, rfl, rfl⟩ | ⟨r_7, U_8, hF, hfailsByTime, c1, r_79, U_80, hF_1, hfailsByTime_1, c2, r_115, U_116, hF_2, hfailsByTime_2, c3, r_133, U_134, hF_3, hfailsByTime_3, c4, rfl, rfl⟩ | ⟨r_7, U_8, hF, hfailsByTime, c1, r_79, U_80, hF_1, hfailsByTime_1, c2, r_115, U_116, hF_2, hfailsByTime_2, c3, r_133, U_134, hF_3, hfailsByTime_3, c4, rfl, rfl⟩
  all_goals
    rw [hS.1.2.1, (hS.2.2.1 0 (by decide)).1] at hfailsByTime
    rw [hS.1.2.1, (hS.2.2.1 1 (by decide)).1] at hfailsByTime_1
    rw [hS.1.2.1, (hS.2.2.1 2 (by decide)).1] at hfailsByTime_2
    rw [hS.1.2.1, (hS.2.2.1 3 (by decide)).1] at hfailsByTime_3
    refine ⟨_, _, _, _, _, _, _, hfailsByTime, hfailsByTime_1, hfailsByTime_2, hfailsByTime_3, ?_⟩
    simp only [c1, c2, c3, c4, if_true, if_false]
    decide
theorem s_tickC {x : Nat} {G : Nat → Nat} {t0 t1 t2 : Int32} (ht : 2 ≤ t0.toInt) {B : AA} {R : RR} {A : AA} {pk cd : Int32} (h : SIM x t0 t1 t2 B R A pk) (hV : RIV A pk) {Z : AA} {r : Int32} (hc : C_X9_tick G B R x Z r) {A' : AA} {cdz pkz r' : Int32} (hd : D_X10_tick t0 t1 t2 A cd pk A' cdz pkz r') : SIM x t0 t1 t2 Z R A' pk ∧ pkz = pk ∧ r = r' := by
  obtain ⟨U1, U2, U3, r1, r2, r3, r4, f1, f2, f3, f4, er⟩ := e_tick h.1 hc
  rcases hd with ⟨ur_2d, r_2d, htickPaird, c1d, c2d, c3d, x_3d, ex_3d, ur_5d, r_5d, htickPaird_1, c4d, c5d, c6d, x_6d, ex_6d, ur_8d, r_8d, htickPaird_2, c7d, c8d, c9d, x_9d, ex_9d, ur_11d, r_11d, htickPaird_3, c10d, c11d, c12d, x_12d, ex_12d, rfl, rfl, rfl, rfl⟩
  obtain ⟨g1, e1⟩ := s_tickPair ht h hV.w (q := 0) (by decide) (by decide) f1 htickPaird
  obtain ⟨g2, e2⟩ := s_tickPair ht g1 (RW.of c1d c3d hV.2) (q := 1) (by decide) (by decide) f2 htickPaird_1
  obtain ⟨g3, e3⟩ := s_tickPair ht g2 (RW.of c4d c6d hV.2) (q := 2) (by decide) (by decide) f3 htickPaird_2
  obtain ⟨g4, e4⟩ := s_tickPair ht g3 (RW.of c7d c9d hV.2) (q := 3) (by decide) (by decide) f4 htickPaird_3
  refine ⟨?_, rfl, ?_⟩
  · have e : ∀ {X Y : AA} {v : Int32}, X = Y → SIM x t0 t1 t2 Z R X v → SIM x t0 t1 t2 Z R Y v := fun e k => e ▸ k
    refine e ?_ g4
    clear g1 g2 g3 g4 f1 f2 f3 f4 htickPaird htickPaird_1 htickPaird_2 htickPaird_3 hc
    funext j
    by_cases a1 : j = 36
    · subst a1; rfl
    by_cases a2 : j = 30
    · subst a2; rfl
    by_cases a3 : j = 20
    · subst a3; rfl
    by_cases a4 : j = 18
    · subst a4; rfl
    by_cases a5 : j = 16
    · subst a5; rfl
    by_cases a6 : j = 15
    · subst a6; rfl
    by_cases a7 : j = 13
    · subst a7; rfl
    by_cases a8 : j = 10
    · subst a8; rfl
    by_cases a9 : j = 9
    · subst a9; rfl
    by_cases a10 : j = 8
    · subst a10; rfl
    simp only [uA_n a1, uA_n a2, uA_n a3, uA_n a4, uA_n a5, uA_n a6, uA_n a7, uA_n a8, uA_n a9, uA_n a10]
  · apply i32_eq
    rw [er, ex_12d, ex_9d, ex_6d, ex_3d, ← e1, ← e2, ← e3, ← e4]
    rcases e_fbt f1 with k1 | k1 <;> rcases e_fbt f2 with k2 | k2 <;> rcases e_fbt f3 with k3 | k3 <;> rcases e_fbt f4 with k4 | k4 <;> rw [k1, k2, k3, k4] <;> decide
theorem PKT.cg2 {b c b' c' : Nat → Int32} {A A' : AA} {i i' : Nat} (h : PKT b c A i) (hb : ∀ j, j < 7 → b' j = b j) (hc : ∀ k, k < 4 → c' k = c k) (hj : ∀ j, 41 ≤ j → j ≤ 47 → A' j i' = A j i) (h48 : ∀ k, k < 4 → A' 48 (4 * i' + k) = A 48 (4 * i + k)) : PKT b' c' A' i' := by
  unfold PKT PKR at h ⊢
  rw [hj 41 (by omega) (by omega), hj 42 (by omega) (by omega), hj 43 (by omega) (by omega), hj 44 (by omega) (by omega), hj 45 (by omega) (by omega), hj 46 (by omega) (by omega), hj 47 (by omega) (by omega), hb 0 (by omega), hb 1 (by omega), hb 2 (by omega), hb 3 (by omega), hb 4 (by omega), hb 5 (by omega), hb 6 (by omega)]
  exact ⟨h.1, fun hk k h1 h2 => by rw [h48 k h1, hc k h1]; exact h.2.1 hk k h1 h2, h.2.2⟩
theorem r_move1 {A : AA} {cd pk p0 p1 : Int32} {Z : AA} {cdz pkz : Int32} {k n : Nat} (h : D_X10_move1 A cd pk p0 p1 Z cdz pkz) (hk : (k : Int) = p0.toInt) (hn : (n : Int) = p1.toInt) (hne : k ≠ n) : cdz = cd ∧ pkz = pk ∧ (∀ j, 41 ≤ j → j ≤ 47 → Z j = upd (A j) n (A j k)) ∧ (∀ c, c < 4 → Z 48 (4 * n + c) = A 48 (4 * k + c)) ∧ (∀ c, ¬ (4 * n ≤ c ∧ c < 4 * n + 4) → Z 48 c = A 48 c) ∧ ∀ j, (j < 41 ∨ 48 < j) → Z j = A j := by
  rcases h with ⟨n_3, hn_3, n_9, hn_9, g_8, rfl, g_11, rfl, g_13, rfl, g_15, rfl, g_17, rfl, g_19, rfl, g_21, rfl, x_23, ex_23, fx_23, x_24, ex_24, fx_24, x_25, ex_25, fx_25, x_26, ex_26, fx_26, n_29, hn_29, n_32, hn_32, g_31, rfl, x_34, ex_34, fx_34, x_35, ex_35, fx_35, n_38, hn_38, n_41, hn_41, g_40, rfl, x_43, ex_43, fx_43, x_44, ex_44, fx_44, n_47, hn_47, n_50, hn_50, g_49, rfl, x_52, ex_52, fx_52, x_53, ex_53, fx_53, n_56, hn_56, n_59, hn_59, g_58, rfl, rfl, rfl, rfl⟩
  obtain rfl : n_3 = k := by omega
  obtain rfl : n_9 = n := by omega
  obtain rfl : n_29 = 4 * n_3 := by omega
  obtain rfl : n_32 = 4 * n_9 := by omega
  obtain rfl : n_38 = 4 * n_3 + 1 := by omega
  obtain rfl : n_41 = 4 * n_9 + 1 := by omega
  obtain rfl : n_47 = 4 * n_3 + 2 := by omega
  obtain rfl : n_50 = 4 * n_9 + 2 := by omega
  obtain rfl : n_56 = 4 * n_3 + 3 := by omega
  obtain rfl : n_59 = 4 * n_9 + 3 := by omega
  refine ⟨rfl, rfl, fun j h1 h2 => ?_, fun c hc => ?_, fun c hc => ?_, fun j hj => ?_⟩
  · rcases (show j = 41 ∨ j = 42 ∨ j = 43 ∨ j = 44 ∨ j = 45 ∨ j = 46 ∨ j = 47 by omega) with rfl | rfl | rfl | rfl | rfl | rfl | rfl <;> rfl
  · rw [uA_s]
    rcases (show c = 0 ∨ c = 1 ∨ c = 2 ∨ c = 3 by omega) with rfl | rfl | rfl | rfl
    · rw [upd_n (by omega), upd_n (by omega), upd_n (by omega), Nat.add_zero, upd_s, Nat.add_zero]
    · rw [upd_n (by omega), upd_n (by omega), upd_s, upd_n (by omega)]
    · rw [upd_n (by omega), upd_s, upd_n (by omega), upd_n (by omega)]
    · rw [upd_s, upd_n (by omega), upd_n (by omega), upd_n (by omega)]
  · rw [uA_s, upd_n (by omega), upd_n (by omega), upd_n (by omega), upd_n (by omega)]
  · rw [uA_n (by omega), uA_n (by omega), uA_n (by omega), uA_n (by omega), uA_n (by omega), uA_n (by omega), uA_n (by omega), uA_n (by omega)]
theorem e_like {G : Nat → Nat} {B : AA} {R : RR} {a p : Nat} {Z : AA} (h : C_X2_becomeLike G B R a p Z) (ha : R a 7 = a + 1) (hp : R p 7 = p + 1) (n3 : p ≠ a) (n4 : p ≠ a + 1) (n5 : p + 1 ≠ a) : (∀ j, j < 7 → Z a j = B p j) ∧ (∀ k, k < 4 → Z (a + 1) k = B (p + 1) k) ∧ ∀ z, z ≠ a → z ≠ a + 1 → Z z = B z := by
  rcases h with ⟨U_5, hF, hbecome, B_10, rfl, B_13, rfl, B_16, rfl, B_19, rfl, B_28, rfl, B_34, rfl, B_40, rfl, B_46, rfl, rfl⟩
  have eU := e_become hbecome
  subst eU
  have n1 : a ≠ a + 1 := by omega
  have n2 : a + 1 ≠ a := by omega
  have n6 : p + 1 ≠ a + 1 := by omega
  rw [ha, hp]
  refine ⟨fun j hj => ?_, fun k hk => ?_, fun z h1 h2 => ?_⟩
  · simp only [uA_s, uA_u, uA_n n1, uA_n n2, uA_n n3, uA_n n4, uA_n n5, uA_n n6]
    rcases (show j = 0 ∨ j = 1 ∨ j = 2 ∨ j = 3 ∨ j = 4 ∨ j = 5 ∨ j = 6 by omega) with rfl | rfl | rfl | rfl | rfl | rfl | rfl <;> rfl
  · simp only [uA_s, uA_u, uA_n n1, uA_n n2, uA_n n3, uA_n n4, uA_n n5, uA_n n6]
    rcases (show k = 0 ∨ k = 1 ∨ k = 2 ∨ k = 3 by omega) with rfl | rfl | rfl | rfl <;> rfl
  · simp only [uA_n h1, uA_n h2]
/-- a packet is taken out and kept as row 24 -/
theorem s_take {x : Nat} {G : Nat → Nat} {t0 t1 t2 : Int32} {B : AA} {R : RR} {A : AA} {pk p : Int32} (h : SIM x t0 t1 t2 B R A pk) (hV : RW A pk) {k : Nat} (hk : (k : Int) = p.toInt) (hkp : (k : Int) < pk.toInt) {Z : AA} {Y : RR} {r : Nat} (hc : C_X0_takeOut G B R (x + 1) p Z Y r) {A1 A2 : AA} {c0 c1 c2 c3 p1 p2 : Int32} (hm : D_X10_move1 A c0 pk p 24 A1 c1 p1) (hd : D_X10_drop A1 c2 pk p A2 c3 p2) : ∃ tk, tk < 26 ∧ r = x + 3 + 2 * tk ∧ Y (x + 1) 2 = x + 3 + 2 * tk ∧ SIM x t0 t1 t2 Z Y A2 p2 ∧ TKP x tk Z A2 ∧ (∀ j, j < 41 → A2 j = A j) ∧ p2 = pk - 1 ∧ p2.toInt = pk.toInt - 1 ∧ (∀ a, a ≠ x + 1 → a ≠ x + 2 → Y a = R a) ∧ ∀ a, ¬ (x + 1 ≤ a ∧ a < x + 55) → Z a = B a := by
  have hh := h
  obtain ⟨hS, ⟨pm, tk, hD, hF⟩, -⟩ := hh
  have hf := hF.1
  have hfi := congrArg Int32.toInt hf
  have hpk := hV.2.2
  obtain ⟨n, hn⟩ : ∃ n : Nat, (n : Int) = pk.toInt := ⟨_, Int.toNat_of_nonneg hpk.1⟩
  obtain ⟨er, hS2, hD2, c, ec1, ec2, eZ, hY⟩ := e_takeOut hS hD hc hk (n := n) (by omega) (by omega) (by omega)
  obtain ⟨-, -, m1, m2, m3, m4⟩ := r_move1 hm hk (n := 24) (by decide) (by omega)
  obtain ⟨-, d1, d2, d3, d4, d5⟩ := r_drop hd hk hn (by omega)
  have hpm := hD.2.2.2.2.1
  have hF1 : FB x pm B A1 pk := ⟨hf, fun i hi => (hF.2 i hi).cg rfl rfl (fun j a b => by rw [m1 j a b, upd_n (by omega)]) (fun c hc => m3 _ (by omega))⟩
  have ec : c = p2 := by rw [ec1, d1, hf]
  subst ec
  have hF2 := hF1.drop (tk := tk) hn (by omega) (by omega) (fun i hi => (hpm i hi).1) d1 d2 eZ d3 d4
  have hj : ∀ j, j < 41 → A2 j = A j := fun j hj => (d5 j (Or.inl hj)).trans (m4 j (Or.inl hj))
  have hZ : ∀ a, ¬ (x + 1 ≤ a ∧ a < x + 55) → Z a = B a := fun a ha => by rw [eZ, uA_n (by omega)]
  have hk26 := hpm k (by omega)
  refine ⟨pm k, hk26.1, er, hD2.1, h.fbw hV hS2 ⟨_, _, hD2, hF2⟩ hZ hj, ?_, hj, d1, d2, hY, hZ⟩
  refine (hF.2 k hkp).cg (by rw [eZ, uA_n (by omega)]) (by rw [eZ, uA_n (by omega)]) (fun j a b => ?_) (fun c hc => ?_)
  · rw [d3 j a b, if_neg (by omega), m1 j a b, upd_s]
  · rw [d4, if_neg (by omega), m2 c hc]
end
section
/-- spoil -/
theorem s_spoilC {x : Nat} {G : Nat → Nat} {t0 t1 t2 : Int32} {B : AA} {R : RR} {A : AA} {pk cd p0 p1 : Int32} (h : SIM x t0 t1 t2 B R A pk) (hV : RIV A pk) {Z : AA} {ZR : RR} {r : Int32} (hc : C_X9_spoil G B R x p0 p1 Z ZR r) {A' : AA} {cdz pkz r' : Int32} (hd : D_X10_spoil A cd pk p0 p1 A' cdz pkz r') : SIM x t0 t1 t2 Z ZR A' pkz ∧ r = r' := by
  have hh := h
  obtain ⟨hS, ⟨pm, tk, hD, hF0⟩, -⟩ := hh
  have hf := hF0.1
  have hfi := congrArg Int32.toInt hf
  have hpk := hV.2
  have hpm := hD.2.2.2.2.1
  obtain ⟨n, hn⟩ : ∃ n : Nat, (n : Int) = pk.toInt := ⟨_, Int.toNat_of_nonneg hpk.1⟩
  have hdrop : ∀ {Z : AA} {ZR : RR} {r : Nat} {A' : AA} {cdz pkz : Int32}, 0 ≤ p0.toInt → p0.toInt < pk.toInt → C_X0_takeOut G B R (x + 1) p0 Z ZR r → D_X10_drop A 0 pk p0 A' cdz pkz → SIM x t0 t1 t2 Z ZR A' pkz := by
    intro Z ZR r A' cdz pkz k0 k1 ht hdr
    obtain ⟨k, hk⟩ : ∃ k : Nat, (k : Int) = p0.toInt := ⟨_, Int.toNat_of_nonneg k0⟩
    obtain ⟨er, hS2, hD2, c, ec1, ec2, eZ, hY⟩ := e_takeOut hS hD ht hk (n := n) (by omega) (by omega) (by omega)
    obtain ⟨-, d1, d2, d3, d4, d5⟩ := r_drop hdr hk hn (by omega)
    have ec : c = pkz := by rw [ec1, d1, hf]
    subst ec
    exact h.fbw hV.w hS2 ⟨_, _, hD2, hF0.drop (tk := tk) hn (by omega) (by omega) (fun i hi => (hpm i hi).1) d1 d2 eZ d3 d4⟩ (fun a ha => by rw [eZ, uA_n (by omega)]) (fun j hj => d5 j (Or.inl hj))
  have hcopy : ∀ {Z : AA} {A' : AA} {c1 k1 x1 : Int32}, 0 ≤ p0.toInt → p0.toInt < pk.toInt → pk.toInt ≠ 24 → C_X0_copyToEnd G B R (x + 1) p0 Z → D_X10_move1 A 0 pk p0 pk A' c1 k1 → x1 = pk + 1 → x1.toInt = pk.toInt + 1 → SIM x t0 t1 t2 Z R A' x1 := by
    intro Z A' c1 k1 x1 k0 k2 k3 hcp hmv ex fx
    obtain ⟨k, hk⟩ : ∃ k : Nat, (k : Int) = p0.toInt := ⟨_, Int.toNat_of_nonneg k0⟩
    obtain ⟨-, -, m1, m2, m3, m4⟩ := r_move1 hmv hk hn (by omega)
    rcases hcp with ⟨n_6, hn_6, n_9, hn_9, U_13, hF, hbecomeLike, x_16, ex_16, fx_16, B_18, rfl, rfl⟩
    obtain rfl : n_6 = n := by omega
    obtain rfl : n_9 = k := by omega
    have hpn := hpm n_6 (by omega)
    have hpk9 := hpm n_9 (by omega)
    have hne : pm n_9 ≠ pm n_6 := fun e => by
      have := hD.2.2.2.2.2 n_9 n_6 (by omega) (by omega) e
      omega
    rw [hS.2.2.2.2.2.2.2.1, hD.2.1 n_6 (by omega), hD.2.1 n_9 (by omega)] at hbecomeLike
    have h7 := hS.2.2.2.2.2.2.2.2.2
    obtain ⟨l1, l2, l3⟩ := e_like hbecomeLike (by rw [h7 _ hpn.1]; omega) (by rw [h7 _ hpk9.1]; omega) (by omega) (by omega) (by omega)
    refine h.fbw hV.w hS ⟨pm, tk, hD, ?_, fun i hi => ?_⟩ (fun a ha => by rw [uA_n (by omega), l3 a (by omega) (by omega)]) (fun j hj => m4 j (Or.inl hj))
    · rw [uA_s, upd_s, ex_16, ex, hf]
    · rw [fx] at hi
      have hpi := hpm i (by omega)
      by_cases e : i = n_6
      · subst e
        refine (hF0.2 n_9 (by omega)).cg2 (fun j hj => ?_) (fun c hc => ?_) (fun j a b => by rw [m1 j a b, upd_s]) (fun c hc => m2 c hc)
        · rw [uA_n (by omega), l1 j hj]
        · rw [uA_n (by omega), show x + 4 + 2 * pm i = x + 3 + 2 * pm i + 1 by omega, show x + 4 + 2 * pm n_9 = x + 3 + 2 * pm n_9 + 1 by omega]; exact l2 c hc
      · have hni : pm i ≠ pm n_6 := fun k => e (hD.2.2.2.2.2 i n_6 (by omega) (by omega) k)
        exact (hF0.2 i (by omega)).cg (by rw [uA_n (by omega), l3 _ (by omega) (by omega)]) (by rw [uA_n (by omega), l3 _ (by omega) (by omega)]) (fun j a b => by rw [m1 j a b, upd_n e]) (fun c hc => m3 _ (by omega))
  rcases hc with ⟨r_4, hhas, c1, rfl, rfl, rfl⟩ | ⟨r_4, hhas, c1, c2, c3, r_11, B_13, R_14, hF, hQ, htakeOut, rfl, rfl, rfl⟩ | ⟨r_4, hhas, c1, c2, c3, U_19, hF, hcopyToEnd, rfl, rfl, rfl⟩ | ⟨r_4, hhas, c1, c2, r_22, hisFull, c3, c4, r_28, B_30, R_31, hF, hQ, htakeOut, rfl, rfl, rfl⟩ | ⟨r_4, hhas, c1, c2, r_22, hisFull, c3, c4, U_36, hF, hcopyToEnd, rfl, rfl, rfl⟩ | ⟨r_4, hhas, c1, c2, r_22, hisFull, c3, rfl, rfl, rfl⟩
  · rw [hS.1.2.2] at hhas
    have k := e_has hhas
    rcases hd with ⟨c1d, rfl, rfl, rfl, rfl⟩ | ⟨c1d, c2d, rfl, rfl, rfl, rfl⟩ | ⟨c1d, c2d, c3d, c4d, ur_5d, hdropd, c5d, c6d, rfl, rfl, rfl, rfl⟩ | ⟨c1d, c2d, c3d, c4d, ur_6d, hmove1d, c5d, x_7d, ex_7d, fx_7d, rfl, rfl, rfl, rfl⟩ | ⟨c1d, c2d, c3d, c4d, c5d, ur_10d, hdropd, c6d, c7d, rfl, rfl, rfl, rfl⟩ | ⟨c1d, c2d, c3d, c4d, c5d, ur_11d, hmove1d, c6d, x_12d, ex_12d, fx_12d, rfl, rfl, rfl, rfl⟩ | ⟨c1d, c2d, c3d, c4d, rfl, rfl, rfl, rfl⟩
    · exact ⟨by simp only [uA_ii]; exact h, rfl⟩
    · exact ⟨by simp only [uA_ii]; exact h, rfl⟩
    · exfalso; omega
    · exfalso; omega
    · exfalso; omega
    · exfalso; omega
    · exfalso; omega
  · rw [hS.1.2.2] at hhas htakeOut
    have k := e_has hhas
    rcases hd with ⟨c1d, rfl, rfl, rfl, rfl⟩ | ⟨c1d, c2d, rfl, rfl, rfl, rfl⟩ | ⟨c1d, c2d, c3d, c4d, ur_5d, hdropd, c5d, c6d, rfl, rfl, rfl, rfl⟩ | ⟨c1d, c2d, c3d, c4d, ur_6d, hmove1d, c5d, x_7d, ex_7d, fx_7d, rfl, rfl, rfl, rfl⟩ | ⟨c1d, c2d, c3d, c4d, c5d, ur_10d, hdropd, c6d, c7d, rfl, rfl, rfl, rfl⟩ | ⟨c1d, c2d, c3d, c4d, c5d, ur_11d, hmove1d, c6d, x_12d, ex_12d, fx_12d, rfl, rfl, rfl, rfl⟩ | ⟨c1d, c2d, c3d, c4d, rfl, rfl, rfl, rfl⟩
    · exfalso; omega
    · exfalso; omega
    · exact ⟨hdrop (by omega) (by omega) htakeOut hdropd, rfl⟩
    · exfalso; omega
    · exfalso; omega
    · exfalso; omega
    · exfalso; omega
  · exfalso; omega
  · exfalso; omega
  · rw [hS.1.2.2] at hhas hisFull hcopyToEnd
    have k := e_has hhas
    have kf : pk.toInt ≠ 24 := by
      rcases hisFull with ⟨c1f, rfl⟩ | ⟨c1f, rfl⟩
      · omega
      · exact absurd c3 (by decide)
    rcases hd with ⟨c1d, rfl, rfl, rfl, rfl⟩ | ⟨c1d, c2d, rfl, rfl, rfl, rfl⟩ | ⟨c1d, c2d, c3d, c4d, ur_5d, hdropd, c5d, c6d, rfl, rfl, rfl, rfl⟩ | ⟨c1d, c2d, c3d, c4d, ur_6d, hmove1d, c5d, x_7d, ex_7d, fx_7d, rfl, rfl, rfl, rfl⟩ | ⟨c1d, c2d, c3d, c4d, c5d, ur_10d, hdropd, c6d, c7d, rfl, rfl, rfl, rfl⟩ | ⟨c1d, c2d, c3d, c4d, c5d, ur_11d, hmove1d, c6d, x_12d, ex_12d, fx_12d, rfl, rfl, rfl, rfl⟩ | ⟨c1d, c2d, c3d, c4d, rfl, rfl, rfl, rfl⟩
    · exfalso; omega
    · exfalso; omega
    · exfalso; omega
    · exfalso; omega
    · exfalso; omega
    · exact ⟨hcopy (by omega) (by omega) (by omega) hcopyToEnd hmove1d ex_12d fx_12d, rfl⟩
    · exfalso; omega
  · rw [hS.1.2.2] at hhas hisFull
    have k := e_has hhas
    have kf : pk.toInt = 24 := by
      rcases hisFull with ⟨c1f, rfl⟩ | ⟨c1f, rfl⟩
      · exact absurd i_0 c3
      · omega
    rcases hd with ⟨c1d, rfl, rfl, rfl, rfl⟩ | ⟨c1d, c2d, rfl, rfl, rfl, rfl⟩ | ⟨c1d, c2d, c3d, c4d, ur_5d, hdropd, c5d, c6d, rfl, rfl, rfl, rfl⟩ | ⟨c1d, c2d, c3d, c4d, ur_6d, hmove1d, c5d, x_7d, ex_7d, fx_7d, rfl, rfl, rfl, rfl⟩ | ⟨c1d, c2d, c3d, c4d, c5d, ur_10d, hdropd, c6d, c7d, rfl, rfl, rfl, rfl⟩ | ⟨c1d, c2d, c3d, c4d, c5d, ur_11d, hmove1d, c6d, x_12d, ex_12d, fx_12d, rfl, rfl, rfl, rfl⟩ | ⟨c1d, c2d, c3d, c4d, rfl, rfl, rfl, rfl⟩
    · exfalso; omega
    · exfalso; omega
    · exfalso; omega
    · exfalso; omega
    · exfalso; omega
    · exfalso; omega
    · exact ⟨by simp only [uA_ii]; exact h, rfl⟩
end
section
theorem PJ.own {n r : Int} {F Z : Nat → Int32} {q : Nat} {fo ol cu : Int32} (h : PJ n F Z q fo ol cu) (hne : cu.toInt ≠ fo.toInt) (hr : RO F Z q cu r) : ∃ i : Nat, (i : Int) < n ∧ r = 4 * (q : Int) + i ∧ (∀ j, j < i → NB Z (4 * q + j) ≤ (farI (F (4 * q + j)) cu).toInt) ∧ 0 ≤ (farI (F (4 * q + i)) cu).toInt ∧ (farI (F (4 * q + i)) cu).toInt < NB Z (4 * q + i) ∧ (1 ≤ (Z (4 * q + i)).toInt ∧ (Z (4 * q + i)).toInt ≤ 12) := by
  obtain ⟨n0, n4, a, o, c, hR, h0, h1, h2, h3, e1, e2, e3⟩ := h
  have hc : c < a n.toNat := by
    rcases Int.lt_or_lt_of_ne (show c ≠ a n.toNat from fun e => hne (by rw [e3, e1, e])) with h | h
    · exact h
    · omega
  obtain ⟨i, i4, hin, er, ha, hb, ef⟩ := pj_find ⟨n0, n4⟩ hR (by omega) hc e3 hr
  obtain ⟨i', i4', er', hlt, -⟩ := hr
  obtain rfl : i' = i := by omega
  have hi := hR i' hin
  exact ⟨i', hin, er, hlt, by omega, by omega, hi.2.1, hi.2.2.1⟩
theorem PJ.none {n : Int} {F Z : Nat → Int32} {q : Nat} {fo ol cu : Int32} (h : PJ n F Z q fo ol cu) (he : cu.toInt = fo.toInt) (i : Nat) (hi : (i : Int) < n) : NB Z (4 * q + i) ≤ (cu.toInt - (F (4 * q + i)).toInt) % 64 := by
  obtain ⟨n0, n4, a, o, c, hR, h0, h1, h2, h3, e1, e2, e3⟩ := h
  have hm : ∀ i : Nat, (i : Int) < n → a (i + 1) = a i + NB Z (4 * q + i) ∧ 1 ≤ NB Z (4 * q + i) ∧ NB Z (4 * q + i) ≤ 3 := fun i hi => by
    obtain ⟨e1, e2, e3, _⟩ := hR i hi
    exact ⟨e1, pj_N ⟨e2, e3⟩⟩
  have e4 := pj_mono hm (n.toNat - (i + 1)) (i + 1) (by omega)
  rw [show i + 1 + (n.toNat - (i + 1)) = n.toNat by omega] at e4
  have e5 := hm i hi
  have e6 := (hR i hi).2.2.2
  rw [he, e1, e6]
  omega
theorem PJ.win {n : Int} {F Z : Nat → Int32} {q : Nat} {fo ol cu : Int32} (h : PJ n F Z q fo ol cu) : (cu.toInt - ol.toInt) % 64 ≤ 12 := by
  obtain ⟨n0, n4, a, o, c, hR, h0, h1, h2, h3, e1, e2, e3⟩ := h
  have hm : ∀ i : Nat, (i : Int) < n → a (i + 1) = a i + NB Z (4 * q + i) ∧ 1 ≤ NB Z (4 * q + i) ∧ NB Z (4 * q + i) ≤ 3 := fun i hi => by
    obtain ⟨e1, e2, e3, _⟩ := hR i hi
    exact ⟨e1, pj_N ⟨e2, e3⟩⟩
  have e4 := pj_mono hm n.toNat 0 (by omega)
  rw [Nat.zero_add] at e4
  rw [e2, e3]
  omega
theorem PJ.frng {n : Int} {F Z : Nat → Int32} {q : Nat} {fo ol cu : Int32} (h : PJ n F Z q fo ol cu) (i : Nat) (hi : (i : Int) < n) : 0 ≤ (F (4 * q + i)).toInt ∧ (F (4 * q + i)).toInt ≤ 63 := by
  obtain ⟨n0, n4, a, o, c, hR, -⟩ := h
  have := (hR i hi).2.2.2
  omega
theorem far_m {a b : Int32} (ha : 0 ≤ a.toInt ∧ a.toInt ≤ 63) (hb : 0 ≤ b.toInt ∧ b.toInt ≤ 63) : (farI a b).toInt = (b.toInt - a.toInt) % 64 := by
  rw [farI_t (by omega) (by omega)]
  omega
theorem e_owner {x q n h : Nat} {G : Nat → Nat} {B : AA} {R : RR} {A : AA} {num r : Int32} (hS : SHX x R) (hq : q < 4) (hc : C_X7_ownerOf G B R (x + 77 + 17 * q) num r) (hh : (h : Int) = (B (x + 78 + 17 * q) 3).toInt) (hn : (n : Int) = (B (x + 78 + 17 * q) 4).toInt) (h4 : n ≤ 4) (rows : ∀ i, i < n → RWQ (B (x + 80 + 17 * q + (h + i) % 4)) A (4 * q + i)) : (r.toInt = -1 ∧ ∀ i, i < n → NB (A 24) (4 * q + i) ≤ (num.toInt - (A 29 (4 * q + i)).toInt) % 64) ∨ (∃ i : Nat, i < n ∧ r.toInt = i ∧ (∀ j, j < i → NB (A 24) (4 * q + j) ≤ (num.toInt - (A 29 (4 * q + j)).toInt) % 64) ∧ (num.toInt - (A 29 (4 * q + i)).toInt) % 64 < NB (A 24) (4 * q + i)) := by
  have row : ∀ {i : Int32} {r k : Nat}, C_X5_at G B R (x + 78 + 17 * q) i r → (k : Int) = i.toInt → k < n → (B r 5).toInt = NB (A 24) (4 * q + k) ∧ ∀ y : Int32, y = (num - B r 4) &&& 63 → y.toInt = (num.toInt - (A 29 (4 * q + k)).toInt) % 64 := by
    intro i r k ha hk hkn
    have e := e_atQ hS hq ha hh hk
    have w := rows k hkn
    rw [← e] at w
    exact ⟨w.2.2.2.2.2.1, fun y hy => by rw [hy, dst, w.2.2.2.2.1]⟩
  have h6 := (hS.2.2.2.1 q hq).2.2
  unfold C_X7_ownerOf at hc
  rw [h6] at hc
  rcases hc with ⟨c1, rfl⟩ | ⟨c1, r_6, hat, x_8, ex_8, c2, c3, rfl⟩ | ⟨c1, r_6, hat, x_8, ex_8, c2, c3, r_13, hat_1, x_15, ex_15, c4, c5, rfl⟩ | ⟨c1, r_6, hat, x_8, ex_8, c2, c3, r_13, hat_1, x_15, ex_15, c4, c5, r_20, hat_2, x_22, ex_22, c6, c7, rfl⟩ | ⟨c1, r_6, hat, x_8, ex_8, c2, c3, r_13, hat_1, x_15, ex_15, c4, c5, r_20, hat_2, x_22, ex_22, c6, c7, r_27, hat_3, x_29, ex_29, c8, rfl⟩ | ⟨c1, r_6, hat, x_8, ex_8, c2, c3, r_13, hat_1, x_15, ex_15, c4, c5, r_20, hat_2, x_22, ex_22, c6, c7, r_27, hat_3, x_29, ex_29, c8, rfl⟩ | ⟨c1, r_6, hat, x_8, ex_8, c2, c3, r_13, hat_1, x_15, ex_15, c4, c5, r_20, hat_2, x_22, ex_22, c6, rfl⟩ | ⟨c1, r_6, hat, x_8, ex_8, c2, c3, r_13, hat_1, x_15, ex_15, c4, rfl⟩ | ⟨c1, r_6, hat, x_8, ex_8, c2, rfl⟩
  · skip
    refine Or.inl ⟨by decide, fun i hi => ?_⟩
    omega
  · skip
    have f0 := row hat (k := 0) (by decide) (by omega)
    have g0 := f0.2 _ ex_8
    refine Or.inl ⟨by decide, fun i hi => ?_⟩
    rcases (show i = 0 by omega) with rfl
    omega
  · skip
    have f0 := row hat (k := 0) (by decide) (by omega)
    have g0 := f0.2 _ ex_8
    have f1 := row hat_1 (k := 1) (by decide) (by omega)
    have g1 := f1.2 _ ex_15
    refine Or.inl ⟨by decide, fun i hi => ?_⟩
    rcases (show i = 0 ∨ i = 1 by omega) with rfl | rfl
    · omega
    · omega
  · skip
    have f0 := row hat (k := 0) (by decide) (by omega)
    have g0 := f0.2 _ ex_8
    have f1 := row hat_1 (k := 1) (by decide) (by omega)
    have g1 := f1.2 _ ex_15
    have f2 := row hat_2 (k := 2) (by decide) (by omega)
    have g2 := f2.2 _ ex_22
    refine Or.inl ⟨by decide, fun i hi => ?_⟩
    rcases (show i = 0 ∨ i = 1 ∨ i = 2 by omega) with rfl | rfl | rfl
    · omega
    · omega
    · omega
  · skip
    have f0 := row hat (k := 0) (by decide) (by omega)
    have g0 := f0.2 _ ex_8
    have f1 := row hat_1 (k := 1) (by decide) (by omega)
    have g1 := f1.2 _ ex_15
    have f2 := row hat_2 (k := 2) (by decide) (by omega)
    have g2 := f2.2 _ ex_22
    have f3 := row hat_3 (k := 3) (by decide) (by omega)
    have g3 := f3.2 _ ex_29
    refine Or.inl ⟨by decide, fun i hi => ?_⟩
    rcases (show i = 0 ∨ i = 1 ∨ i = 2 ∨ i = 3 by omega) with rfl | rfl | rfl | rfl
    · omega
    · omega
    · omega
    · omega
  · skip
    have f0 := row hat (k := 0) (by decide) (by omega)
    have g0 := f0.2 _ ex_8
    have f1 := row hat_1 (k := 1) (by decide) (by omega)
    have g1 := f1.2 _ ex_15
    have f2 := row hat_2 (k := 2) (by decide) (by omega)
    have g2 := f2.2 _ ex_22
    have f3 := row hat_3 (k := 3) (by decide) (by omega)
    have g3 := f3.2 _ ex_29
    refine Or.inr ⟨3, by omega, by decide, fun j hj => ?_, by omega⟩
    rcases (show j = 0 ∨ j = 1 ∨ j = 2 by omega) with rfl | rfl | rfl
    · omega
    · omega
    · omega
  · skip
    have f0 := row hat (k := 0) (by decide) (by omega)
    have g0 := f0.2 _ ex_8
    have f1 := row hat_1 (k := 1) (by decide) (by omega)
    have g1 := f1.2 _ ex_15
    have f2 := row hat_2 (k := 2) (by decide) (by omega)
    have g2 := f2.2 _ ex_22
    refine Or.inr ⟨2, by omega, by decide, fun j hj => ?_, by omega⟩
    rcases (show j = 0 ∨ j = 1 by omega) with rfl | rfl
    · omega
    · omega
  · skip
    have f0 := row hat (k := 0) (by decide) (by omega)
    have g0 := f0.2 _ ex_8
    have f1 := row hat_1 (k := 1) (by decide) (by omega)
    have g1 := f1.2 _ ex_15
    refine Or.inr ⟨1, by omega, by decide, fun j hj => ?_, by omega⟩
    rcases (show j = 0 by omega) with rfl
    omega
  · skip
    have f0 := row hat (k := 0) (by decide) (by omega)
    have g0 := f0.2 _ ex_8
    refine Or.inr ⟨0, by omega, by decide, fun j hj => ?_, by omega⟩
    omega

/-- a packet is sent with cells -/
theorem EMR.load {A A1 A2 : AA} {cd pk p kd nm mk pl va c1 pk1 r1 f sz c1' pk1' c2 pk2 : Int32} {nd f0 : Nat} (he : D_X10_emit A cd pk p kd nm mk pl va A1 c1 pk1 r1) (hl : D_X10_load A1 c1' pk1' r1 p f sz A2 c2 pk2) (hpk : 0 ≤ pk.toInt ∧ pk.toInt ≤ 24) (hq : (nd : Int) = p.toInt % 2) (hf : (f0 : Int) = f.toInt) (hsz : 0 ≤ sz.toInt ∧ sz.toInt ≤ 4) : EMR A A2 pk pk1 (peerT p) kd nm sz mk pl va (fun k => A 4 (32 * nd + f0 + k)) := by
  obtain ⟨n, hn⟩ : ∃ n : Nat, (n : Int) = pk.toInt := ⟨_, Int.toNat_of_nonneg hpk.1⟩
  obtain ⟨w, hw⟩ : ∃ w : Nat, (w : Int) = sz.toInt := ⟨_, Int.toNat_of_nonneg hsz.1⟩
  have im : (-1 : Int32).toInt = -1 := by decide
  obtain ⟨-, -, hl⟩ := r_load hl hq hf hw hsz.2
  obtain ⟨-, hr⟩ := r_emit he hn (by omega)
  clear he
  rcases hr with ⟨n24, e1, e2, e3⟩ | ⟨n24, e1, e2, e3, e4⟩
  · rcases hl with ⟨l1, l2⟩ | ⟨l1, -⟩
    · exact Or.inl ⟨by omega, by rw [l2, e1], e2⟩
    · rw [e3] at l1; omega
  · rcases hl with ⟨l1, -⟩ | ⟨l1, m, hm, l2⟩
    · rw [e1] at l1; omega
    · rw [e1] at hm
      obtain rfl : m = n := by omega
      subst e4
      refine Or.inr ⟨m, hn, n24, e2, e3, ⟨?_, ?_, ?_, ?_, ?_, ?_, ?_⟩, fun _ k k4 ks => ?_, fun k hk => ?_, fun j hj => ?_⟩
      · rw [l2]; rfl
      · rw [l2]; rfl
      · rw [l2]; rfl
      · rw [l2, uA_n (by decide), uA_s]; show upd (upd (A 44) m 0) m sz = _; rw [upd_u]
      · rw [l2]; rfl
      · rw [l2]; rfl
      · rw [l2]; rfl
      · rw [l2, uA_s]; unfold cpy; rw [if_pos (by omega)]
        show A 4 _ = A 4 _
        congr 1; omega
      · rw [l2, uA_s]; unfold cpy; rw [if_neg (by omega)]; rfl
      · rw [l2, uA_n (by omega), uA_n (by omega), uA_n (by omega), uA_n (by omega), uA_n (by omega), uA_n (by omega), uA_n (by omega), uA_n (by omega), uA_n (by omega)]
/-- a packet is sent without cells -/
theorem EMR.size {A A1 A2 : AA} {cd pk p kd nm mk pl va c1 pk1 r1 sz : Int32} {c : Nat → Int32} (he : D_X10_emit A cd pk p kd nm mk pl va A1 c1 pk1 r1) (hl : (r1.toInt < 0 ∧ A2 = A1) ∨ ∃ m : Nat, (m : Int) = r1.toInt ∧ A2 = uA A1 44 (upd (A1 44) m sz)) (hpk : 0 ≤ pk.toInt ∧ pk.toInt ≤ 24) (hk : (kd.toInt = 0 ∨ kd.toInt = 1 ∨ kd.toInt = 4) → sz.toInt ≤ 0) : EMR A A2 pk pk1 (peerT p) kd nm sz mk pl va c := by
  obtain ⟨n, hn⟩ : ∃ n : Nat, (n : Int) = pk.toInt := ⟨_, Int.toNat_of_nonneg hpk.1⟩
  have im : (-1 : Int32).toInt = -1 := by decide
  obtain ⟨-, hr⟩ := r_emit he hn (by omega)
  clear he
  rcases hr with ⟨n24, e1, e2, e3⟩ | ⟨n24, e1, e2, e3, e4⟩
  · rcases hl with ⟨l1, l2⟩ | ⟨m, l1, -⟩
    · exact Or.inl ⟨by omega, by rw [l2, e1], e2⟩
    · rw [e3] at l1; omega
  · rcases hl with ⟨l1, -⟩ | ⟨m, hm, l2⟩
    · rw [e1] at l1; omega
    · rw [e1] at hm
      obtain rfl : m = n := by omega
      subst e4
      refine Or.inr ⟨m, hn, n24, e2, e3, ⟨?_, ?_, ?_, ?_, ?_, ?_, ?_⟩, fun h k k4 ks => ?_, fun k hk => ?_, fun j hj => ?_⟩
      · rw [l2]; rfl
      · rw [l2]; rfl
      · rw [l2]; rfl
      · rw [l2, uA_s]; show upd (upd (A 44) m 0) m sz = _; rw [upd_u]
      · rw [l2]; rfl
      · rw [l2]; rfl
      · rw [l2]; rfl
      · have := hk h; omega
      · rw [l2]; rfl
      · rw [l2, uA_n (by omega), uA_n (by omega), uA_n (by omega), uA_n (by omega), uA_n (by omega), uA_n (by omega), uA_n (by omega), uA_n (by omega)]
theorem EMR.none {A A1 : AA} {cd pk p kd nm mk pl va c1 pk1 r1 : Int32} {c : Nat → Int32} (he : D_X10_emit A cd pk p kd nm mk pl va A1 c1 pk1 r1) (hpk : 0 ≤ pk.toInt ∧ pk.toInt ≤ 24) : EMR A A1 pk pk1 (peerT p) kd nm 0 mk pl va c := by
  obtain ⟨n, hn⟩ : ∃ n : Nat, (n : Int) = pk.toInt := ⟨_, Int.toNat_of_nonneg hpk.1⟩
  obtain ⟨-, hr⟩ := r_emit he hn (by omega)
  have iz := i_0
  rcases hr with ⟨n24, e1, e2, e3⟩ | ⟨n24, e1, e2, e3, e4⟩
  · exact Or.inl ⟨by omega, e1, e2⟩
  · have i44 : A1 44 = upd (A 44) n 0 := by rw [e4]; rfl
    refine EMR.size he (Or.inr ⟨n, by rw [e1]; exact hn, ?_⟩) hpk (fun _ => by omega)
    rw [i44, upd_u, ← i44, uA_ii]
/-- a packet is carried by the class -/
theorem e_carry2 {x : Nat} {G : Nat → Nat} {B : AA} {R : RR} (hS : SHX x R) {pm : Nat → Nat} {tk : Nat} (hD : DYN x R pm tk) {to kd nm : Int32} {Z0 : AA} {r n : Nat} (hc : C_X0_carry G B R (x + 1) to kd nm Z0 r) (hn : (n : Int) = (B (x + 1) 1).toInt) (h24 : n ≤ 24) : Z0 r = bc (B r) to kd nm ∧ R r 7 = r + 1 ∧ (x + 2 < r ∧ r + 1 < x + 55) ∧ (∀ a, a ≠ r → a ≠ x + 1 → Z0 a = B a) ∧ (∀ {Z : AA} {sz mk pl va : Int32} {c : Nat → Int32}, Z r 0 = to → Z r 1 = kd → Z r 2 = nm → Z r 3 = sz → Z r 4 = mk → Z r 5 = pl → Z r 6 = va → (kd.toInt = 0 ∨ kd.toInt = 1 ∨ kd.toInt = 4 → ∀ k : Nat, k < 4 → (k : Int) < sz.toInt → Z (r + 1) k = c k) → (∀ a, a ≠ r → a ≠ r + 1 → Z a = Z0 a) → EMC x pm B Z to kd nm sz mk pl va c) := by
  have h7 := hS.2.2.2.2.2.2.2.2.2
  rcases e_carry hS hD hc hn h24 with ⟨n24, er, eZ⟩ | ⟨n24, er, c, ec1, ec2, eZ⟩
  · subst er eZ
    refine ⟨uA_s, h7 1 (by decide), by omega, fun a h1 h2 => uA_n h1, ?_⟩
    intro Z sz mk pl va c v0 v1 v2 v3 v4 v5 v6 hg hZ
    exact Or.inl ⟨by omega, fun a h1 h2 => by rw [hZ a h1 h2, uA_n h1]⟩
  · subst er eZ
    have hp := hD.2.2.2.2.1 n n24
    refine ⟨?_, by rw [h7 _ hp.1]; omega, by omega, fun a h1 h2 => by rw [uA_n h1, uA_n h2], ?_⟩
    · rw [uA_s]
    · intro Z sz mk pl va c v0 v1 v2 v3 v4 v5 v6 hg hZ
      refine Or.inr ⟨n, hn, n24, _, ec1, ec2, ?_, ⟨v0, v1, v2, v3, v4, v5, v6⟩, fun h k k1 k2 => ?_, fun a h1 h2 h3 => ?_⟩
      · rw [hZ _ (by omega) (by omega), uA_n (by omega), uA_s]
      · rw [show x + 4 + 2 * pm n = x + 3 + 2 * pm n + 1 by omega]; exact hg h k k1 k2
      · rw [hZ a h2 (by omega), uA_n h2, uA_n h1]
end
section
theorem EMC.put {x : Nat} {G : Nat → Nat} {B : AA} {R : RR} (hS : SHX x R) {pm : Nat → Nat} {tk : Nat} (hD : DYN x R pm tk) {to kd nm : Int32} {U : AA} {r n : Nat} (hcar : C_X0_carry G B R (x + 1) to kd nm U r) (hn : (n : Int) = (B (x + 1) 1).toInt) (h24 : n ≤ 24) {f : Nat → Int32} (e0 : f 0 = to) (e1 : f 1 = kd) (e2 : f 2 = nm) {c : Nat → Int32} (hk : (kd.toInt = 0 ∨ kd.toInt = 1 ∨ kd.toInt = 4) → (f 3).toInt ≤ 0) : EMC x pm B (uA U r f) to kd nm (f 3) (f 4) (f 5) (f 6) c := by
  obtain ⟨b1, b2, b3, b4, b5⟩ := e_carry2 hS hD hcar hn h24
  exact b5 (by rw [uA_s]; exact e0) (by rw [uA_s]; exact e1) (by rw [uA_s]; exact e2) (by rw [uA_s]) (by rw [uA_s]) (by rw [uA_s]) (by rw [uA_s]) (fun h k k1 k2 => by have := hk h; omega) (fun a h1 h2 => uA_n h1)
theorem EMC.load {x nd : Nat} {G : Nat → Nat} {B : AA} {R : RR} (hS : SHX x R) (hnd : nd < 2) {pm : Nat → Nat} {tk : Nat} (hD : DYN x R pm tk) {to kd nm : Int32} {U : AA} {r n : Nat} (hcar : C_X0_carry G B R (x + 1) to kd nm U r) (hn : (n : Int) = (B (x + 1) 1).toInt) (h24 : n ≤ 24) {f : Nat → Int32} (e0 : f 0 = to) (e1 : f 1 = kd) (e2 : f 2 = nm) {s s2 : Int32} {f0 : Nat} {Z : AA} (hl : C_X2_load G (uA U r f) R r (x + 56 + 10 * nd) s s2 Z) (hf : (f0 : Int) = s.toInt) (h0 : 0 ≤ s2.toInt) (h32 : s.toInt + s2.toInt ≤ 32) : ∃ sz : Int32, (sz.toInt = if 4 < s2.toInt then 4 else s2.toInt) ∧ EMC x pm B Z to kd nm sz (f 4) (f 5) (f 6) (fun c => B (x + 57 + 10 * nd) (f0 + c)) := by
  obtain ⟨b1, b2, b3, b4, b5⟩ := e_carry2 hS hD hcar hn h24
  obtain ⟨c, w, ec, ect, hw, eZ⟩ := e_load hl b2 (hS.2.1 nd hnd).2.1 (by omega) (by omega) hf h32 h0 (by omega)
  refine ⟨c, ect, ?_⟩
  have zr : Z r = upd f 3 c := by rw [eZ, uA_n (show r ≠ r + 1 by omega), uA_s, uA_s]
  refine b5 (by rw [zr]; exact e0) (by rw [zr]; exact e1) (by rw [zr]; exact e2) (by rw [zr]; exact upd_s) (by rw [zr]; rfl) (by rw [zr]; rfl) (by rw [zr]; rfl) (fun h k k1 k2 => ?_) (fun a h1 h2 => ?_)
  · rw [eZ, uA_s]
    unfold cpy
    rw [if_pos (by omega), uA_n (by omega), b4 _ (by omega) (by omega)]
    show B _ (f0 + (k - 0)) = B _ (f0 + k)
    rw [Nat.sub_zero]
  · rw [eZ, uA_n h2, uA_n h1, uA_n h1]
theorem mul4 {k : Int32} (h : 0 ≤ k.toInt ∧ k.toInt ≤ 64) : (4 * k).toInt = 4 * k.toInt := by
  have i4 : (4 : Int32).toInt = 4 := by decide
  simp only [Int32.toInt_mul, Int.bmod, i4]
  omega
theorem e_cellsOf {G : Nat → Nat} {B : AA} {R : RR} {row : Nat} {k r : Int32} (h : C_X4_cellsOf G B R row k r) (hk : 0 ≤ k.toInt ∧ k.toInt ≤ 2) (hs : 4 * k.toInt < (B row 3).toInt ∧ (B row 3).toInt ≤ 12) : r.toInt = if 4 ≤ (B row 3).toInt - 4 * k.toInt then 4 else (B row 3).toInt - 4 * k.toInt := by
  rcases h with ⟨x_3, ex_3, x_4, ex_4, x_5, ex_5, rfl⟩
  have e3 : x_3.toInt = 4 * k.toInt := by rw [ex_3]; exact mul4 (by omega)
  have e4 : x_4.toInt = (B row 3).toInt - x_3.toInt := by rw [ex_4]; exact s_sub (by omega) (by omega)
  by_cases e : x_4 < 4
  · have e2 := e
    rw [lt_I, i_4] at e2
    rw [ex_5, if_pos e, if_neg (by omega)]; omega
  · have e2 := e
    rw [lt_I, i_4] at e2
    rw [ex_5, if_neg e, if_pos (by omega)]; exact i_4
theorem e_lastN {G : Nat → Nat} {B : AA} {R : RR} {row : Nat} {k r : Int32} (h : C_X4_isLastNumber G B R row k r) (h5 : 1 ≤ (B row 5).toInt ∧ (B row 5).toInt ≤ 3) : (r.toInt = 0 ∧ ¬ k.toInt = (B row 5).toInt - 1) ∨ (r.toInt = 1 ∧ k.toInt = (B row 5).toInt - 1) := by
  rcases h with ⟨x_2, ex_2, c1, rfl⟩ | ⟨x_2, ex_2, c1, rfl⟩
  all_goals
    have e2 : x_2.toInt = (B row 5).toInt - 1 := by
      rw [ex_2, ← i_1t]; exact s_sub (by rw [i_1t]; omega) (by rw [i_1t]; omega)
  · exact Or.inl ⟨by decide, by omega⟩
  · exact Or.inr ⟨by decide, by omega⟩
/-- what a part of a request's packet holds -/
def PRM (A : AA) (m : Nat) (kk : Int) (sz mk pl va : Int32) : Prop := ((A 22 m).toInt = 0 → mk.toInt = (if kk = 0 then 1 else 0) + (if kk = NB (A 24) m - 1 then 2 else 0) ∧ pl = -1) ∧ (¬ (A 22 m).toInt = 0 → mk = A 25 m ∧ pl.toInt = (A 26 m).toInt + 4 * kk) ∧ ((A 22 m).toInt = 3 → va = A 27 m ∧ sz = 0) ∧ (¬ (A 22 m).toInt = 3 → va = 0) ∧ ((A 22 m).toInt = 2 → sz.toInt = (A 24 m).toInt - 4 * kk) ∧ (¬ (A 22 m).toInt = 2 → ¬ (A 22 m).toInt = 3 → sz.toInt = if 4 ≤ (A 24 m).toInt - 4 * kk then 4 else (A 24 m).toInt - 4 * kk)
theorem PRM.uniq {A : AA} {m : Nat} {kk : Int} {sz mk pl va sz' mk' pl' va' : Int32} (h : PRM A m kk sz mk pl va) (g : PRM A m kk sz' mk' pl' va') : sz = sz' ∧ mk = mk' ∧ pl = pl' ∧ va = va' := by
  obtain ⟨h1, h2, h3, h4, h5, h6⟩ := h
  obtain ⟨g1, g2, g3, g4, g5, g6⟩ := g
  refine ⟨?_, ?_, ?_, ?_⟩
  · by_cases e3 : (A 22 m).toInt = 3
    · rw [(h3 e3).2, (g3 e3).2]
    · by_cases e2 : (A 22 m).toInt = 2
      · exact i32_eq (by rw [h5 e2, g5 e2])
      · exact i32_eq (by rw [h6 e2 e3, g6 e2 e3])
  · by_cases e0 : (A 22 m).toInt = 0
    · exact i32_eq (by rw [(h1 e0).1, (g1 e0).1])
    · rw [(h2 e0).1, (g2 e0).1]
  · by_cases e0 : (A 22 m).toInt = 0
    · rw [(h1 e0).2, (g1 e0).2]
    · exact i32_eq (by rw [(h2 e0).2, (g2 e0).2])
  · by_cases e3 : (A 22 m).toInt = 3
    · rw [(h3 e3).1, (g3 e3).1]
    · rw [h4 e3, g4 e3]
theorem PRM.pkv {A : AA} {m : Nat} {kk : Int} {nm sz mk pl va : Int32} (h : PRM A m kk sz mk pl va) (hk : 0 ≤ (A 22 m).toInt ∧ (A 22 m).toInt ≤ 3) (hz : (A 24 m).toInt ≤ 12) (h0 : 0 ≤ kk ∧ kk < NB (A 24) m) (hn : 0 ≤ nm.toInt ∧ nm.toInt ≤ 63) : PKV (A 22 m) nm sz mk := by
  obtain ⟨h1, h2, h3, h4, h5, h6⟩ := h
  unfold NB at h0
  refine ⟨hn, by omega, fun e => ?_, fun e => by omega, fun e => ?_, fun e => ?_⟩
  · rw [(h1 e).1]
    constructor <;> (split <;> split <;> omega)
  · rw [h6 (by omega) (by omega)]
    constructor <;> (split <;> omega)
  · rw [h5 e]; omega
def OWN (A : AA) (q i : Nat) (cu : Int) : Prop := (∀ j, j < i → NB (A 24) (4 * q + j) ≤ (cu - (A 29 (4 * q + j)).toInt) % 64) ∧ (cu - (A 29 (4 * q + i)).toInt) % 64 < NB (A 24) (4 * q + i)
theorem OWN.uniq {A : AA} {q i i' : Nat} {cu : Int} (h : OWN A q i cu) (g : OWN A q i' cu) : i = i' := by
  by_cases e : i < i'
  · have a := g.1 i e
    have b := h.2
    omega
  by_cases e2 : i' < i
  · have a := h.1 i' e2
    have b := g.2
    omega
  omega
def NUM (A : AA) (m : Nat) (kk : Int) : Int := if (A 22 m).toInt = 2 then NB (A 24) m - kk else 1
theorem e_sendPart {x q m n : Nat} {G : Nat → Nat} {B : AA} {R : RR} {A : AA} (hS : SHX x R) (hq : q < 4) {pm : Nat → Nat} {tk : Nat} (hD : DYN x R pm tk) (hn : (n : Int) = (B (x + 1) 1).toInt) (h24 : n ≤ 24) {row : Nat} (hr : x + 76 < row) (hw : RWQ (B row) A m) {k : Int32} (hk : 0 ≤ k.toInt ∧ k.toInt < NB (A 24) m) (hs : 1 ≤ (A 24 m).toInt ∧ (A 24 m).toInt ≤ 12) (hh : 0 ≤ (A 23 m).toInt ∧ (A 23 m).toInt + (A 24 m).toInt ≤ 32) (hpl : -1 ≤ (A 26 m).toInt ∧ (A 26 m).toInt ≤ 31) {Z : AA} (hc : C_X7_sendPart G B R (x + 77 + 17 * q) row k Z) : ∃ (sz mk pl va : Int32) (f0 : Nat), (f0 : Int) = (A 23 m).toInt + 4 * k.toInt ∧ EMC x pm B Z (B (x + 77 + 17 * q) 0) (A 22 m) ((A 29 m + k) &&& 63) sz mk pl va (fun c => B (x + 57 + 10 * (q % 2)) (f0 + c)) ∧ PRM A m k.toInt sz mk pl va := by
  obtain ⟨w0, w1, w2, w3, w4, w5, w6, w7, w8, w9, w10⟩ := hw
  have hNB : NB (A 24) m = ((A 24 m).toInt + 3) / 4 := rfl
  obtain ⟨f0, hf0⟩ : ∃ f0 : Nat, (f0 : Int) = (A 23 m).toInt + 4 * k.toInt := ⟨_, Int.toNat_of_nonneg (by omega)⟩
  have w3i := congrArg Int32.toInt w3
  rcases hc with ⟨x_5, ex_5, r_7, U_8, hF, hcarry, x_9, ex_9, fx_9, c1, B_15, rfl, x_18, ex_18, B_20, rfl, c2, c3, x_28, ex_28, r_29, hcellsOf, U_32, hF_1, hload, rfl⟩ | ⟨x_5, ex_5, r_7, U_8, hF, hcarry, x_9, ex_9, fx_9, c1, B_15, rfl, x_18, ex_18, B_20, rfl, c2, c3, B_35, rfl, rfl⟩ | ⟨x_5, ex_5, r_7, U_8, hF, hcarry, x_9, ex_9, fx_9, c1, B_15, rfl, x_18, ex_18, B_20, rfl, c2, x_38, ex_38, fx_38, B_41, rfl, rfl⟩ | ⟨x_5, ex_5, r_7, U_8, hF, hcarry, x_9, ex_9, fx_9, c1, c2, r_43, hisLastNumber, c3, B_46, rfl, x_54, ex_54, r_55, hcellsOf, U_58, hF_1, hload, rfl⟩ | ⟨x_5, ex_5, r_7, U_8, hF, hcarry, x_9, ex_9, fx_9, c1, c2, r_43, hisLastNumber, c3, B_60, rfl, x_68, ex_68, r_69, hcellsOf, U_72, hF_1, hload, rfl⟩ | ⟨x_5, ex_5, r_7, U_8, hF, hcarry, x_9, ex_9, fx_9, c1, c2, r_73, hisLastNumber, c3, B_76, rfl, x_84, ex_84, r_85, hcellsOf, U_88, hF_1, hload, rfl⟩ | ⟨x_5, ex_5, r_7, U_8, hF, hcarry, x_9, ex_9, fx_9, c1, c2, r_73, hisLastNumber, c3, B_90, rfl, x_98, ex_98, r_99, hcellsOf, U_102, hF_1, hload, rfl⟩
  all_goals
    rw [(hS.2.2.2.1 q hq).2.1, w0] at hcarry
    rw [w0] at c1
    rw [ex_5, w4] at hcarry
    obtain ⟨b1, b2, b3, b4, b5⟩ := e_carry2 hS hD hcarry hn h24
    have eR : U_8 row = B row := b4 row (by omega) (by omega)
    have hne : row ≠ r_7 := by omega
  · rw [w0] at c2 c3
    rw [w6] at hload hcellsOf
    rw [w2] at ex_28
    have eX : x_28.toInt = (A 23 m).toInt + x_9.toInt := by rw [ex_28]; exact add_t (by omega) (by omega)
    rw [(hS.2.2.2.1 q hq).1] at hload
    try simp only [uA_u, uA_s] at hload hcellsOf
    have eC := e_cellsOf hcellsOf (by omega) (by rw [uA_n hne, eR]; omega)
    rw [uA_n hne, eR, w3i] at eC
    have eC1 : r_29.toInt ≤ 4 ∧ 0 ≤ r_29.toInt ∧ r_29.toInt ≤ (A 24 m).toInt - 4 * k.toInt := by rw [eC]; split <;> omega
    obtain ⟨sz, es, hE⟩ := EMC.load hS (by omega) hD hcarry hn h24 (f := upd (upd (U_8 r_7) 4 (A 25 m)) 5 x_18) (by rw [b1]; rfl) (by rw [b1]; rfl) (by rw [b1]; rfl) hload (f0 := f0) (by omega) (by omega) (by omega)
    rw [if_neg (by omega), eC] at es
    rw [w7] at ex_18
    refine ⟨sz, _, _, _, f0, hf0, hE, fun e => absurd e c1, fun _ => ⟨rfl, ?_⟩, fun e => absurd e c3, fun _ => ?_, fun e => absurd e c2, fun _ _ => es⟩
    · show x_18.toInt = _
      rw [ex_18, add_t (by omega) (by omega), fx_9]
    · rw [b1]; rfl
  · rw [w0] at c2 c3
    rw [w7] at ex_18
    rw [w6, w8]
    simp only [uA_u, uA_s]
    have hE := EMC.put hS hD hcarry hn h24 (f := upd (upd (upd (U_8 r_7) 4 (A 25 m)) 5 x_18) 6 (A 27 m)) (by rw [b1]; rfl) (by rw [b1]; rfl) (by rw [b1]; rfl) (c := fun c => B (x + 57 + 10 * (q % 2)) (f0 + c)) (fun h => by omega)
    refine ⟨_, _, _, _, f0, hf0, hE, fun e => absurd e c1, fun _ => ⟨rfl, ?_⟩, fun e => ⟨rfl, ?_⟩, fun e => absurd c3 e, fun e => absurd e c2, fun _ e => absurd c3 e⟩
    · show x_18.toInt = _
      rw [ex_18, add_t (by omega) (by omega), fx_9]
    · rw [b1]; rfl
  · rw [w0] at c2
    rw [w7] at ex_18
    rw [w3] at ex_38 fx_38
    rw [w6]
    simp only [uA_u, uA_s]
    have hE := EMC.put hS hD hcarry hn h24 (f := upd (upd (upd (U_8 r_7) 4 (A 25 m)) 5 x_18) 3 x_38) (by rw [b1]; rfl) (by rw [b1]; rfl) (by rw [b1]; rfl) (c := fun c => B (x + 57 + 10 * (q % 2)) (f0 + c)) (fun h => by omega)
    refine ⟨_, _, _, _, f0, hf0, hE, fun e => absurd e c1, fun _ => ⟨rfl, ?_⟩, fun e => by omega, fun _ => ?_, fun e => ?_, fun e _ => absurd c2 e⟩
    · show x_18.toInt = _
      rw [ex_18, add_t (by omega) (by omega), fx_9]
    · rw [b1]; rfl
    · show x_38.toInt = _
      rw [fx_38, fx_9]
  · have kl := e_lastN hisLastNumber (by rw [eR, w5]; omega)
    rw [eR, w5] at kl
    rw [w2] at ex_54
    have eX : x_54.toInt = (A 23 m).toInt + x_9.toInt := by rw [ex_54]; exact add_t (by omega) (by omega)
    rw [(hS.2.2.2.1 q hq).1] at hload
    try simp only [uA_u, uA_s] at hload hcellsOf
    have eC := e_cellsOf hcellsOf (by omega) (by rw [uA_n hne, eR]; omega)
    rw [uA_n hne, eR, w3i] at eC
    have eC1 : r_55.toInt ≤ 4 ∧ 0 ≤ r_55.toInt ∧ r_55.toInt ≤ (A 24 m).toInt - 4 * k.toInt := by rw [eC]; split <;> omega
    obtain ⟨sz, es, hE⟩ := EMC.load hS (by omega) hD hcarry hn h24 (f := upd (U_8 r_7) 4 0) (by rw [b1]; rfl) (by rw [b1]; rfl) (by rw [b1]; rfl) hload (f0 := f0) (by omega) (by omega) (by omega)
    rw [if_neg (by omega), eC] at es
    refine ⟨sz, _, _, _, f0, hf0, hE, fun e => ⟨?_, ?_⟩, fun e => absurd c1 e, fun e => by omega, fun _ => ?_, fun e => by omega, fun _ _ => es⟩
    · show (0 : Int32).toInt = _
      rw [if_neg c2, if_neg (by omega)]
      decide
    · rw [b1]; rfl
    · rw [b1]; rfl
  · have kl := e_lastN hisLastNumber (by rw [eR, w5]; omega)
    rw [eR, w5] at kl
    rw [w2] at ex_68
    have eX : x_68.toInt = (A 23 m).toInt + x_9.toInt := by rw [ex_68]; exact add_t (by omega) (by omega)
    rw [(hS.2.2.2.1 q hq).1] at hload
    try simp only [uA_u, uA_s] at hload hcellsOf
    have eC := e_cellsOf hcellsOf (by omega) (by rw [uA_n hne, eR]; omega)
    rw [uA_n hne, eR, w3i] at eC
    have eC1 : r_69.toInt ≤ 4 ∧ 0 ≤ r_69.toInt ∧ r_69.toInt ≤ (A 24 m).toInt - 4 * k.toInt := by rw [eC]; split <;> omega
    obtain ⟨sz, es, hE⟩ := EMC.load hS (by omega) hD hcarry hn h24 (f := upd (U_8 r_7) 4 2) (by rw [b1]; rfl) (by rw [b1]; rfl) (by rw [b1]; rfl) hload (f0 := f0) (by omega) (by omega) (by omega)
    rw [if_neg (by omega), eC] at es
    refine ⟨sz, _, _, _, f0, hf0, hE, fun e => ⟨?_, ?_⟩, fun e => absurd c1 e, fun e => by omega, fun _ => ?_, fun e => by omega, fun _ _ => es⟩
    · show (2 : Int32).toInt = _
      rw [if_neg c2, if_pos (by omega)]
      decide
    · rw [b1]; rfl
    · rw [b1]; rfl
  · have kl := e_lastN hisLastNumber (by rw [eR, w5]; omega)
    rw [eR, w5] at kl
    rw [w2] at ex_84
    have eX : x_84.toInt = (A 23 m).toInt + x_9.toInt := by rw [ex_84]; exact add_t (by omega) (by omega)
    rw [(hS.2.2.2.1 q hq).1] at hload
    try simp only [uA_u, uA_s] at hload hcellsOf
    have eC := e_cellsOf hcellsOf (by omega) (by rw [uA_n hne, eR]; omega)
    rw [uA_n hne, eR, w3i] at eC
    have eC1 : r_85.toInt ≤ 4 ∧ 0 ≤ r_85.toInt ∧ r_85.toInt ≤ (A 24 m).toInt - 4 * k.toInt := by rw [eC]; split <;> omega
    obtain ⟨sz, es, hE⟩ := EMC.load hS (by omega) hD hcarry hn h24 (f := upd (U_8 r_7) 4 1) (by rw [b1]; rfl) (by rw [b1]; rfl) (by rw [b1]; rfl) hload (f0 := f0) (by omega) (by omega) (by omega)
    rw [if_neg (by omega), eC] at es
    refine ⟨sz, _, _, _, f0, hf0, hE, fun e => ⟨?_, ?_⟩, fun e => absurd c1 e, fun e => by omega, fun _ => ?_, fun e => by omega, fun _ _ => es⟩
    · show (1 : Int32).toInt = _
      rw [if_pos c2, if_neg (by omega)]
      decide
    · rw [b1]; rfl
    · rw [b1]; rfl
  · have kl := e_lastN hisLastNumber (by rw [eR, w5]; omega)
    rw [eR, w5] at kl
    rw [w2] at ex_98
    have eX : x_98.toInt = (A 23 m).toInt + x_9.toInt := by rw [ex_98]; exact add_t (by omega) (by omega)
    rw [(hS.2.2.2.1 q hq).1] at hload
    try simp only [uA_u, uA_s] at hload hcellsOf
    have eC := e_cellsOf hcellsOf (by omega) (by rw [uA_n hne, eR]; omega)
    rw [uA_n hne, eR, w3i] at eC
    have eC1 : r_99.toInt ≤ 4 ∧ 0 ≤ r_99.toInt ∧ r_99.toInt ≤ (A 24 m).toInt - 4 * k.toInt := by rw [eC]; split <;> omega
    obtain ⟨sz, es, hE⟩ := EMC.load hS (by omega) hD hcarry hn h24 (f := upd (U_8 r_7) 4 3) (by rw [b1]; rfl) (by rw [b1]; rfl) (by rw [b1]; rfl) hload (f0 := f0) (by omega) (by omega) (by omega)
    rw [if_neg (by omega), eC] at es
    refine ⟨sz, _, _, _, f0, hf0, hE, fun e => ⟨?_, ?_⟩, fun e => absurd c1 e, fun e => by omega, fun _ => ?_, fun e => by omega, fun _ _ => es⟩
    · show (3 : Int32).toInt = _
      rw [if_pos c2, if_pos (by omega)]
      decide
    · rw [b1]; rfl
    · rw [b1]; rfl
end
section
theorem e_sendNext {x q n h np : Nat} {G : Nat → Nat} {B : AA} {R : RR} {A : AA} (hS : SHX x R) (hq : q < 4) {pm : Nat → Nat} {tk : Nat} (hD : DYN x R pm tk) (hnp : (np : Int) = (B (x + 1) 1).toInt) (h24 : np ≤ 24) (hh : (h : Int) = (B (x + 78 + 17 * q) 3).toInt) (hn : (n : Int) = (B (x + 78 + 17 * q) 4).toInt) (h4 : n ≤ 4) (rows : ∀ i, i < n → RWQ (B (x + 80 + 17 * q + (h + i) % 4)) A (4 * q + i)) (hz : ∀ i, i < n → (1 ≤ (A 24 (4 * q + i)).toInt ∧ (A 24 (4 * q + i)).toInt ≤ 12) ∧ (0 ≤ (A 23 (4 * q + i)).toInt ∧ (A 23 (4 * q + i)).toInt + (A 24 (4 * q + i)).toInt ≤ 32) ∧ (-1 ≤ (A 26 (4 * q + i)).toInt ∧ (A 26 (4 * q + i)).toInt ≤ 31)) (hcu : 0 ≤ (B (x + 77 + 17 * q) 9).toInt ∧ (B (x + 77 + 17 * q) 9).toInt ≤ 63) {Z : AA} {r : Int32} (hc : C_X7_sendNext G B R (x + 77 + 17 * q) Z r) : (Z = B ∧ r = -1 ∧ (¬ (B (x + 77 + 17 * q) 13).toInt = 0 ∨ (∀ i, i < n → NB (A 24) (4 * q + i) ≤ ((B (x + 77 + 17 * q) 9).toInt - (A 29 (4 * q + i)).toInt) % 64) ∨ ∃ i, i < n ∧ OWN A q i (B (x + 77 + 17 * q) 9).toInt ∧ ¬ (((B (x + 77 + 17 * q) 9).toInt - (B (x + 77 + 17 * q) 8).toInt) % 64 + NUM A (4 * q + i) (((B (x + 77 + 17 * q) 9).toInt - (A 29 (4 * q + i)).toInt) % 64) ≤ 8))) ∨ ((B (x + 77 + 17 * q) 13).toInt = 0 ∧ ∃ i, i < n ∧ OWN A q i (B (x + 77 + 17 * q) 9).toInt ∧ (((B (x + 77 + 17 * q) 9).toInt - (B (x + 77 + 17 * q) 8).toInt) % 64 + NUM A (4 * q + i) (((B (x + 77 + 17 * q) 9).toInt - (A 29 (4 * q + i)).toInt) % 64) ≤ 8) ∧ r = B (x + 77 + 17 * q) 9 ∧ ∃ (U : AA) (sz mk pl va cu' : Int32) (f0 : Nat), (f0 : Int) = (A 23 (4 * q + i)).toInt + 4 * (((B (x + 77 + 17 * q) 9).toInt - (A 29 (4 * q + i)).toInt) % 64) ∧ EMC x pm B U (B (x + 77 + 17 * q) 0) (A 22 (4 * q + i)) (B (x + 77 + 17 * q) 9) sz mk pl va (fun c => B (x + 57 + 10 * (q % 2)) (f0 + c)) ∧ PRM A (4 * q + i) (((B (x + 77 + 17 * q) 9).toInt - (A 29 (4 * q + i)).toInt) % 64) sz mk pl va ∧ cu'.toInt = ((B (x + 77 + 17 * q) 9).toInt + NUM A (4 * q + i) (((B (x + 77 + 17 * q) 9).toInt - (A 29 (4 * q + i)).toInt) % 64)) % 64 ∧ Z = uA U (x + 77 + 17 * q) (upd (if (B (x + 77 + 17 * q) 9).toInt = (B (x + 77 + 17 * q) 8).toInt then upd (U (x + 77 + 17 * q)) 10 0 else U (x + 77 + 17 * q)) 9 cu')) := by
  have i1 := i_1t
  rcases hc with ⟨r_2, hownerOf, c1, eZ, rfl⟩ | ⟨r_2, hownerOf, c1, c2, r_8, hat, x_11, ex_11, c3, x_13, ex_13, x_14, ex_14, fx_14, c4, U_17, hF, hsendPart, c5, x_22, ex_22, B_23, rfl, eZ, rfl⟩ | ⟨r_2, hownerOf, c1, c2, r_8, hat, x_11, ex_11, c3, x_13, ex_13, x_14, ex_14, fx_14, c4, U_17, hF, hsendPart, c5, B_24, rfl, x_27, ex_27, B_28, rfl, eZ, rfl⟩ | ⟨r_2, hownerOf, c1, c2, r_8, hat, x_11, ex_11, c3, x_13, ex_13, x_14, ex_14, fx_14, c4, eZ, rfl⟩ | ⟨r_2, hownerOf, c1, c2, r_8, hat, x_11, ex_11, c3, x_29, ex_29, x_30, ex_30, x_31, ex_31, c4, U_34, hF, hsendPart, c5, x_39, ex_39, B_40, rfl, eZ, rfl⟩ | ⟨r_2, hownerOf, c1, c2, r_8, hat, x_11, ex_11, c3, x_29, ex_29, x_30, ex_30, x_31, ex_31, c4, U_34, hF, hsendPart, c5, B_41, rfl, x_44, ex_44, B_45, rfl, eZ, rfl⟩ | ⟨r_2, hownerOf, c1, c2, r_8, hat, x_11, ex_11, c3, x_29, ex_29, x_30, ex_30, x_31, ex_31, c4, eZ, rfl⟩ | ⟨r_2, hownerOf, c1, c2, eZ, rfl⟩
  · exact Or.inl ⟨eZ, rfl, Or.inl c1⟩
  · rcases e_owner hS hq hownerOf hh hn h4 rows with ⟨o1, -⟩ | ⟨i, hi, ei, o3, o4⟩
    · exact absurd o1 c2
    rw [(hS.2.2.2.1 q hq).2.2] at hat
    have er := e_atQ hS hq hat hh (k := i) (by omega)
    have w := rows i hi
    rw [← er] at w
    have z := hz i hi
    have hN := pj_N z.1
    have e11 : x_11.toInt = (((B (x + 77 + 17 * q) 9).toInt - (A 29 (4 * q + i)).toInt) % 64) := by rw [ex_11, w.2.2.2.2.1, dst]
    have w5 := w.2.2.2.2.2.1
    have w0 := congrArg Int32.toInt w.1
    rw [w0] at c3
    have e13 : x_13.toInt = ((B (x + 77 + 17 * q) 9).toInt - (B (x + 77 + 17 * q) 8).toInt) % 64 := by rw [ex_13, dst]
    obtain ⟨sz, mk, pl, va, f0, hf0, hE, hP⟩ := e_sendPart hS hq hD hnp h24 (by omega) w (k := x_11) (by omega) z.1 z.2.1 z.2.2 hsendPart
    rw [e11] at hf0 hP
    have enm : (A 29 (4 * q + i) + x_11) &&& 63 = B (x + 77 + 17 * q) 9 := i32_eq (by rw [aft, e11]; omega)
    rw [enm] at hE
    refine Or.inr ⟨c1, i, hi, ⟨o3, o4⟩, ?_, rfl, U_17, sz, mk, pl, va, x_22, f0, hf0, hE, hP, ?_, ?_⟩
    · unfold NUM; rw [if_neg c3]; omega
    · unfold NUM; rw [if_neg c3, ex_22, aft, i1]
    · rw [eZ, if_neg c5]
  · rcases e_owner hS hq hownerOf hh hn h4 rows with ⟨o1, -⟩ | ⟨i, hi, ei, o3, o4⟩
    · exact absurd o1 c2
    rw [(hS.2.2.2.1 q hq).2.2] at hat
    have er := e_atQ hS hq hat hh (k := i) (by omega)
    have w := rows i hi
    rw [← er] at w
    have z := hz i hi
    have hN := pj_N z.1
    have e11 : x_11.toInt = (((B (x + 77 + 17 * q) 9).toInt - (A 29 (4 * q + i)).toInt) % 64) := by rw [ex_11, w.2.2.2.2.1, dst]
    have w5 := w.2.2.2.2.2.1
    have w0 := congrArg Int32.toInt w.1
    rw [w0] at c3
    have e13 : x_13.toInt = ((B (x + 77 + 17 * q) 9).toInt - (B (x + 77 + 17 * q) 8).toInt) % 64 := by rw [ex_13, dst]
    obtain ⟨sz, mk, pl, va, f0, hf0, hE, hP⟩ := e_sendPart hS hq hD hnp h24 (by omega) w (k := x_11) (by omega) z.1 z.2.1 z.2.2 hsendPart
    rw [e11] at hf0 hP
    have enm : (A 29 (4 * q + i) + x_11) &&& 63 = B (x + 77 + 17 * q) 9 := i32_eq (by rw [aft, e11]; omega)
    rw [enm] at hE
    refine Or.inr ⟨c1, i, hi, ⟨o3, o4⟩, ?_, rfl, U_17, sz, mk, pl, va, x_27, f0, hf0, hE, hP, ?_, ?_⟩
    · unfold NUM; rw [if_neg c3]; omega
    · unfold NUM; rw [if_neg c3, ex_27, aft, i1]
    · rw [eZ, if_pos c5]; simp only [uA_u, uA_s]
  · rcases e_owner hS hq hownerOf hh hn h4 rows with ⟨o1, -⟩ | ⟨i, hi, ei, o3, o4⟩
    · exact absurd o1 c2
    rw [(hS.2.2.2.1 q hq).2.2] at hat
    have er := e_atQ hS hq hat hh (k := i) (by omega)
    have w := rows i hi
    rw [← er] at w
    have z := hz i hi
    have hN := pj_N z.1
    have e11 : x_11.toInt = (((B (x + 77 + 17 * q) 9).toInt - (A 29 (4 * q + i)).toInt) % 64) := by rw [ex_11, w.2.2.2.2.1, dst]
    have w5 := w.2.2.2.2.2.1
    have w0 := congrArg Int32.toInt w.1
    rw [w0] at c3
    have e13 : x_13.toInt = ((B (x + 77 + 17 * q) 9).toInt - (B (x + 77 + 17 * q) 8).toInt) % 64 := by rw [ex_13, dst]
    refine Or.inl ⟨eZ, rfl, Or.inr (Or.inr ⟨i, hi, ⟨o3, o4⟩, ?_⟩)⟩
    unfold NUM; rw [if_neg c3]; omega
  · rcases e_owner hS hq hownerOf hh hn h4 rows with ⟨o1, -⟩ | ⟨i, hi, ei, o3, o4⟩
    · exact absurd o1 c2
    rw [(hS.2.2.2.1 q hq).2.2] at hat
    have er := e_atQ hS hq hat hh (k := i) (by omega)
    have w := rows i hi
    rw [← er] at w
    have z := hz i hi
    have hN := pj_N z.1
    have e11 : x_11.toInt = (((B (x + 77 + 17 * q) 9).toInt - (A 29 (4 * q + i)).toInt) % 64) := by rw [ex_11, w.2.2.2.2.1, dst]
    have w5 := w.2.2.2.2.2.1
    have w0 := congrArg Int32.toInt w.1
    rw [w0] at c3
    have e30 : x_30.toInt = ((B (x + 77 + 17 * q) 9).toInt - (B (x + 77 + 17 * q) 8).toInt) % 64 := by rw [ex_30, dst]
    have e29 : x_29.toInt = NB (A 24) (4 * q + i) - x_11.toInt := by rw [ex_29, s_sub (by omega) (by omega), w5]
    have e31 : x_31.toInt = x_30.toInt + x_29.toInt := by rw [ex_31]; exact add_t (by omega) (by omega)
    obtain ⟨sz, mk, pl, va, f0, hf0, hE, hP⟩ := e_sendPart hS hq hD hnp h24 (by omega) w (k := x_11) (by omega) z.1 z.2.1 z.2.2 hsendPart
    rw [e11] at hf0 hP
    have enm : (A 29 (4 * q + i) + x_11) &&& 63 = B (x + 77 + 17 * q) 9 := i32_eq (by rw [aft, e11]; omega)
    rw [enm] at hE
    refine Or.inr ⟨c1, i, hi, ⟨o3, o4⟩, ?_, rfl, U_34, sz, mk, pl, va, x_39, f0, hf0, hE, hP, ?_, ?_⟩
    · unfold NUM; rw [if_pos c3]; omega
    · unfold NUM; rw [if_pos c3, ex_39, aft, e29, e11]
    · rw [eZ, if_neg c5]
  · rcases e_owner hS hq hownerOf hh hn h4 rows with ⟨o1, -⟩ | ⟨i, hi, ei, o3, o4⟩
    · exact absurd o1 c2
    rw [(hS.2.2.2.1 q hq).2.2] at hat
    have er := e_atQ hS hq hat hh (k := i) (by omega)
    have w := rows i hi
    rw [← er] at w
    have z := hz i hi
    have hN := pj_N z.1
    have e11 : x_11.toInt = (((B (x + 77 + 17 * q) 9).toInt - (A 29 (4 * q + i)).toInt) % 64) := by rw [ex_11, w.2.2.2.2.1, dst]
    have w5 := w.2.2.2.2.2.1
    have w0 := congrArg Int32.toInt w.1
    rw [w0] at c3
    have e30 : x_30.toInt = ((B (x + 77 + 17 * q) 9).toInt - (B (x + 77 + 17 * q) 8).toInt) % 64 := by rw [ex_30, dst]
    have e29 : x_29.toInt = NB (A 24) (4 * q + i) - x_11.toInt := by rw [ex_29, s_sub (by omega) (by omega), w5]
    have e31 : x_31.toInt = x_30.toInt + x_29.toInt := by rw [ex_31]; exact add_t (by omega) (by omega)
    obtain ⟨sz, mk, pl, va, f0, hf0, hE, hP⟩ := e_sendPart hS hq hD hnp h24 (by omega) w (k := x_11) (by omega) z.1 z.2.1 z.2.2 hsendPart
    rw [e11] at hf0 hP
    have enm : (A 29 (4 * q + i) + x_11) &&& 63 = B (x + 77 + 17 * q) 9 := i32_eq (by rw [aft, e11]; omega)
    rw [enm] at hE
    refine Or.inr ⟨c1, i, hi, ⟨o3, o4⟩, ?_, rfl, U_34, sz, mk, pl, va, x_44, f0, hf0, hE, hP, ?_, ?_⟩
    · unfold NUM; rw [if_pos c3]; omega
    · unfold NUM; rw [if_pos c3, ex_44, aft, e29, e11]
    · rw [eZ, if_pos c5]; simp only [uA_u, uA_s]
  · rcases e_owner hS hq hownerOf hh hn h4 rows with ⟨o1, -⟩ | ⟨i, hi, ei, o3, o4⟩
    · exact absurd o1 c2
    rw [(hS.2.2.2.1 q hq).2.2] at hat
    have er := e_atQ hS hq hat hh (k := i) (by omega)
    have w := rows i hi
    rw [← er] at w
    have z := hz i hi
    have hN := pj_N z.1
    have e11 : x_11.toInt = (((B (x + 77 + 17 * q) 9).toInt - (A 29 (4 * q + i)).toInt) % 64) := by rw [ex_11, w.2.2.2.2.1, dst]
    have w5 := w.2.2.2.2.2.1
    have w0 := congrArg Int32.toInt w.1
    rw [w0] at c3
    have e30 : x_30.toInt = ((B (x + 77 + 17 * q) 9).toInt - (B (x + 77 + 17 * q) 8).toInt) % 64 := by rw [ex_30, dst]
    have e29 : x_29.toInt = NB (A 24) (4 * q + i) - x_11.toInt := by rw [ex_29, s_sub (by omega) (by omega), w5]
    have e31 : x_31.toInt = x_30.toInt + x_29.toInt := by rw [ex_31]; exact add_t (by omega) (by omega)
    refine Or.inl ⟨eZ, rfl, Or.inr (Or.inr ⟨i, hi, ⟨o3, o4⟩, ?_⟩)⟩
    unfold NUM; rw [if_pos c3]; omega
  · rcases e_owner hS hq hownerOf hh hn h4 rows with ⟨o1, o2⟩ | ⟨i, hi, ei, -⟩
    · exact Or.inl ⟨eZ, rfl, Or.inr (Or.inl o2)⟩
    · exfalso; omega
end
