theorem e_at {G : Nat → Nat} {B : AA} {R : RR} {N M : Nat} {p r : Int32} {k : Nat} (h : C_X1_at G B R N p r) (hM : R N 0 = M) (hk : (k : Int) = p.toInt) (h32 : k < 32) : r = B M k := by
  rcases h with ⟨c1, rfl⟩ | ⟨c1, n_6, hn_6, rfl⟩
  · omega
  · obtain rfl : n_6 = k := by omega
    rw [hM]
theorem e_put {G : Nat → Nat} {B : AA} {R : RR} {N M : Nat} {p v : Int32} {Z : AA} {k : Nat} (h : C_X1_put G B R N p v Z) (hM : R N 0 = M) (hk : (k : Int) = p.toInt) (h32 : k < 32) : Z = uA B M (upd (B M) k v) := by
  rcases h with ⟨c1, rfl⟩ | ⟨c1, n_6, hn_6, B_7, rfl, rfl⟩
  · omega
  · obtain rfl : n_6 = k := by omega
    rw [hM]
/-- w cells from f on are h's -/
def cpy (g : Nat → Int32) (f w : Nat) (h : Nat → Int32) : Nat → Int32 := fun c => if f ≤ c ∧ c < f + w then h (c - f) else g c
theorem cpy_z {g h : Nat → Int32} {f : Nat} : cpy g f 0 h = g := by
  funext c; unfold cpy; rw [if_neg (by omega)]
theorem cpy_s {g h : Nat → Int32} {f w k : Nat} {v : Int32} (hk : k = f + w) (hv : v = h w) : upd (cpy g f w h) k v = cpy g f (w + 1) h := by
  subst hk hv
  funext c
  unfold cpy
  by_cases e : c = f + w
  · subst e; rw [upd_s, if_pos (by omega), show f + w - f = w by omega]
  · rw [upd_n e]
    by_cases e2 : f ≤ c ∧ c < f + w
    · rw [if_pos e2, if_pos (by omega)]
    · rw [if_neg e2, if_neg (by omega)]
theorem cpy1 {g h : Nat → Int32} {f k0 : Nat} {v0 : Int32} (h0 : k0 = f) (a0 : v0 = h 0) : upd g k0 v0 = cpy g f 1 h := by
  have e := cpy_s (g := g) (h := h) (f := f) (w := 0) (k := k0) (v := v0) (by omega) a0
  rw [cpy_z] at e
  exact e
theorem cpy2 {g h : Nat → Int32} {f k0 k1 : Nat} {v0 v1 : Int32} (h0 : k0 = f) (a0 : v0 = h 0) (h1 : k1 = f + 1) (a1 : v1 = h 1) : upd (upd g k0 v0) k1 v1 = cpy g f 2 h := by
  rw [cpy1 h0 a0]; exact cpy_s h1 a1
theorem cpy3 {g h : Nat → Int32} {f k0 k1 k2 : Nat} {v0 v1 v2 : Int32} (h0 : k0 = f) (a0 : v0 = h 0) (h1 : k1 = f + 1) (a1 : v1 = h 1) (h2 : k2 = f + 2) (a2 : v2 = h 2) : upd (upd (upd g k0 v0) k1 v1) k2 v2 = cpy g f 3 h := by
  rw [cpy2 h0 a0 h1 a1]; exact cpy_s h2 a2
theorem cpy4 {g h : Nat → Int32} {f k0 k1 k2 k3 : Nat} {v0 v1 v2 v3 : Int32} (h0 : k0 = f) (a0 : v0 = h 0) (h1 : k1 = f + 1) (a1 : v1 = h 1) (h2 : k2 = f + 2) (a2 : v2 = h 2) (h3 : k3 = f + 3) (a3 : v3 = h 3) : upd (upd (upd (upd g k0 v0) k1 v1) k2 v2) k3 v3 = cpy g f 4 h := by
  rw [cpy3 h0 a0 h1 a1 h2 a2]; exact cpy_s h3 a3
theorem min4 {a b : Int32} (h : b = if 4 < a then 4 else a) : b.toInt = if 4 < a.toInt then 4 else a.toInt := by
  by_cases e : 4 < a
  · have e2 := e
    rw [lt_I, i_4] at e2
    rw [h, if_pos e, if_pos e2]; exact i_4
  · have e2 := e
    rw [lt_I, i_4] at e2
    rw [h, if_neg e, if_neg e2]
theorem off_t {a b : Int32} (h : 0 ≤ a.toInt ∧ a.toInt ≤ 64) (hb : 0 ≤ b.toInt ∧ b.toInt ≤ 64) : (a + b).toInt = a.toInt + b.toInt := s_add (by omega) (by omega)
theorem e_load {G : Nat → Nat} {B : AA} {R : RR} {a N M : Nat} {f n : Int32} {Z : AA} {f0 : Nat} (h : C_X2_load G B R a N f n Z) (ha : R a 7 = a + 1) (hM : R N 0 = M) (h1 : M ≠ a) (h2 : M ≠ a + 1) (hf : (f0 : Int) = f.toInt) (h32 : f.toInt + n.toInt ≤ 32) (hn : 0 ≤ n.toInt) (hf2 : f.toInt ≤ 32) : ∃ (c : Int32) (w : Nat), (c = if 4 < n then 4 else n) ∧ (c.toInt = if 4 < n.toInt then 4 else n.toInt) ∧ (w : Int) = c.toInt ∧ Z = uA (uA B a (upd (B a) 3 c)) (a + 1) (cpy (B (a + 1)) 0 w (fun k => B M (f0 + k))) := by
  have i0 := i_0
  have i1 := i_1
  have i2 := i_2
  have i3 := i_3
  rcases h with ⟨x_1, ex_1, B_4, rfl, c1, rfl⟩ | ⟨x_1, ex_1, B_4, rfl, c1, x_9, ex_9, r_11, hat, B_13, rfl, c2, rfl⟩ | ⟨x_1, ex_1, B_4, rfl, c1, x_9, ex_9, r_11, hat, B_13, rfl, c2, x_17, ex_17, r_19, hat_1, B_21, rfl, c3, rfl⟩ | ⟨x_1, ex_1, B_4, rfl, c1, x_9, ex_9, r_11, hat, B_13, rfl, c2, x_17, ex_17, r_19, hat_1, B_21, rfl, c3, x_25, ex_25, r_27, hat_2, B_29, rfl, c4, rfl⟩ | ⟨x_1, ex_1, B_4, rfl, c1, x_9, ex_9, r_11, hat, B_13, rfl, c2, x_17, ex_17, r_19, hat_1, B_21, rfl, c3, x_25, ex_25, r_27, hat_2, B_29, rfl, c4, x_33, ex_33, r_35, hat_3, B_37, rfl, rfl⟩
  all_goals
    have e4 := min4 ex_1
    try rw [ha]
  · refine ⟨x_1, 0, ex_1, e4, by omega, ?_⟩
    rw [cpy_z, show B (a + 1) = uA B a (upd (B a) 3 x_1) (a + 1) from (uA_n (by omega)).symm, uA_ii]
  · refine ⟨x_1, 1, ex_1, e4, by omega, ?_⟩
    have o0 := off_t (a := f) (b := 0) (by omega) (by decide)
    have t0 := e_at hat hM (k := f0 + 0) (by rw [ex_9]; omega) (by omega)
    rw [uA_n h1] at t0
    try simp only [uA_u, uA_s]
    rw [uA_n (show a + 1 ≠ a by omega)]
    rw [cpy1 (f := 0) (h := fun k => B M (f0 + k)) (by omega) t0]
  · refine ⟨x_1, 2, ex_1, e4, by omega, ?_⟩
    have o0 := off_t (a := f) (b := 0) (by omega) (by decide)
    have t0 := e_at hat hM (k := f0 + 0) (by rw [ex_9]; omega) (by omega)
    rw [uA_n h1] at t0
    have o1 := off_t (a := f) (b := 1) (by omega) (by decide)
    have t1 := e_at hat_1 hM (k := f0 + 1) (by rw [ex_17]; omega) (by omega)
    rw [ha, uA_n h2, uA_n h1] at t1
    try simp only [uA_u, uA_s]
    rw [uA_n (show a + 1 ≠ a by omega)]
    rw [cpy2 (f := 0) (h := fun k => B M (f0 + k)) (by omega) t0 (by omega) t1]
  · refine ⟨x_1, 3, ex_1, e4, by omega, ?_⟩
    have o0 := off_t (a := f) (b := 0) (by omega) (by decide)
    have t0 := e_at hat hM (k := f0 + 0) (by rw [ex_9]; omega) (by omega)
    rw [uA_n h1] at t0
    have o1 := off_t (a := f) (b := 1) (by omega) (by decide)
    have t1 := e_at hat_1 hM (k := f0 + 1) (by rw [ex_17]; omega) (by omega)
    rw [ha, uA_n h2, uA_n h1] at t1
    have o2 := off_t (a := f) (b := 2) (by omega) (by decide)
    have t2 := e_at hat_2 hM (k := f0 + 2) (by rw [ex_25]; omega) (by omega)
    rw [ha, uA_n h2, uA_n h2, uA_n h1] at t2
    try simp only [uA_u, uA_s]
    rw [uA_n (show a + 1 ≠ a by omega)]
    rw [cpy3 (f := 0) (h := fun k => B M (f0 + k)) (by omega) t0 (by omega) t1 (by omega) t2]
  · refine ⟨x_1, 4, ex_1, e4, by omega, ?_⟩
    have o0 := off_t (a := f) (b := 0) (by omega) (by decide)
    have t0 := e_at hat hM (k := f0 + 0) (by rw [ex_9]; omega) (by omega)
    rw [uA_n h1] at t0
    have o1 := off_t (a := f) (b := 1) (by omega) (by decide)
    have t1 := e_at hat_1 hM (k := f0 + 1) (by rw [ex_17]; omega) (by omega)
    rw [ha, uA_n h2, uA_n h1] at t1
    have o2 := off_t (a := f) (b := 2) (by omega) (by decide)
    have t2 := e_at hat_2 hM (k := f0 + 2) (by rw [ex_25]; omega) (by omega)
    rw [ha, uA_n h2, uA_n h2, uA_n h1] at t2
    have o3 := off_t (a := f) (b := 3) (by omega) (by decide)
    have t3 := e_at hat_3 hM (k := f0 + 3) (by rw [ex_33]; omega) (by omega)
    rw [ha, uA_n h2, uA_n h2, uA_n h2, uA_n h1] at t3
    try simp only [uA_u, uA_s]
    rw [uA_n (show a + 1 ≠ a by omega)]
    rw [cpy4 (f := 0) (h := fun k => B M (f0 + k)) (by omega) t0 (by omega) t1 (by omega) t2 (by omega) t3]

theorem r_load {A : AA} {cd pk r q f n : Int32} {Z : AA} {cdz pkz : Int32} {f0 nd w : Nat} (h : D_X10_load A cd pk r q f n Z cdz pkz) (hq : (nd : Int) = q.toInt % 2) (hf : (f0 : Int) = f.toInt) (hw : (w : Int) = n.toInt) (h4 : n.toInt ≤ 4) : cdz = cd ∧ pkz = pk ∧ ((r.toInt < 0 ∧ Z = A) ∨ (0 ≤ r.toInt ∧ ∃ m : Nat, (m : Int) = r.toInt ∧ Z = uA (uA A 44 (upd (A 44) m n)) 48 (cpy (A 48) (4 * m) w (fun k => A 4 (32 * nd + f0 + k))))) := by
  rcases h with ⟨c1, n_4, hn_4, g_3, rfl, c2, rfl, rfl, rfl⟩ | ⟨c1, n_4, hn_4, g_3, rfl, c2, x_7, ex_7, fx_7, x_8, ex_8, fx_8, x_9, ex_9, fx_9, x_10, ex_10, fx_10, x_11, ex_11, fx_11, x_12, ex_12, fx_12, n_15, hn_15, n_18, hn_18, g_17, rfl, c3, rfl, rfl, rfl⟩ | ⟨c1, n_4, hn_4, g_3, rfl, c2, x_7, ex_7, fx_7, x_8, ex_8, fx_8, x_9, ex_9, fx_9, x_10, ex_10, fx_10, x_11, ex_11, fx_11, x_12, ex_12, fx_12, n_15, hn_15, n_18, hn_18, g_17, rfl, c3, x_21, ex_21, fx_21, x_22, ex_22, fx_22, x_23, ex_23, fx_23, x_24, ex_24, fx_24, x_25, ex_25, fx_25, n_28, hn_28, n_31, hn_31, g_30, rfl, c4, rfl, rfl, rfl⟩ | ⟨c1, n_4, hn_4, g_3, rfl, c2, x_7, ex_7, fx_7, x_8, ex_8, fx_8, x_9, ex_9, fx_9, x_10, ex_10, fx_10, x_11, ex_11, fx_11, x_12, ex_12, fx_12, n_15, hn_15, n_18, hn_18, g_17, rfl, c3, x_21, ex_21, fx_21, x_22, ex_22, fx_22, x_23, ex_23, fx_23, x_24, ex_24, fx_24, x_25, ex_25, fx_25, n_28, hn_28, n_31, hn_31, g_30, rfl, c4, x_34, ex_34, fx_34, x_35, ex_35, fx_35, x_36, ex_36, fx_36, x_37, ex_37, fx_37, x_38, ex_38, fx_38, n_41, hn_41, n_44, hn_44, g_43, rfl, c5, rfl, rfl, rfl⟩ | ⟨c1, n_4, hn_4, g_3, rfl, c2, x_7, ex_7, fx_7, x_8, ex_8, fx_8, x_9, ex_9, fx_9, x_10, ex_10, fx_10, x_11, ex_11, fx_11, x_12, ex_12, fx_12, n_15, hn_15, n_18, hn_18, g_17, rfl, c3, x_21, ex_21, fx_21, x_22, ex_22, fx_22, x_23, ex_23, fx_23, x_24, ex_24, fx_24, x_25, ex_25, fx_25, n_28, hn_28, n_31, hn_31, g_30, rfl, c4, x_34, ex_34, fx_34, x_35, ex_35, fx_35, x_36, ex_36, fx_36, x_37, ex_37, fx_37, x_38, ex_38, fx_38, n_41, hn_41, n_44, hn_44, g_43, rfl, c5, x_47, ex_47, fx_47, x_48, ex_48, fx_48, x_49, ex_49, fx_49, x_50, ex_50, fx_50, x_51, ex_51, fx_51, n_54, hn_54, n_57, hn_57, g_56, rfl, rfl, rfl, rfl⟩ | ⟨c1, rfl, rfl, rfl⟩
  · obtain rfl : w = 0 := by omega
    refine ⟨rfl, rfl, Or.inr ⟨by omega, n_4, hn_4, ?_⟩⟩
    rw [cpy_z]
  · obtain rfl : w = 1 := by omega
    refine ⟨rfl, rfl, Or.inr ⟨by omega, n_4, hn_4, ?_⟩⟩
    rw [cpy1 (g := A 48) (f := 4 * n_4) (h := fun k => A 4 (32 * nd + f0 + k)) (by omega) (by show A 4 _ = A 4 _; congr 1; omega)]
  · obtain rfl : w = 2 := by omega
    refine ⟨rfl, rfl, Or.inr ⟨by omega, n_4, hn_4, ?_⟩⟩
    rw [cpy2 (g := A 48) (f := 4 * n_4) (h := fun k => A 4 (32 * nd + f0 + k)) (by omega) (by show A 4 _ = A 4 _; congr 1; omega) (by omega) (by show A 4 _ = A 4 _; congr 1; omega)]
  · obtain rfl : w = 3 := by omega
    refine ⟨rfl, rfl, Or.inr ⟨by omega, n_4, hn_4, ?_⟩⟩
    rw [cpy3 (g := A 48) (f := 4 * n_4) (h := fun k => A 4 (32 * nd + f0 + k)) (by omega) (by show A 4 _ = A 4 _; congr 1; omega) (by omega) (by show A 4 _ = A 4 _; congr 1; omega) (by omega) (by show A 4 _ = A 4 _; congr 1; omega)]
  · obtain rfl : w = 4 := by omega
    refine ⟨rfl, rfl, Or.inr ⟨by omega, n_4, hn_4, ?_⟩⟩
    rw [cpy4 (g := A 48) (f := 4 * n_4) (h := fun k => A 4 (32 * nd + f0 + k)) (by omega) (by show A 4 _ = A 4 _; congr 1; omega) (by omega) (by show A 4 _ = A 4 _; congr 1; omega) (by omega) (by show A 4 _ = A 4 _; congr 1; omega) (by omega) (by show A 4 _ = A 4 _; congr 1; omega)]
  · exact ⟨rfl, rfl, Or.inl ⟨by omega, by simp only [uA_ii]⟩⟩

theorem r_take {A : AA} {cd pk to n : Int32} {Z : AA} {cdz pkz : Int32} {f0 w : Nat} (h : D_X10_takeCells A cd pk to n Z cdz pkz) (hf : (f0 : Int) = to.toInt) (hw : (w : Int) = n.toInt) (h4 : n.toInt ≤ 4) : cdz = cd ∧ pkz = pk ∧ Z = uA A 4 (cpy (A 4) f0 w (fun k => A 48 (96 + k))) := by
  rcases h with ⟨c1, rfl, rfl, rfl⟩ | ⟨c1, x_2, ex_2, fx_2, n_6, hn_6, g_5, rfl, c2, rfl, rfl, rfl⟩ | ⟨c1, x_2, ex_2, fx_2, n_6, hn_6, g_5, rfl, c2, x_8, ex_8, fx_8, n_12, hn_12, g_11, rfl, c3, rfl, rfl, rfl⟩ | ⟨c1, x_2, ex_2, fx_2, n_6, hn_6, g_5, rfl, c2, x_8, ex_8, fx_8, n_12, hn_12, g_11, rfl, c3, x_14, ex_14, fx_14, n_18, hn_18, g_17, rfl, c4, rfl, rfl, rfl⟩ | ⟨c1, x_2, ex_2, fx_2, n_6, hn_6, g_5, rfl, c2, x_8, ex_8, fx_8, n_12, hn_12, g_11, rfl, c3, x_14, ex_14, fx_14, n_18, hn_18, g_17, rfl, c4, x_20, ex_20, fx_20, n_24, hn_24, g_23, rfl, rfl, rfl, rfl⟩
  · obtain rfl : w = 0 := by omega
    refine ⟨rfl, rfl, ?_⟩
    rw [cpy_z]
  · obtain rfl : w = 1 := by omega
    refine ⟨rfl, rfl, ?_⟩
    rw [cpy1 (g := A 4) (f := f0) (h := fun k => A 48 (96 + k)) (by omega) (by show A 48 _ = A 48 _; congr 1; try omega)]
  · obtain rfl : w = 2 := by omega
    refine ⟨rfl, rfl, ?_⟩
    rw [cpy2 (g := A 4) (f := f0) (h := fun k => A 48 (96 + k)) (by omega) (by show A 48 _ = A 48 _; congr 1; try omega) (by omega) (by show A 48 _ = A 48 _; congr 1; try omega)]
  · obtain rfl : w = 3 := by omega
    refine ⟨rfl, rfl, ?_⟩
    rw [cpy3 (g := A 4) (f := f0) (h := fun k => A 48 (96 + k)) (by omega) (by show A 48 _ = A 48 _; congr 1; try omega) (by omega) (by show A 48 _ = A 48 _; congr 1; try omega) (by omega) (by show A 48 _ = A 48 _; congr 1; try omega)]
  · obtain rfl : w = 4 := by omega
    refine ⟨rfl, rfl, ?_⟩
    rw [cpy4 (g := A 4) (f := f0) (h := fun k => A 48 (96 + k)) (by omega) (by show A 48 _ = A 48 _; congr 1; try omega) (by omega) (by show A 48 _ = A 48 _; congr 1; try omega) (by omega) (by show A 48 _ = A 48 _; congr 1; try omega) (by omega) (by show A 48 _ = A 48 _; congr 1; try omega)]

theorem e_unload {G : Nat → Nat} {B : AA} {R : RR} {a N M : Nat} {f mo : Int32} {Z : AA} {f0 : Nat} (h : C_X2_unload G B R a N f mo Z) (ha : R a 7 = a + 1) (hM : R N 0 = M) (h1 : M ≠ a) (h2 : M ≠ a + 1) (hf : (f0 : Int) = f.toInt) (hf2 : f.toInt ≤ 32) (h4 : (B a 3).toInt ≤ 4) (h32 : f.toInt + (B a 3).toInt ≤ 32 ∨ f.toInt + mo.toInt ≤ 32) : ∃ w : Nat, ((w : Int) = 0 ∧ ((B a 3).toInt ≤ 0 ∨ mo.toInt ≤ 0) ∨ (0 < (B a 3).toInt ∧ 0 < mo.toInt ∧ (w : Int) = if (B a 3).toInt ≤ mo.toInt then (B a 3).toInt else mo.toInt)) ∧ Z = uA B M (cpy (B M) f0 w (B (a + 1))) := by
  have i0 := i_0
  have i1 := i_1
  have i2 := i_2
  have i3 := i_3
  rcases h with ⟨c1, rfl⟩ | ⟨c1, c2, rfl⟩ | ⟨c1, c2, x_6, ex_6, U_11, hF, hput, c3, rfl⟩ | ⟨c1, c2, x_6, ex_6, U_11, hF, hput, c3, c4, rfl⟩ | ⟨c1, c2, x_6, ex_6, U_11, hF, hput, c3, c4, x_17, ex_17, U_22, hF_1, hput_1, c5, rfl⟩ | ⟨c1, c2, x_6, ex_6, U_11, hF, hput, c3, c4, x_17, ex_17, U_22, hF_1, hput_1, c5, c6, rfl⟩ | ⟨c1, c2, x_6, ex_6, U_11, hF, hput, c3, c4, x_17, ex_17, U_22, hF_1, hput_1, c5, c6, x_28, ex_28, U_33, hF_2, hput_2, c7, rfl⟩ | ⟨c1, c2, x_6, ex_6, U_11, hF, hput, c3, c4, x_17, ex_17, U_22, hF_1, hput_1, c5, c6, x_28, ex_28, U_33, hF_2, hput_2, c7, c8, rfl⟩ | ⟨c1, c2, x_6, ex_6, U_11, hF, hput, c3, c4, x_17, ex_17, U_22, hF_1, hput_1, c5, c6, x_28, ex_28, U_33, hF_2, hput_2, c7, c8, x_39, ex_39, U_44, hF_3, hput_3, c9, rfl⟩ | ⟨c1, c2, x_6, ex_6, U_11, hF, hput, c3, c4, x_17, ex_17, U_22, hF_1, hput_1, c5, c6, x_28, ex_28, U_33, hF_2, hput_2, c7, c8, x_39, ex_39, U_44, hF_3, hput_3, c9, c10, rfl⟩ | ⟨c1, c2, x_6, ex_6, U_11, hF, hput, c3, c4, x_17, ex_17, U_22, hF_1, hput_1, c5, c6, x_28, ex_28, U_33, hF_2, hput_2, c7, c8, x_39, ex_39, U_44, hF_3, hput_3, c9, c10, rfl⟩
  · refine ⟨0, ?_, ?_⟩
    · first
        | (left; exact ⟨by omega, by omega⟩)
        | (right; refine ⟨by omega, by omega, ?_⟩; split <;> omega)
    · rw [cpy_z, uA_ii]
  · refine ⟨0, ?_, ?_⟩
    · first
        | (left; exact ⟨by omega, by omega⟩)
        | (right; refine ⟨by omega, by omega, ?_⟩; split <;> omega)
    · rw [cpy_z, uA_ii]
  · refine ⟨1, ?_, ?_⟩
    · first
        | (left; exact ⟨by omega, by omega⟩)
        | (right; refine ⟨by omega, by omega, ?_⟩; split <;> omega)
    · have o0 := off_t (a := f) (b := 0) (by omega) (by decide)
      rw [ha] at hput
      have t0 := e_put hput hM (k := f0 + 0) (by rw [ex_6]; omega) (by omega)
      rw [t0]
      try simp only [uA_u, uA_s]
      rw [cpy1 (f := f0) (h := B (a + 1)) (by omega) rfl]
  · refine ⟨1, ?_, ?_⟩
    · first
        | (left; exact ⟨by omega, by omega⟩)
        | (right; refine ⟨by omega, by omega, ?_⟩; split <;> omega)
    · have o0 := off_t (a := f) (b := 0) (by omega) (by decide)
      rw [ha] at hput
      have t0 := e_put hput hM (k := f0 + 0) (by rw [ex_6]; omega) (by omega)
      rw [t0]
      try simp only [uA_u, uA_s]
      rw [cpy1 (f := f0) (h := B (a + 1)) (by omega) rfl]
  · refine ⟨2, ?_, ?_⟩
    · first
        | (left; exact ⟨by omega, by omega⟩)
        | (right; refine ⟨by omega, by omega, ?_⟩; split <;> omega)
    · have o0 := off_t (a := f) (b := 0) (by omega) (by decide)
      rw [ha] at hput
      have t0 := e_put hput hM (k := f0 + 0) (by rw [ex_6]; omega) (by omega)
      have o1 := off_t (a := f) (b := 1) (by omega) (by decide)
      rw [ha] at hput_1
      have t1 := e_put hput_1 hM (k := f0 + 1) (by rw [ex_17]; omega) (by omega)
      rw [t1, t0]
      try simp only [uA_u, uA_s]
      rw [cpy2 (f := f0) (h := B (a + 1)) (by omega) rfl (by omega) rfl]
  · refine ⟨2, ?_, ?_⟩
    · first
        | (left; exact ⟨by omega, by omega⟩)
        | (right; refine ⟨by omega, by omega, ?_⟩; split <;> omega)
    · have o0 := off_t (a := f) (b := 0) (by omega) (by decide)
      rw [ha] at hput
      have t0 := e_put hput hM (k := f0 + 0) (by rw [ex_6]; omega) (by omega)
      have o1 := off_t (a := f) (b := 1) (by omega) (by decide)
      rw [ha] at hput_1
      have t1 := e_put hput_1 hM (k := f0 + 1) (by rw [ex_17]; omega) (by omega)
      rw [t1, t0]
      try simp only [uA_u, uA_s]
      rw [cpy2 (f := f0) (h := B (a + 1)) (by omega) rfl (by omega) rfl]
  · refine ⟨3, ?_, ?_⟩
    · first
        | (left; exact ⟨by omega, by omega⟩)
        | (right; refine ⟨by omega, by omega, ?_⟩; split <;> omega)
    · have o0 := off_t (a := f) (b := 0) (by omega) (by decide)
      rw [ha] at hput
      have t0 := e_put hput hM (k := f0 + 0) (by rw [ex_6]; omega) (by omega)
      have o1 := off_t (a := f) (b := 1) (by omega) (by decide)
      rw [ha] at hput_1
      have t1 := e_put hput_1 hM (k := f0 + 1) (by rw [ex_17]; omega) (by omega)
      have o2 := off_t (a := f) (b := 2) (by omega) (by decide)
      rw [ha] at hput_2
      have t2 := e_put hput_2 hM (k := f0 + 2) (by rw [ex_28]; omega) (by omega)
      rw [t2, t1, t0]
      try simp only [uA_u, uA_s]
      rw [cpy3 (f := f0) (h := B (a + 1)) (by omega) rfl (by omega) rfl (by omega) rfl]
  · refine ⟨3, ?_, ?_⟩
    · first
        | (left; exact ⟨by omega, by omega⟩)
        | (right; refine ⟨by omega, by omega, ?_⟩; split <;> omega)
    · have o0 := off_t (a := f) (b := 0) (by omega) (by decide)
      rw [ha] at hput
      have t0 := e_put hput hM (k := f0 + 0) (by rw [ex_6]; omega) (by omega)
      have o1 := off_t (a := f) (b := 1) (by omega) (by decide)
      rw [ha] at hput_1
      have t1 := e_put hput_1 hM (k := f0 + 1) (by rw [ex_17]; omega) (by omega)
      have o2 := off_t (a := f) (b := 2) (by omega) (by decide)
      rw [ha] at hput_2
      have t2 := e_put hput_2 hM (k := f0 + 2) (by rw [ex_28]; omega) (by omega)
      rw [t2, t1, t0]
      try simp only [uA_u, uA_s]
      rw [cpy3 (f := f0) (h := B (a + 1)) (by omega) rfl (by omega) rfl (by omega) rfl]
  · refine ⟨4, ?_, ?_⟩
    · first
        | (left; exact ⟨by omega, by omega⟩)
        | (right; refine ⟨by omega, by omega, ?_⟩; split <;> omega)
    · have o0 := off_t (a := f) (b := 0) (by omega) (by decide)
      rw [ha] at hput
      have t0 := e_put hput hM (k := f0 + 0) (by rw [ex_6]; omega) (by omega)
      have o1 := off_t (a := f) (b := 1) (by omega) (by decide)
      rw [ha] at hput_1
      have t1 := e_put hput_1 hM (k := f0 + 1) (by rw [ex_17]; omega) (by omega)
      have o2 := off_t (a := f) (b := 2) (by omega) (by decide)
      rw [ha] at hput_2
      have t2 := e_put hput_2 hM (k := f0 + 2) (by rw [ex_28]; omega) (by omega)
      have o3 := off_t (a := f) (b := 3) (by omega) (by decide)
      rw [ha] at hput_3
      have t3 := e_put hput_3 hM (k := f0 + 3) (by rw [ex_39]; omega) (by omega)
      rw [t3, t2, t1, t0]
      try simp only [uA_u, uA_s]
      rw [cpy4 (f := f0) (h := B (a + 1)) (by omega) rfl (by omega) rfl (by omega) rfl (by omega) rfl]
  · refine ⟨4, ?_, ?_⟩
    · first
        | (left; exact ⟨by omega, by omega⟩)
        | (right; refine ⟨by omega, by omega, ?_⟩; split <;> omega)
    · have o0 := off_t (a := f) (b := 0) (by omega) (by decide)
      rw [ha] at hput
      have t0 := e_put hput hM (k := f0 + 0) (by rw [ex_6]; omega) (by omega)
      have o1 := off_t (a := f) (b := 1) (by omega) (by decide)
      rw [ha] at hput_1
      have t1 := e_put hput_1 hM (k := f0 + 1) (by rw [ex_17]; omega) (by omega)
      have o2 := off_t (a := f) (b := 2) (by omega) (by decide)
      rw [ha] at hput_2
      have t2 := e_put hput_2 hM (k := f0 + 2) (by rw [ex_28]; omega) (by omega)
      have o3 := off_t (a := f) (b := 3) (by omega) (by decide)
      rw [ha] at hput_3
      have t3 := e_put hput_3 hM (k := f0 + 3) (by rw [ex_39]; omega) (by omega)
      rw [t3, t2, t1, t0]
      try simp only [uA_u, uA_s]
      rw [cpy4 (f := f0) (h := B (a + 1)) (by omega) rfl (by omega) rfl (by omega) rfl (by omega) rfl]
  · refine ⟨4, ?_, ?_⟩
    · first
        | (left; exact ⟨by omega, by omega⟩)
        | (right; refine ⟨by omega, by omega, ?_⟩; split <;> omega)
    · have o0 := off_t (a := f) (b := 0) (by omega) (by decide)
      rw [ha] at hput
      have t0 := e_put hput hM (k := f0 + 0) (by rw [ex_6]; omega) (by omega)
      have o1 := off_t (a := f) (b := 1) (by omega) (by decide)
      rw [ha] at hput_1
      have t1 := e_put hput_1 hM (k := f0 + 1) (by rw [ex_17]; omega) (by omega)
      have o2 := off_t (a := f) (b := 2) (by omega) (by decide)
      rw [ha] at hput_2
      have t2 := e_put hput_2 hM (k := f0 + 2) (by rw [ex_28]; omega) (by omega)
      have o3 := off_t (a := f) (b := 3) (by omega) (by decide)
      rw [ha] at hput_3
      have t3 := e_put hput_3 hM (k := f0 + 3) (by rw [ex_39]; omega) (by omega)
      rw [t3, t2, t1, t0]
      try simp only [uA_u, uA_s]
      rw [cpy4 (f := f0) (h := B (a + 1)) (by omega) rfl (by omega) rfl (by omega) rfl (by omega) rfl]

