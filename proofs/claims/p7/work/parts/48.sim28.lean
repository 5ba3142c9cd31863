theorem mod64 {a k y : Int32} (ha : 0 ≤ a.toInt ∧ a.toInt ≤ 63) (hk : 0 ≤ k.toInt ∧ k.toInt ≤ 64) (h : y = (a + k) - (a + k) / 64 * 64) : y.toInt = (a.toInt + k.toInt) % 64 := by
  have e := add_t (a := a) (b := k) (by omega) (by omega)
  have e2 := s_rem (x := a + k) 64 (by decide) (by decide) (by rw [e]; omega)
  rw [e] at e2
  rw [h]
  exact e2
/-- where the class carries a packet: not where the taken one lies -/
theorem e_carryT {x tk : Nat} {G : Nat → Nat} {B : AA} {R : RR} {t0 t1 t2 : Int32} {A : AA} {pk : Int32} (h : SIM x t0 t1 t2 B R A pk) (hV : RW A pk) (htk : R (x + 1) 2 = x + 3 + 2 * tk) {to kd nm : Int32} {U : AA} {r : Nat} (hc : C_X0_carry G B R (x + 1) to kd nm U r) : U (x + 3 + 2 * tk) = B (x + 3 + 2 * tk) := by
  obtain ⟨n, hn, h24⟩ := h.np hV
  obtain ⟨hS, ⟨pm, tk', hD, -⟩, -⟩ := h
  have e1 := hD.1
  obtain rfl : tk' = tk := by omega
  have e2 := hD.2.2.2.1
  have hpm := hD.2.2.2.2.1
  rcases e_carry hS hD hc hn h24 with ⟨-, -, e⟩ | ⟨l, -, c, -, -, e⟩
  · rw [e, uA_n (by omega)]
  · have := hpm n l
    rw [e, uA_n (by omega), uA_n (by omega)]
/-- one round of the reference's reads -/
def RDS (A : AA) (cd pk p k i : Int32) (A2 : AA) (pk2 : Int32) : Prop := ∃ (A1 : AA) (c1 r1 nm f sz c1' pk1' c2 pk2' : Int32), D_X10_emit A cd pk p 4 nm (-1) (-1) 0 A1 c1 pk2 r1 ∧ D_X10_load A1 c1' pk1' r1 p f sz A2 c2 pk2' ∧ nm = ((A 43 24) + k) - ((A 43 24) + k) / 64 * 64 ∧ f.toInt = (A 46 24).toInt + i.toInt ∧ (sz.toInt = if 4 < (A 44 24).toInt - i.toInt then 4 else (A 44 24).toInt - i.toInt)
theorem RDS.cg {A A2 A2' : AA} {cd pk p k i pk2 : Int32} (h : RDS A cd pk p k i A2 pk2) (e : A2 = A2') : RDS A cd pk p k i A2' pk2 := e ▸ h
theorem szif {v x : Int32} {n i : Int} (h : ((4 ≤ x.toInt) ∧ v = 4) ∨ ((¬ 4 ≤ x.toInt) ∧ v = x)) (hx : x.toInt = n - i) : v.toInt = if 4 < n - i then 4 else n - i := by
  have i4 := i_4
  rcases h with ⟨a, rfl⟩ | ⟨a, rfl⟩
  · split <;> omega
  · split <;> omega
theorem szB {n i : Int} {x : Int32} (hx : x.toInt = n - i) (h : 4 ≤ x.toInt) : (4 : Int32).toInt = if 4 < n - i then 4 else n - i := by
  have i4 := i_4
  split <;> omega
theorem szS {n i : Int} {x : Int32} (hx : x.toInt = n - i) (h : ¬ 4 ≤ x.toInt) : x.toInt = if 4 < n - i then 4 else n - i := by
  rw [if_neg (by omega)]; exact hx
theorem r_reads {A : AA} {cd pk p : Int32} {A' : AA} {cdz pkz : Int32} (h : D_X10_reads A cd pk p A' cdz pkz) : ((A 44 24).toInt ≤ 0 ∧ A' = A ∧ pkz = pk) ∨ (¬ (A 44 24).toInt ≤ 0 ∧ ∃ (A2 : AA) (pk2 : Int32), RDS A cd pk p 0 0 A2 pk2 ∧ (((A2 44 24).toInt ≤ 4 ∧ A' = A2 ∧ pkz = pk2) ∨ (¬ (A2 44 24).toInt ≤ 4 ∧ ∃ (A4 : AA) (pk4 : Int32), RDS A2 cd pk2 p 1 4 A4 pk4 ∧ (((A4 44 24).toInt ≤ 8 ∧ A' = A4 ∧ pkz = pk4) ∨ (¬ (A4 44 24).toInt ≤ 8 ∧ RDS A4 cd pk4 p 2 8 A' pkz ∧ True))))) := by
  have i0 := i_0
  have i4 := i_4
  have i8 : (8 : Int32).toInt = 8 := by decide
  rcases h with ⟨c1, rfl, rfl, rfl⟩ | ⟨c1, x_6, ex_6, x_7, ex_7, ur_8, r_8, hemit, c2, c3, c4, c5, c6, x_12, ex_12, fx_12, x_16, ex_16, fx_16, v_17, c7, ur_19, hload, c8, c9, c10, rfl, rfl, rfl⟩ | ⟨c1, x_6, ex_6, x_7, ex_7, ur_8, r_8, hemit, c2, c3, c4, c5, c6, x_12, ex_12, fx_12, x_16, ex_16, fx_16, v_17, c7, ur_19, hload, c8, c9, c10, x_25, ex_25, x_26, ex_26, ur_27, r_27, hemit_1, c11, c12, c13, c14, c15, x_31, ex_31, fx_31, x_35, ex_35, fx_35, c16, ur_37, hload_1, c17, c18, c19, rfl, rfl, rfl⟩ | ⟨c1, x_6, ex_6, x_7, ex_7, ur_8, r_8, hemit, c2, c3, c4, c5, c6, x_12, ex_12, fx_12, x_16, ex_16, fx_16, v_17, c7, ur_19, hload, c8, c9, c10, x_25, ex_25, x_26, ex_26, ur_27, r_27, hemit_1, c11, c12, c13, c14, c15, x_31, ex_31, fx_31, x_35, ex_35, fx_35, c16, ur_37, hload_1, c17, c18, c19, x_43, ex_43, x_44, ex_44, ur_45, r_45, hemit_2, c20, c21, c22, c23, c24, x_49, ex_49, fx_49, x_53, ex_53, fx_53, c25, ur_55, hload_2, c26, c27, rfl, rfl, rfl⟩ | ⟨c1, x_6, ex_6, x_7, ex_7, ur_8, r_8, hemit, c2, c3, c4, c5, c6, x_12, ex_12, fx_12, x_16, ex_16, fx_16, v_17, c7, ur_19, hload, c8, c9, c10, x_25, ex_25, x_26, ex_26, ur_27, r_27, hemit_1, c11, c12, c13, c14, c15, x_31, ex_31, fx_31, x_35, ex_35, fx_35, c16, ur_37, hload_1, c17, c18, c19, x_43, ex_43, x_44, ex_44, ur_45, r_45, hemit_2, c20, c21, c22, c23, c24, x_49, ex_49, fx_49, x_53, ex_53, fx_53, c25, ur_60, hload_2, c26, c27, rfl, rfl, rfl⟩ | ⟨c1, x_6, ex_6, x_7, ex_7, ur_8, r_8, hemit, c2, c3, c4, c5, c6, x_12, ex_12, fx_12, x_16, ex_16, fx_16, v_17, c7, ur_19, hload, c8, c9, c10, x_25, ex_25, x_26, ex_26, ur_27, r_27, hemit_1, c11, c12, c13, c14, c15, x_31, ex_31, fx_31, x_35, ex_35, fx_35, c16, ur_65, hload_1, c17, c18, c19, rfl, rfl, rfl⟩ | ⟨c1, x_6, ex_6, x_7, ex_7, ur_8, r_8, hemit, c2, c3, c4, c5, c6, x_12, ex_12, fx_12, x_16, ex_16, fx_16, v_17, c7, ur_19, hload, c8, c9, c10, x_25, ex_25, x_26, ex_26, ur_27, r_27, hemit_1, c11, c12, c13, c14, c15, x_31, ex_31, fx_31, x_35, ex_35, fx_35, c16, ur_65, hload_1, c17, c18, c19, x_71, ex_71, x_72, ex_72, ur_73, r_73, hemit_2, c20, c21, c22, c23, c24, x_77, ex_77, fx_77, x_81, ex_81, fx_81, c25, ur_83, hload_2, c26, c27, rfl, rfl, rfl⟩ | ⟨c1, x_6, ex_6, x_7, ex_7, ur_8, r_8, hemit, c2, c3, c4, c5, c6, x_12, ex_12, fx_12, x_16, ex_16, fx_16, v_17, c7, ur_19, hload, c8, c9, c10, x_25, ex_25, x_26, ex_26, ur_27, r_27, hemit_1, c11, c12, c13, c14, c15, x_31, ex_31, fx_31, x_35, ex_35, fx_35, c16, ur_65, hload_1, c17, c18, c19, x_71, ex_71, x_72, ex_72, ur_73, r_73, hemit_2, c20, c21, c22, c23, c24, x_77, ex_77, fx_77, x_81, ex_81, fx_81, c25, ur_88, hload_2, c26, c27, rfl, rfl, rfl⟩
  · exact Or.inl ⟨c1, by simp only [uA_ii], rfl⟩
  · refine Or.inr ⟨c1, _, _, ⟨_, _, _, _, _, _, _, _, _, _, hemit, hload, by rw [ex_7, ex_6]; first | done | rfl, by rw [fx_16, c6.2, i0]; first | done | rfl, szif c7 (by rw [fx_12, c6.1, i0]; first | done | rfl)⟩, ?_⟩
    refine Or.inl ⟨c10, ?_, rfl⟩
    funext j
    by_cases a0 : j = 48
    · subst a0; rfl
    by_cases a1 : j = 47
    · subst a1; rfl
    by_cases a2 : j = 46
    · subst a2; rfl
    by_cases a3 : j = 45
    · subst a3; rfl
    by_cases a4 : j = 44
    · subst a4; rfl
    by_cases a5 : j = 43
    · subst a5; rfl
    by_cases a6 : j = 42
    · subst a6; rfl
    by_cases a7 : j = 41
    · subst a7; rfl
    simp only [uA_n a0, uA_n a1, uA_n a2, uA_n a3, uA_n a4, uA_n a5, uA_n a6, uA_n a7]
  · refine Or.inr ⟨c1, _, _, ⟨_, _, _, _, _, _, _, _, _, _, hemit, hload, by rw [ex_7, ex_6]; first | done | rfl, by rw [fx_16, c6.2, i0]; first | done | rfl, szif c7 (by rw [fx_12, c6.1, i0]; first | done | rfl)⟩, ?_⟩
    refine Or.inr ⟨c10, _, _, ⟨_, _, _, _, _, _, _, _, _, _, hemit_1, hload_1, by rw [ex_26, ex_25]; first | done | rfl, by rw [fx_35, c15.2, i4]; first | done | rfl, szB (by rw [fx_31, c15.1, i4]; first | done | rfl) c16⟩, Or.inl ⟨c19, ?_, rfl⟩⟩
    funext j
    by_cases a0 : j = 48
    · subst a0; rfl
    by_cases a1 : j = 47
    · subst a1; rfl
    by_cases a2 : j = 46
    · subst a2; rfl
    by_cases a3 : j = 45
    · subst a3; rfl
    by_cases a4 : j = 44
    · subst a4; rfl
    by_cases a5 : j = 43
    · subst a5; rfl
    by_cases a6 : j = 42
    · subst a6; rfl
    by_cases a7 : j = 41
    · subst a7; rfl
    simp only [uA_n a0, uA_n a1, uA_n a2, uA_n a3, uA_n a4, uA_n a5, uA_n a6, uA_n a7]
  · refine Or.inr ⟨c1, _, _, ⟨_, _, _, _, _, _, _, _, _, _, hemit, hload, by rw [ex_7, ex_6]; first | done | rfl, by rw [fx_16, c6.2, i0]; first | done | rfl, szif c7 (by rw [fx_12, c6.1, i0]; first | done | rfl)⟩, ?_⟩
    refine Or.inr ⟨c10, _, _, ⟨_, _, _, _, _, _, _, _, _, _, hemit_1, hload_1, by rw [ex_26, ex_25]; first | done | rfl, by rw [fx_35, c15.2, i4]; first | done | rfl, szB (by rw [fx_31, c15.1, i4]; first | done | rfl) c16⟩, Or.inr ⟨c19, RDS.cg ⟨_, _, _, _, _, _, _, _, _, _, hemit_2, hload_2, by rw [ex_44, ex_43]; first | done | rfl, by rw [fx_53, c24.2, i8]; first | done | rfl, szB (by rw [fx_49, c24.1, i8]; first | done | rfl) c25⟩ ?_, trivial⟩⟩
    funext j
    by_cases a0 : j = 48
    · subst a0; rfl
    by_cases a1 : j = 47
    · subst a1; rfl
    by_cases a2 : j = 46
    · subst a2; rfl
    by_cases a3 : j = 45
    · subst a3; rfl
    by_cases a4 : j = 44
    · subst a4; rfl
    by_cases a5 : j = 43
    · subst a5; rfl
    by_cases a6 : j = 42
    · subst a6; rfl
    by_cases a7 : j = 41
    · subst a7; rfl
    simp only [uA_n a0, uA_n a1, uA_n a2, uA_n a3, uA_n a4, uA_n a5, uA_n a6, uA_n a7]
  · refine Or.inr ⟨c1, _, _, ⟨_, _, _, _, _, _, _, _, _, _, hemit, hload, by rw [ex_7, ex_6]; first | done | rfl, by rw [fx_16, c6.2, i0]; first | done | rfl, szif c7 (by rw [fx_12, c6.1, i0]; first | done | rfl)⟩, ?_⟩
    refine Or.inr ⟨c10, _, _, ⟨_, _, _, _, _, _, _, _, _, _, hemit_1, hload_1, by rw [ex_26, ex_25]; first | done | rfl, by rw [fx_35, c15.2, i4]; first | done | rfl, szB (by rw [fx_31, c15.1, i4]; first | done | rfl) c16⟩, Or.inr ⟨c19, RDS.cg ⟨_, _, _, _, _, _, _, _, _, _, hemit_2, hload_2, by rw [ex_44, ex_43]; first | done | rfl, by rw [fx_53, c24.2, i8]; first | done | rfl, szS (by rw [fx_49, c24.1, i8]; first | done | rfl) c25⟩ ?_, trivial⟩⟩
    funext j
    by_cases a0 : j = 48
    · subst a0; rfl
    by_cases a1 : j = 47
    · subst a1; rfl
    by_cases a2 : j = 46
    · subst a2; rfl
    by_cases a3 : j = 45
    · subst a3; rfl
    by_cases a4 : j = 44
    · subst a4; rfl
    by_cases a5 : j = 43
    · subst a5; rfl
    by_cases a6 : j = 42
    · subst a6; rfl
    by_cases a7 : j = 41
    · subst a7; rfl
    simp only [uA_n a0, uA_n a1, uA_n a2, uA_n a3, uA_n a4, uA_n a5, uA_n a6, uA_n a7]
  · refine Or.inr ⟨c1, _, _, ⟨_, _, _, _, _, _, _, _, _, _, hemit, hload, by rw [ex_7, ex_6]; first | done | rfl, by rw [fx_16, c6.2, i0]; first | done | rfl, szif c7 (by rw [fx_12, c6.1, i0]; first | done | rfl)⟩, ?_⟩
    refine Or.inr ⟨c10, _, _, ⟨_, _, _, _, _, _, _, _, _, _, hemit_1, hload_1, by rw [ex_26, ex_25]; first | done | rfl, by rw [fx_35, c15.2, i4]; first | done | rfl, szS (by rw [fx_31, c15.1, i4]; first | done | rfl) c16⟩, Or.inl ⟨c19, ?_, rfl⟩⟩
    funext j
    by_cases a0 : j = 48
    · subst a0; rfl
    by_cases a1 : j = 47
    · subst a1; rfl
    by_cases a2 : j = 46
    · subst a2; rfl
    by_cases a3 : j = 45
    · subst a3; rfl
    by_cases a4 : j = 44
    · subst a4; rfl
    by_cases a5 : j = 43
    · subst a5; rfl
    by_cases a6 : j = 42
    · subst a6; rfl
    by_cases a7 : j = 41
    · subst a7; rfl
    simp only [uA_n a0, uA_n a1, uA_n a2, uA_n a3, uA_n a4, uA_n a5, uA_n a6, uA_n a7]
  · refine Or.inr ⟨c1, _, _, ⟨_, _, _, _, _, _, _, _, _, _, hemit, hload, by rw [ex_7, ex_6]; first | done | rfl, by rw [fx_16, c6.2, i0]; first | done | rfl, szif c7 (by rw [fx_12, c6.1, i0]; first | done | rfl)⟩, ?_⟩
    refine Or.inr ⟨c10, _, _, ⟨_, _, _, _, _, _, _, _, _, _, hemit_1, hload_1, by rw [ex_26, ex_25]; first | done | rfl, by rw [fx_35, c15.2, i4]; first | done | rfl, szS (by rw [fx_31, c15.1, i4]; first | done | rfl) c16⟩, Or.inr ⟨c19, RDS.cg ⟨_, _, _, _, _, _, _, _, _, _, hemit_2, hload_2, by rw [ex_72, ex_71]; first | done | rfl, by rw [fx_81, c24.2, i8]; first | done | rfl, szB (by rw [fx_77, c24.1, i8]; first | done | rfl) c25⟩ ?_, trivial⟩⟩
    funext j
    by_cases a0 : j = 48
    · subst a0; rfl
    by_cases a1 : j = 47
    · subst a1; rfl
    by_cases a2 : j = 46
    · subst a2; rfl
    by_cases a3 : j = 45
    · subst a3; rfl
    by_cases a4 : j = 44
    · subst a4; rfl
    by_cases a5 : j = 43
    · subst a5; rfl
    by_cases a6 : j = 42
    · subst a6; rfl
    by_cases a7 : j = 41
    · subst a7; rfl
    simp only [uA_n a0, uA_n a1, uA_n a2, uA_n a3, uA_n a4, uA_n a5, uA_n a6, uA_n a7]
  · refine Or.inr ⟨c1, _, _, ⟨_, _, _, _, _, _, _, _, _, _, hemit, hload, by rw [ex_7, ex_6]; first | done | rfl, by rw [fx_16, c6.2, i0]; first | done | rfl, szif c7 (by rw [fx_12, c6.1, i0]; first | done | rfl)⟩, ?_⟩
    refine Or.inr ⟨c10, _, _, ⟨_, _, _, _, _, _, _, _, _, _, hemit_1, hload_1, by rw [ex_26, ex_25]; first | done | rfl, by rw [fx_35, c15.2, i4]; first | done | rfl, szS (by rw [fx_31, c15.1, i4]; first | done | rfl) c16⟩, Or.inr ⟨c19, RDS.cg ⟨_, _, _, _, _, _, _, _, _, _, hemit_2, hload_2, by rw [ex_72, ex_71]; first | done | rfl, by rw [fx_81, c24.2, i8]; first | done | rfl, szS (by rw [fx_77, c24.1, i8]; first | done | rfl) c25⟩ ?_, trivial⟩⟩
    funext j
    by_cases a0 : j = 48
    · subst a0; rfl
    by_cases a1 : j = 47
    · subst a1; rfl
    by_cases a2 : j = 46
    · subst a2; rfl
    by_cases a3 : j = 45
    · subst a3; rfl
    by_cases a4 : j = 44
    · subst a4; rfl
    by_cases a5 : j = 43
    · subst a5; rfl
    by_cases a6 : j = 42
    · subst a6; rfl
    by_cases a7 : j = 41
    · subst a7; rfl
    simp only [uA_n a0, uA_n a1, uA_n a2, uA_n a3, uA_n a4, uA_n a5, uA_n a6, uA_n a7]
/-- one packet of a READ's replies -/
theorem s_rd1 {x q tk : Nat} {G : Nat → Nat} {t0 t1 t2 : Int32} {B : AA} {R : RR} {A : AA} {pk : Int32} (h : SIM x t0 t1 t2 B R A pk) (hV : RW A pk) (hq : q < 4) {p to : Int32} (hp : (q : Int) = p.toInt) (eto : to = peerT p) (htk : R (x + 1) 2 = x + 3 + 2 * tk) (hT : TKP x tk B A) {k i : Int32} (hk : 0 ≤ k.toInt ∧ k.toInt ≤ 64) (hi : 0 ≤ i.toInt ∧ i.toInt < (A 44 24).toInt) (h32 : 0 ≤ (A 46 24).toInt ∧ (A 46 24).toInt + (A 44 24).toInt ≤ 32) {U : AA} {r : Nat} {nm s s2 : Int32} (enm : nm = ((B (x + 3 + 2 * tk) 2) + k) &&& 63) (hcar : C_X0_carry G B R (x + 1) to 4 nm U r) (es : s = (U (x + 3 + 2 * tk) 5) + i) (es2 : s2 = (U (x + 3 + 2 * tk) 3) - i) {Z : AA} (hl : C_X2_load G U R r (x + 56 + 10 * (q % 2)) s s2 Z) {A2 : AA} {cd pk2 : Int32} (hd : RDS A cd pk p k i A2 pk2) : SIM x t0 t1 t2 Z R A2 pk2 ∧ RW A2 pk2 ∧ TKP x tk Z A2 ∧ (∀ a, ¬ (x + 1 ≤ a ∧ a < x + 55) → Z a = B a) ∧ (∀ j, (j < 41 ∨ 48 < j) → A2 j = A j) ∧ (∀ j, 41 ≤ j → j ≤ 47 → A2 j 24 = A j 24) := by
  have eU := e_carryT h hV htk hcar
  have hT0 := hT
  obtain ⟨⟨y0, y1, y2, y3, y4, y5, y6⟩, -, ⟨y7, -⟩⟩ := hT
  rw [eU, y5] at es
  rw [eU, y3] at es2
  obtain ⟨A1, c1, r1, nm', f, sz, c1', pk1', c2, pk2', d1, d2, d3, d4, d5⟩ := hd
  have en : nm' = nm := i32_eq (by rw [mod64 y7 hk d3, enm, aft, y2])
  subst en
  have est : s.toInt = (A 46 24).toInt + i.toInt := by rw [es]; exact add_t (by omega) (by omega)
  have es2t : s2.toInt = (A 44 24).toInt - i.toInt := by rw [es2]; exact s_sub (by omega) (by omega)
  obtain ⟨f0, hf0⟩ : ∃ f0 : Nat, (f0 : Int) = s.toInt := ⟨s.toInt.toNat, by omega⟩
  obtain ⟨a1, a2, a3, a4, a5, a6⟩ := s_load h hV (by omega) hq hp eto rfl (by rw [mod64 y7 hk d3]; omega) hcar hl hf0 (by omega) (by omega) d1 d2 (by omega) (by rw [d5, es2t])
  exact ⟨a1, a2, a3 tk htk hT0, a4, a5, a6⟩
/-- the replies to a READ -/
theorem s_reads {x q tk : Nat} {G : Nat → Nat} {t0 t1 t2 : Int32} {B : AA} {R : RR} {A : AA} {pk : Int32} (h : SIM x t0 t1 t2 B R A pk) (hV : RW A pk) (hq : q < 4) {p : Int32} (hp : (q : Int) = p.toInt) (htk : R (x + 1) 2 = x + 3 + 2 * tk) (hT : TKP x tk B A) (h12 : (A 44 24).toInt ≤ 12) (h32 : 0 ≤ (A 46 24).toInt ∧ (A 46 24).toInt + (A 44 24).toInt ≤ 32) {Z : AA} (hc : C_X8_replyCells G B R (x + 85 + 17 * q) (x + 3 + 2 * tk) Z) {A' : AA} {cd cdz pkz : Int32} (hd : D_X10_reads A cd pk p A' cdz pkz) : SIM x t0 t1 t2 Z R A' pkz ∧ RW A' pkz ∧ TKP x tk Z A' ∧ (∀ a, ¬ (x + 1 ≤ a ∧ a < x + 55) → Z a = B a) ∧ (∀ j, (j < 41 ∨ 48 < j) → A' j = A j) ∧ ∀ j, 41 ≤ j → j ≤ 47 → A' j 24 = A j 24 := by
  have hS := h.1
  have hC := (h.2.2.2.2.2 q hq).1
  have eto : B (x + 85 + 17 * q) 0 = peerT p := i32_eq (by rw [hC.2.2.2.2.1, peer_e hq hp])
  have i0 := i_0
  have i1 := i_1t
  have i2 := i_2
  have i4 := i_4
  have i8 : (8 : Int32).toInt = 8 := by decide
  have y3 := congrArg Int32.toInt hT.1.2.2.2.1
  have hsh := hS.2.2.2.2.2.1 q hq
  unfold C_X8_replyCells at hc
  rw [hsh.2.1, hsh.1] at hc
  rcases r_reads hd with ⟨d1, rfl, rfl⟩ | ⟨d1, A2, pk2, d2, d3⟩
  · rcases hc with ⟨c1, rfl⟩ | ⟨c1, x_4, ex_4, r_9, U_10, hF, hcarry, x_14, ex_14, x_16, ex_16, U_19, hF_1, hload, c2, rfl⟩ | ⟨c1, x_4, ex_4, r_9, U_10, hF, hcarry, x_14, ex_14, x_16, ex_16, U_19, hF_1, hload, c2, x_23, ex_23, r_27, U_28, hF_2, hcarry_1, x_31, ex_31, x_33, ex_33, U_36, hF_3, hload_1, c3, rfl⟩ | ⟨c1, x_4, ex_4, r_9, U_10, hF, hcarry, x_14, ex_14, x_16, ex_16, U_19, hF_1, hload, c2, x_23, ex_23, r_27, U_28, hF_2, hcarry_1, x_31, ex_31, x_33, ex_33, U_36, hF_3, hload_1, c3, x_40, ex_40, r_44, U_45, hF_4, hcarry_2, x_48, ex_48, x_50, ex_50, U_53, hF_5, hload_2, rfl⟩
    · exact ⟨h, hV, hT, fun _ _ => rfl, fun _ _ => rfl, fun _ _ _ => rfl⟩
    · exfalso; omega
    · exfalso; omega
    · exfalso; omega
  have st1 : ∀ {U Z : AA} {r : Nat} {nm s s2 : Int32}, nm = ((B (x + 3 + 2 * tk) 2) + 0) &&& 63 → C_X0_carry G B R (x + 1) (B (x + 85 + 17 * q) 0) 4 nm U r → s = (U (x + 3 + 2 * tk) 5) + 0 → s2 = (U (x + 3 + 2 * tk) 3) - 0 → C_X2_load G U R r (x + 56 + 10 * (q % 2)) s s2 Z → SIM x t0 t1 t2 Z R A2 pk2 ∧ RW A2 pk2 ∧ TKP x tk Z A2 ∧ (∀ a, ¬ (x + 1 ≤ a ∧ a < x + 55) → Z a = B a) ∧ (∀ j, (j < 41 ∨ 48 < j) → A2 j = A j) ∧ (∀ j, 41 ≤ j → j ≤ 47 → A2 j 24 = A j 24) := fun e1 e2 e3 e4 e5 => s_rd1 h hV hq hp eto htk hT (by omega) (by omega) h32 e1 e2 e3 e4 e5 d2
  have st2 : ∀ {Z1 U Z A4 : AA} {r : Nat} {nm s s2 pk4 : Int32}, SIM x t0 t1 t2 Z1 R A2 pk2 → RW A2 pk2 → TKP x tk Z1 A2 → (∀ j, 41 ≤ j → j ≤ 47 → A2 j 24 = A j 24) → ¬ (A2 44 24).toInt ≤ 4 → nm = ((Z1 (x + 3 + 2 * tk) 2) + 1) &&& 63 → C_X0_carry G Z1 R (x + 1) (B (x + 85 + 17 * q) 0) 4 nm U r → s = (U (x + 3 + 2 * tk) 5) + 4 → s2 = (U (x + 3 + 2 * tk) 3) - 4 → C_X2_load G U R r (x + 56 + 10 * (q % 2)) s s2 Z → RDS A2 cd pk2 p 1 4 A4 pk4 → SIM x t0 t1 t2 Z R A4 pk4 ∧ RW A4 pk4 ∧ TKP x tk Z A4 ∧ (∀ a, ¬ (x + 1 ≤ a ∧ a < x + 55) → Z a = Z1 a) ∧ (∀ j, (j < 41 ∨ 48 < j) → A4 j = A2 j) ∧ (∀ j, 41 ≤ j → j ≤ 47 → A4 j 24 = A2 j 24) := fun b1 b2 b3 b4 b5 e1 e2 e3 e4 e5 d => by
    have q1 := b4 44 (by decide) (by decide)
    have q2 := b4 46 (by decide) (by decide)
    exact s_rd1 b1 b2 hq hp eto htk b3 (by omega) (by omega) (by rw [q1, q2]; exact h32) e1 e2 e3 e4 e5 d
  rcases hc with ⟨c1, rfl⟩ | ⟨c1, x_4, ex_4, r_9, U_10, hF, hcarry, x_14, ex_14, x_16, ex_16, U_19, hF_1, hload, c2, rfl⟩ | ⟨c1, x_4, ex_4, r_9, U_10, hF, hcarry, x_14, ex_14, x_16, ex_16, U_19, hF_1, hload, c2, x_23, ex_23, r_27, U_28, hF_2, hcarry_1, x_31, ex_31, x_33, ex_33, U_36, hF_3, hload_1, c3, rfl⟩ | ⟨c1, x_4, ex_4, r_9, U_10, hF, hcarry, x_14, ex_14, x_16, ex_16, U_19, hF_1, hload, c2, x_23, ex_23, r_27, U_28, hF_2, hcarry_1, x_31, ex_31, x_33, ex_33, U_36, hF_3, hload_1, c3, x_40, ex_40, r_44, U_45, hF_4, hcarry_2, x_48, ex_48, x_50, ex_50, U_53, hF_5, hload_2, rfl⟩
  · exfalso; omega
  · obtain ⟨a1, a2, a3, a4, a5, a6⟩ := st1 ex_4 hcarry ex_14 ex_16 hload
    have e44 := congrArg Int32.toInt a3.1.2.2.2.1
    rcases d3 with ⟨d4, rfl, rfl⟩ | ⟨d4, -⟩
    · exact ⟨a1, a2, a3, a4, a5, a6⟩
    · exfalso; omega
  · obtain ⟨a1, a2, a3, a4, a5, a6⟩ := st1 ex_4 hcarry ex_14 ex_16 hload
    have e44 := congrArg Int32.toInt a3.1.2.2.2.1
    rcases d3 with ⟨d4, -⟩ | ⟨d4, A4, pk4, d5, d6⟩
    · exfalso; omega
    · obtain ⟨b1, b2, b3, b4, b5, b6⟩ := st2 a1 a2 a3 a6 d4 ex_23 hcarry_1 ex_31 ex_33 hload_1 d5
      have f44 := congrArg Int32.toInt b3.1.2.2.2.1
      rcases d6 with ⟨d7, rfl, rfl⟩ | ⟨d7, -⟩
      · exact ⟨b1, b2, b3, fun a k => (b4 a k).trans (a4 a k), fun j k => (b5 j k).trans (a5 j k), fun j k1 k2 => (b6 j k1 k2).trans (a6 j k1 k2)⟩
      · exfalso; omega
  · obtain ⟨a1, a2, a3, a4, a5, a6⟩ := st1 ex_4 hcarry ex_14 ex_16 hload
    have e44 := congrArg Int32.toInt a3.1.2.2.2.1
    rcases d3 with ⟨d4, -⟩ | ⟨d4, A4, pk4, d5, d6⟩
    · exfalso; omega
    · obtain ⟨b1, b2, b3, b4, b5, b6⟩ := st2 a1 a2 a3 a6 d4 ex_23 hcarry_1 ex_31 ex_33 hload_1 d5
      have f44 := congrArg Int32.toInt b3.1.2.2.2.1
      rcases d6 with ⟨d7, -⟩ | ⟨d7, d8, -⟩
      · exfalso; omega
      · have q1 := (b6 44 (by decide) (by decide)).trans (a6 44 (by decide) (by decide))
        have q2 := (b6 46 (by decide) (by decide)).trans (a6 46 (by decide) (by decide))
        obtain ⟨c1', c2', c3', c4', c5', c6'⟩ := s_rd1 b1 b2 hq hp eto htk b3 (by omega) (by omega) (by rw [q1, q2]; exact h32) ex_40 hcarry_2 ex_48 ex_50 hload_2 d8
        exact ⟨c1', c2', c3', fun a k => (c4' a k).trans ((b4 a k).trans (a4 a k)), fun j k => (c5' j k).trans ((b5 j k).trans (a5 j k)), fun j k1 k2 => (c6' j k1 k2).trans ((b6 j k1 k2).trans (a6 j k1 k2))⟩
