section
theorem mod64 {a k y : Int32} (ha : 0 ≤ a.toInt ∧ a.toInt ≤ 63) (hk : 0 ≤ k.toInt ∧ k.toInt ≤ 64) (h : y = (a + k) - (a + k) / 64 * 64) : y.toInt = (a.toInt + k.toInt) % 64 := by
  have e := add_t (a := a) (b := k) (by omega) (by omega)
  have e2 := s_rem (x := a + k) 64 (by decide) (by decide) (by rw [e]; omega)
  rw [e] at e2
  rw [h]
  exact e2
/-- where the class carries a packet: not where the taken one lies -/
theorem e_carryT {x tk : Nat} {G : Nat → Nat} {B : AA} {R : RR} {t0 t1 t2 : Int32} {A : AA} {pk : Int32} (h : SIM x t0 t1 t2 B R A pk) (hV : RW A pk) (htk : R (x + 1) 2 = x + 3 + 2 * tk) {to kd nm : Int32} {U : AA} {r : Nat} (hc : C_X0_carry G B R (x + 1) to kd nm U r) : U (x + 3 + 2 * tk) = B (x + 3 + 2 * tk) := by
  obtain ⟨n, hn, h24⟩ := h.np hV
  obtain ⟨hS, ⟨pm, tk', hD, -⟩, -⟩ := h
  have e1 := hD.1
  obtain rfl : tk' = tk := by omega
  have e2 := hD.2.2.2.1
  have hpm := hD.2.2.2.2.1
  rcases e_carry hS hD hc hn h24 with ⟨-, -, e⟩ | ⟨l, -, c, -, -, e⟩
  · rw [e, uA_n (by omega)]
  · have := hpm n l
    rw [e, uA_n (by omega), uA_n (by omega)]
/-- one round of the reference's reads -/
def RDS (A : AA) (cd pk p k i : Int32) (A2 : AA) (pk2 : Int32) : Prop := ∃ (A1 : AA) (c1 r1 nm f sz c1' pk1' c2 pk2' : Int32), D_X10_emit A cd pk p 4 nm (-1) (-1) 0 A1 c1 pk2 r1 ∧ D_X10_load A1 c1' pk1' r1 p f sz A2 c2 pk2' ∧ nm = ((A 43 24) + k) - ((A 43 24) + k) / 64 * 64 ∧ f.toInt = (A 46 24).toInt + i.toInt ∧ (sz.toInt = if 4 < (A 44 24).toInt - i.toInt then 4 else (A 44 24).toInt - i.toInt)
theorem RDS.cg {A A2 A2' : AA} {cd pk p k i pk2 : Int32} (h : RDS A cd pk p k i A2 pk2) (e : A2 = A2') : RDS A cd pk p k i A2' pk2 := e ▸ h
theorem szif {v x : Int32} {n i : Int} (h : ((4 ≤ x.toInt) ∧ v = 4) ∨ ((¬ 4 ≤ x.toInt) ∧ v = x)) (hx : x.toInt = n - i) : v.toInt = if 4 < n - i then 4 else n - i := by
  have i4 := i_4
  rcases h with ⟨a, rfl⟩ | ⟨a, rfl⟩
  · split <;> omega
  · split <;> omega
theorem szB {n i : Int} {x : Int32} (hx : x.toInt = n - i) (h : 4 ≤ x.toInt) : (4 : Int32).toInt = if 4 < n - i then 4 else n - i := by
  have i4 := i_4
  split <;> omega
theorem szS {n i : Int} {x : Int32} (hx : x.toInt = n - i) (h : ¬ 4 ≤ x.toInt) : x.toInt = if 4 < n - i then 4 else n - i := by
  rw [if_neg (by omega)]; exact hx
theorem r_reads {A : AA} {cd pk p : Int32} {A' : AA} {cdz pkz : Int32} (h : D_X10_reads A cd pk p A' cdz pkz) : ((A 44 24).toInt ≤ 0 ∧ A' = A ∧ pkz = pk) ∨ (¬ (A 44 24).toInt ≤ 0 ∧ ∃ (A2 : AA) (pk2 : Int32), RDS A cd pk p 0 0 A2 pk2 ∧ (((A2 44 24).toInt ≤ 4 ∧ A' = A2 ∧ pkz = pk2) ∨ (¬ (A2 44 24).toInt ≤ 4 ∧ ∃ (A4 : AA) (pk4 : Int32), RDS A2 cd pk2 p 1 4 A4 pk4 ∧ (((A4 44 24).toInt ≤ 8 ∧ A' = A4 ∧ pkz = pk4) ∨ (¬ (A4 44 24).toInt ≤ 8 ∧ RDS A4 cd pk4 p 2 8 A' pkz ∧ True))))) := by
  have i0 := i_0
  have i4 := i_4
  have i8 : (8 : Int32).toInt = 8 := by decide
  rcases h with ⟨c1, rfl, rfl, rfl⟩ | ⟨c1, x_6, ex_6, x_7, ex_7, ur_8, r_8, hemit, c2, c3, c4, c5, c6, x_12, ex_12, fx_12, x_16, ex_16, fx_16, v_17, c7, ur_19, hload, c8, c9, (⟨c10, rfl, rfl, rfl⟩ | ⟨c10, x_25, ex_25, x_26, ex_26, ur_27, r_27, hemit_1, c11, c12, c13, c14, c15, x_31, ex_31, fx_31, x_35, ex_35, fx_35, (⟨c16, ur_37, hload_1, c17, c18, (⟨c19, rfl, rfl, rfl⟩ | ⟨c19, x_43, ex_43, x_44, ex_44, ur_45, r_45, hemit_2, c20, c21, c22, c23, c24, x_49, ex_49, fx_49, x_53, ex_53, fx_53, (⟨c25, ur_55, hload_2, c26, c27, rfl, rfl, rfl⟩ | ⟨c25, ur_60, hload_2, c26, c27, rfl, rfl, rfl⟩)⟩)⟩ | ⟨c16, ur_65, hload_1, c17, c18, (⟨c19, rfl, rfl, rfl⟩ | ⟨c19, x_71, ex_71, x_72, ex_72, ur_73, r_73, hemit_2, c20, c21, c22, c23, c24, x_77, ex_77, fx_77, x_81, ex_81, fx_81, (⟨c25, ur_83, hload_2, c26, c27, rfl, rfl, rfl⟩ | ⟨c25, ur_88, hload_2, c26, c27, rfl, rfl, rfl⟩)⟩)⟩)⟩)⟩
  · exact Or.inl ⟨c1, by simp only [uA_ii], rfl⟩
  · refine Or.inr ⟨c1, _, _, ⟨_, _, _, _, _, _, _, _, _, _, hemit, hload, by rw [ex_7, ex_6]; first | done | rfl, by rw [fx_16, c6.2, i0]; first | done | rfl, szif c7 (by rw [fx_12, c6.1, i0]; first | done | rfl)⟩, ?_⟩
    refine Or.inl ⟨c10, ?_, rfl⟩
    funext j
    by_cases a0 : j = 48
    · subst a0; rfl
    by_cases a1 : j = 47
    · subst a1; rfl
    by_cases a2 : j = 46
    · subst a2; rfl
    by_cases a3 : j = 45
    · subst a3; rfl
    by_cases a4 : j = 44
    · subst a4; rfl
    by_cases a5 : j = 43
    · subst a5; rfl
    by_cases a6 : j = 42
    · subst a6; rfl
    by_cases a7 : j = 41
    · subst a7; rfl
    simp only [uA_n a0, uA_n a1, uA_n a2, uA_n a3, uA_n a4, uA_n a5, uA_n a6, uA_n a7]
  · refine Or.inr ⟨c1, _, _, ⟨_, _, _, _, _, _, _, _, _, _, hemit, hload, by rw [ex_7, ex_6]; first | done | rfl, by rw [fx_16, c6.2, i0]; first | done | rfl, szif c7 (by rw [fx_12, c6.1, i0]; first | done | rfl)⟩, ?_⟩
    refine Or.inr ⟨c10, _, _, ⟨_, _, _, _, _, _, _, _, _, _, hemit_1, hload_1, by rw [ex_26, ex_25]; first | done | rfl, by rw [fx_35, c15.2, i4]; first | done | rfl, szB (by rw [fx_31, c15.1, i4]; first | done | rfl) c16⟩, Or.inl ⟨c19, ?_, rfl⟩⟩
    funext j
    by_cases a0 : j = 48
    · subst a0; rfl
    by_cases a1 : j = 47
    · subst a1; rfl
    by_cases a2 : j = 46
    · subst a2; rfl
    by_cases a3 : j = 45
    · subst a3; rfl
    by_cases a4 : j = 44
    · subst a4; rfl
    by_cases a5 : j = 43
    · subst a5; rfl
    by_cases a6 : j = 42
    · subst a6; rfl
    by_cases a7 : j = 41
    · subst a7; rfl
    simp only [uA_n a0, uA_n a1, uA_n a2, uA_n a3, uA_n a4, uA_n a5, uA_n a6, uA_n a7]
  · refine Or.inr ⟨c1, _, _, ⟨_, _, _, _, _, _, _, _, _, _, hemit, hload, by rw [ex_7, ex_6]; first | done | rfl, by rw [fx_16, c6.2, i0]; first | done | rfl, szif c7 (by rw [fx_12, c6.1, i0]; first | done | rfl)⟩, ?_⟩
    refine Or.inr ⟨c10, _, _, ⟨_, _, _, _, _, _, _, _, _, _, hemit_1, hload_1, by rw [ex_26, ex_25]; first | done | rfl, by rw [fx_35, c15.2, i4]; first | done | rfl, szB (by rw [fx_31, c15.1, i4]; first | done | rfl) c16⟩, Or.inr ⟨c19, RDS.cg ⟨_, _, _, _, _, _, _, _, _, _, hemit_2, hload_2, by rw [ex_44, ex_43]; first | done | rfl, by rw [fx_53, c24.2, i8]; first | done | rfl, szB (by rw [fx_49, c24.1, i8]; first | done | rfl) c25⟩ ?_, trivial⟩⟩
    funext j
    by_cases a0 : j = 48
    · subst a0; rfl
    by_cases a1 : j = 47
    · subst a1; rfl
    by_cases a2 : j = 46
    · subst a2; rfl
    by_cases a3 : j = 45
    · subst a3; rfl
    by_cases a4 : j = 44
    · subst a4; rfl
    by_cases a5 : j = 43
    · subst a5; rfl
    by_cases a6 : j = 42
    · subst a6; rfl
    by_cases a7 : j = 41
    · subst a7; rfl
    simp only [uA_n a0, uA_n a1, uA_n a2, uA_n a3, uA_n a4, uA_n a5, uA_n a6, uA_n a7]
  · refine Or.inr ⟨c1, _, _, ⟨_, _, _, _, _, _, _, _, _, _, hemit, hload, by rw [ex_7, ex_6]; first | done | rfl, by rw [fx_16, c6.2, i0]; first | done | rfl, szif c7 (by rw [fx_12, c6.1, i0]; first | done | rfl)⟩, ?_⟩
    refine Or.inr ⟨c10, _, _, ⟨_, _, _, _, _, _, _, _, _, _, hemit_1, hload_1, by rw [ex_26, ex_25]; first | done | rfl, by rw [fx_35, c15.2, i4]; first | done | rfl, szB (by rw [fx_31, c15.1, i4]; first | done | rfl) c16⟩, Or.inr ⟨c19, RDS.cg ⟨_, _, _, _, _, _, _, _, _, _, hemit_2, hload_2, by rw [ex_44, ex_43]; first | done | rfl, by rw [fx_53, c24.2, i8]; first | done | rfl, szS (by rw [fx_49, c24.1, i8]; first | done | rfl) c25⟩ ?_, trivial⟩⟩
    funext j
    by_cases a0 : j = 48
    · subst a0; rfl
    by_cases a1 : j = 47
    · subst a1; rfl
    by_cases a2 : j = 46
    · subst a2; rfl
    by_cases a3 : j = 45
    · subst a3; rfl
    by_cases a4 : j = 44
    · subst a4; rfl
    by_cases a5 : j = 43
    · subst a5; rfl
    by_cases a6 : j = 42
    · subst a6; rfl
    by_cases a7 : j = 41
    · subst a7; rfl
    simp only [uA_n a0, uA_n a1, uA_n a2, uA_n a3, uA_n a4, uA_n a5, uA_n a6, uA_n a7]
  · refine Or.inr ⟨c1, _, _, ⟨_, _, _, _, _, _, _, _, _, _, hemit, hload, by rw [ex_7, ex_6]; first | done | rfl, by rw [fx_16, c6.2, i0]; first | done | rfl, szif c7 (by rw [fx_12, c6.1, i0]; first | done | rfl)⟩, ?_⟩
    refine Or.inr ⟨c10, _, _, ⟨_, _, _, _, _, _, _, _, _, _, hemit_1, hload_1, by rw [ex_26, ex_25]; first | done | rfl, by rw [fx_35, c15.2, i4]; first | done | rfl, szS (by rw [fx_31, c15.1, i4]; first | done | rfl) c16⟩, Or.inl ⟨c19, ?_, rfl⟩⟩
    funext j
    by_cases a0 : j = 48
    · subst a0; rfl
    by_cases a1 : j = 47
    · subst a1; rfl
    by_cases a2 : j = 46
    · subst a2; rfl
    by_cases a3 : j = 45
    · subst a3; rfl
    by_cases a4 : j = 44
    · subst a4; rfl
    by_cases a5 : j = 43
    · subst a5; rfl
    by_cases a6 : j = 42
    · subst a6; rfl
    by_cases a7 : j = 41
    · subst a7; rfl
    simp only [uA_n a0, uA_n a1, uA_n a2, uA_n a3, uA_n a4, uA_n a5, uA_n a6, uA_n a7]
  · refine Or.inr ⟨c1, _, _, ⟨_, _, _, _, _, _, _, _, _, _, hemit, hload, by rw [ex_7, ex_6]; first | done | rfl, by rw [fx_16, c6.2, i0]; first | done | rfl, szif c7 (by rw [fx_12, c6.1, i0]; first | done | rfl)⟩, ?_⟩
    refine Or.inr ⟨c10, _, _, ⟨_, _, _, _, _, _, _, _, _, _, hemit_1, hload_1, by rw [ex_26, ex_25]; first | done | rfl, by rw [fx_35, c15.2, i4]; first | done | rfl, szS (by rw [fx_31, c15.1, i4]; first | done | rfl) c16⟩, Or.inr ⟨c19, RDS.cg ⟨_, _, _, _, _, _, _, _, _, _, hemit_2, hload_2, by rw [ex_72, ex_71]; first | done | rfl, by rw [fx_81, c24.2, i8]; first | done | rfl, szB (by rw [fx_77, c24.1, i8]; first | done | rfl) c25⟩ ?_, trivial⟩⟩
    funext j
    by_cases a0 : j = 48
    · subst a0; rfl
    by_cases a1 : j = 47
    · subst a1; rfl
    by_cases a2 : j = 46
    · subst a2; rfl
    by_cases a3 : j = 45
    · subst a3; rfl
    by_cases a4 : j = 44
    · subst a4; rfl
    by_cases a5 : j = 43
    · subst a5; rfl
    by_cases a6 : j = 42
    · subst a6; rfl
    by_cases a7 : j = 41
    · subst a7; rfl
    simp only [uA_n a0, uA_n a1, uA_n a2, uA_n a3, uA_n a4, uA_n a5, uA_n a6, uA_n a7]
  · refine Or.inr ⟨c1, _, _, ⟨_, _, _, _, _, _, _, _, _, _, hemit, hload, by rw [ex_7, ex_6]; first | done | rfl, by rw [fx_16, c6.2, i0]; first | done | rfl, szif c7 (by rw [fx_12, c6.1, i0]; first | done | rfl)⟩, ?_⟩
    refine Or.inr ⟨c10, _, _, ⟨_, _, _, _, _, _, _, _, _, _, hemit_1, hload_1, by rw [ex_26, ex_25]; first | done | rfl, by rw [fx_35, c15.2, i4]; first | done | rfl, szS (by rw [fx_31, c15.1, i4]; first | done | rfl) c16⟩, Or.inr ⟨c19, RDS.cg ⟨_, _, _, _, _, _, _, _, _, _, hemit_2, hload_2, by rw [ex_72, ex_71]; first | done | rfl, by rw [fx_81, c24.2, i8]; first | done | rfl, szS (by rw [fx_77, c24.1, i8]; first | done | rfl) c25⟩ ?_, trivial⟩⟩
    funext j
    by_cases a0 : j = 48
    · subst a0; rfl
    by_cases a1 : j = 47
    · subst a1; rfl
    by_cases a2 : j = 46
    · subst a2; rfl
    by_cases a3 : j = 45
    · subst a3; rfl
    by_cases a4 : j = 44
    · subst a4; rfl
    by_cases a5 : j = 43
    · subst a5; rfl
    by_cases a6 : j = 42
    · subst a6; rfl
    by_cases a7 : j = 41
    · subst a7; rfl
    simp only [uA_n a0, uA_n a1, uA_n a2, uA_n a3, uA_n a4, uA_n a5, uA_n a6, uA_n a7]
/-- one packet of a READ's replies -/
theorem s_rd1 {x q tk : Nat} {G : Nat → Nat} {t0 t1 t2 : Int32} {B : AA} {R : RR} {A : AA} {pk : Int32} (h : SIM x t0 t1 t2 B R A pk) (hV : RW A pk) (hq : q < 4) {p to : Int32} (hp : (q : Int) = p.toInt) (eto : to = peerT p) (htk : R (x + 1) 2 = x + 3 + 2 * tk) (hT : TKP x tk B A) {k i : Int32} (hk : 0 ≤ k.toInt ∧ k.toInt ≤ 64) (hi : 0 ≤ i.toInt ∧ i.toInt < (A 44 24).toInt) (h32 : 0 ≤ (A 46 24).toInt ∧ (A 46 24).toInt + (A 44 24).toInt ≤ 32) {U : AA} {r : Nat} {nm s s2 : Int32} (enm : nm = ((B (x + 3 + 2 * tk) 2) + k) &&& 63) (hcar : C_X0_carry G B R (x + 1) to 4 nm U r) (es : s = (U (x + 3 + 2 * tk) 5) + i) (es2 : s2 = (U (x + 3 + 2 * tk) 3) - i) {Z : AA} (hl : C_X2_load G U R r (x + 56 + 10 * (q % 2)) s s2 Z) {A2 : AA} {cd pk2 : Int32} (hd : RDS A cd pk p k i A2 pk2) : SIM x t0 t1 t2 Z R A2 pk2 ∧ RW A2 pk2 ∧ TKP x tk Z A2 ∧ (∀ a, ¬ (x + 1 ≤ a ∧ a < x + 55) → Z a = B a) ∧ (∀ j, (j < 41 ∨ 48 < j) → A2 j = A j) ∧ (∀ j, 41 ≤ j → j ≤ 47 → A2 j 24 = A j 24) := by
  have eU := e_carryT h hV htk hcar
  have hT0 := hT
  obtain ⟨⟨y0, y1, y2, y3, y4, y5, y6⟩, -, ⟨y7, -⟩⟩ := hT
  rw [eU, y5] at es
  rw [eU, y3] at es2
  obtain ⟨A1, c1, r1, nm', f, sz, c1', pk1', c2, pk2', d1, d2, d3, d4, d5⟩ := hd
  have en : nm' = nm := i32_eq (by rw [mod64 y7 hk d3, enm, aft, y2])
  subst en
  have est : s.toInt = (A 46 24).toInt + i.toInt := by rw [es]; exact add_t (by omega) (by omega)
  have es2t : s2.toInt = (A 44 24).toInt - i.toInt := by rw [es2]; exact s_sub (by omega) (by omega)
  obtain ⟨f0, hf0⟩ : ∃ f0 : Nat, (f0 : Int) = s.toInt := ⟨s.toInt.toNat, by omega⟩
  obtain ⟨a1, a2, a3, a4, a5, a6⟩ := s_load h hV (by omega) hq hp eto rfl (by rw [mod64 y7 hk d3]; omega) hcar hl hf0 (by omega) (by omega) d1 d2 (by omega) (by rw [d5, es2t])
  exact ⟨a1, a2, a3 tk htk hT0, a4, a5, a6⟩
/-- the replies to a READ -/
theorem s_reads {x q tk : Nat} {G : Nat → Nat} {t0 t1 t2 : Int32} {B : AA} {R : RR} {A : AA} {pk : Int32} (h : SIM x t0 t1 t2 B R A pk) (hV : RW A pk) (hq : q < 4) {p : Int32} (hp : (q : Int) = p.toInt) (htk : R (x + 1) 2 = x + 3 + 2 * tk) (hT : TKP x tk B A) (h12 : (A 44 24).toInt ≤ 12) (h32 : 0 ≤ (A 46 24).toInt ∧ (A 46 24).toInt + (A 44 24).toInt ≤ 32) {Z : AA} (hc : C_X8_replyCells G B R (x + 85 + 17 * q) (x + 3 + 2 * tk) Z) {A' : AA} {cd cdz pkz : Int32} (hd : D_X10_reads A cd pk p A' cdz pkz) : SIM x t0 t1 t2 Z R A' pkz ∧ RW A' pkz ∧ TKP x tk Z A' ∧ (∀ a, ¬ (x + 1 ≤ a ∧ a < x + 55) → Z a = B a) ∧ (∀ j, (j < 41 ∨ 48 < j) → A' j = A j) ∧ ∀ j, 41 ≤ j → j ≤ 47 → A' j 24 = A j 24 := by
  have hS := h.1
  have hC := (h.2.2.2.2.2 q hq).1
  have eto : B (x + 85 + 17 * q) 0 = peerT p := i32_eq (by rw [hC.2.2.2.2.1, peer_e hq hp])
  have i0 := i_0
  have i1 := i_1t
  have i2 := i_2
  have i4 := i_4
  have i8 : (8 : Int32).toInt = 8 := by decide
  have y3 := congrArg Int32.toInt hT.1.2.2.2.1
  have hsh := hS.2.2.2.2.2.1 q hq
  unfold C_X8_replyCells at hc
  rw [hsh.2.1, hsh.1] at hc
  rcases r_reads hd with ⟨d1, rfl, rfl⟩ | ⟨d1, A2, pk2, d2, d3⟩
  · rcases hc with ⟨c1, rfl⟩ | ⟨c1, x_4, ex_4, r_9, U_10, hF, hcarry, x_14, ex_14, x_16, ex_16, U_19, hF_1, hload, c2, rfl⟩ | ⟨c1, x_4, ex_4, r_9, U_10, hF, hcarry, x_14, ex_14, x_16, ex_16, U_19, hF_1, hload, c2, x_23, ex_23, r_27, U_28, hF_2, hcarry_1, x_31, ex_31, x_33, ex_33, U_36, hF_3, hload_1, c3, rfl⟩ | ⟨c1, x_4, ex_4, r_9, U_10, hF, hcarry, x_14, ex_14, x_16, ex_16, U_19, hF_1, hload, c2, x_23, ex_23, r_27, U_28, hF_2, hcarry_1, x_31, ex_31, x_33, ex_33, U_36, hF_3, hload_1, c3, x_40, ex_40, r_44, U_45, hF_4, hcarry_2, x_48, ex_48, x_50, ex_50, U_53, hF_5, hload_2, rfl⟩
    · exact ⟨h, hV, hT, fun _ _ => rfl, fun _ _ => rfl, fun _ _ _ => rfl⟩
    · exfalso; omega
    · exfalso; omega
    · exfalso; omega
  have st1 : ∀ {U Z : AA} {r : Nat} {nm s s2 : Int32}, nm = ((B (x + 3 + 2 * tk) 2) + 0) &&& 63 → C_X0_carry G B R (x + 1) (B (x + 85 + 17 * q) 0) 4 nm U r → s = (U (x + 3 + 2 * tk) 5) + 0 → s2 = (U (x + 3 + 2 * tk) 3) - 0 → C_X2_load G U R r (x + 56 + 10 * (q % 2)) s s2 Z → SIM x t0 t1 t2 Z R A2 pk2 ∧ RW A2 pk2 ∧ TKP x tk Z A2 ∧ (∀ a, ¬ (x + 1 ≤ a ∧ a < x + 55) → Z a = B a) ∧ (∀ j, (j < 41 ∨ 48 < j) → A2 j = A j) ∧ (∀ j, 41 ≤ j → j ≤ 47 → A2 j 24 = A j 24) := fun e1 e2 e3 e4 e5 => s_rd1 h hV hq hp eto htk hT (by omega) (by omega) h32 e1 e2 e3 e4 e5 d2
  have st2 : ∀ {Z1 U Z A4 : AA} {r : Nat} {nm s s2 pk4 : Int32}, SIM x t0 t1 t2 Z1 R A2 pk2 → RW A2 pk2 → TKP x tk Z1 A2 → (∀ j, 41 ≤ j → j ≤ 47 → A2 j 24 = A j 24) → ¬ (A2 44 24).toInt ≤ 4 → nm = ((Z1 (x + 3 + 2 * tk) 2) + 1) &&& 63 → C_X0_carry G Z1 R (x + 1) (B (x + 85 + 17 * q) 0) 4 nm U r → s = (U (x + 3 + 2 * tk) 5) + 4 → s2 = (U (x + 3 + 2 * tk) 3) - 4 → C_X2_load G U R r (x + 56 + 10 * (q % 2)) s s2 Z → RDS A2 cd pk2 p 1 4 A4 pk4 → SIM x t0 t1 t2 Z R A4 pk4 ∧ RW A4 pk4 ∧ TKP x tk Z A4 ∧ (∀ a, ¬ (x + 1 ≤ a ∧ a < x + 55) → Z a = Z1 a) ∧ (∀ j, (j < 41 ∨ 48 < j) → A4 j = A2 j) ∧ (∀ j, 41 ≤ j → j ≤ 47 → A4 j 24 = A2 j 24) := fun b1 b2 b3 b4 b5 e1 e2 e3 e4 e5 d => by
    have q1 := b4 44 (by decide) (by decide)
    have q2 := b4 46 (by decide) (by decide)
    exact s_rd1 b1 b2 hq hp eto htk b3 (by omega) (by omega) (by rw [q1, q2]; exact h32) e1 e2 e3 e4 e5 d
  rcases hc with ⟨c1, rfl⟩ | ⟨c1, x_4, ex_4, r_9, U_10, hF, hcarry, x_14, ex_14, x_16, ex_16, U_19, hF_1, hload, c2, rfl⟩ | ⟨c1, x_4, ex_4, r_9, U_10, hF, hcarry, x_14, ex_14, x_16, ex_16, U_19, hF_1, hload, c2, x_23, ex_23, r_27, U_28, hF_2, hcarry_1, x_31, ex_31, x_33, ex_33, U_36, hF_3, hload_1, c3, rfl⟩ | ⟨c1, x_4, ex_4, r_9, U_10, hF, hcarry, x_14, ex_14, x_16, ex_16, U_19, hF_1, hload, c2, x_23, ex_23, r_27, U_28, hF_2, hcarry_1, x_31, ex_31, x_33, ex_33, U_36, hF_3, hload_1, c3, x_40, ex_40, r_44, U_45, hF_4, hcarry_2, x_48, ex_48, x_50, ex_50, U_53, hF_5, hload_2, rfl⟩
  · exfalso; omega
  · obtain ⟨a1, a2, a3, a4, a5, a6⟩ := st1 ex_4 hcarry ex_14 ex_16 hload
    have e44 := congrArg Int32.toInt a3.1.2.2.2.1
    rcases d3 with ⟨d4, rfl, rfl⟩ | ⟨d4, -⟩
    · exact ⟨a1, a2, a3, a4, a5, a6⟩
    · exfalso; omega
  · obtain ⟨a1, a2, a3, a4, a5, a6⟩ := st1 ex_4 hcarry ex_14 ex_16 hload
    have e44 := congrArg Int32.toInt a3.1.2.2.2.1
    rcases d3 with ⟨d4, -⟩ | ⟨d4, A4, pk4, d5, d6⟩
    · exfalso; omega
    · obtain ⟨b1, b2, b3, b4, b5, b6⟩ := st2 a1 a2 a3 a6 d4 ex_23 hcarry_1 ex_31 ex_33 hload_1 d5
      have f44 := congrArg Int32.toInt b3.1.2.2.2.1
      rcases d6 with ⟨d7, rfl, rfl⟩ | ⟨d7, -⟩
      · exact ⟨b1, b2, b3, fun a k => (b4 a k).trans (a4 a k), fun j k => (b5 j k).trans (a5 j k), fun j k1 k2 => (b6 j k1 k2).trans (a6 j k1 k2)⟩
      · exfalso; omega
  · obtain ⟨a1, a2, a3, a4, a5, a6⟩ := st1 ex_4 hcarry ex_14 ex_16 hload
    have e44 := congrArg Int32.toInt a3.1.2.2.2.1
    rcases d3 with ⟨d4, -⟩ | ⟨d4, A4, pk4, d5, d6⟩
    · exfalso; omega
    · obtain ⟨b1, b2, b3, b4, b5, b6⟩ := st2 a1 a2 a3 a6 d4 ex_23 hcarry_1 ex_31 ex_33 hload_1 d5
      have f44 := congrArg Int32.toInt b3.1.2.2.2.1
      rcases d6 with ⟨d7, -⟩ | ⟨d7, d8, -⟩
      · exfalso; omega
      · have q1 := (b6 44 (by decide) (by decide)).trans (a6 44 (by decide) (by decide))
        have q2 := (b6 46 (by decide) (by decide)).trans (a6 46 (by decide) (by decide))
        obtain ⟨c1', c2', c3', c4', c5', c6'⟩ := s_rd1 b1 b2 hq hp eto htk b3 (by omega) (by omega) (by rw [q1, q2]; exact h32) ex_40 hcarry_2 ex_48 ex_50 hload_2 d8
        exact ⟨c1', c2', c3', fun a k => (c4' a k).trans ((b4 a k).trans (a4 a k)), fun j k => (c5' j k).trans ((b5 j k).trans (a5 j k)), fun j k1 k2 => (c6' j k1 k2).trans ((b6 j k1 k2).trans (a6 j k1 k2))⟩
end
section
theorem PS.mk2 {x q : Nat} {t0 : Int32} {B Z A A' : AA} (h : PS x q t0 B A) {f : Nat → Int32} (z84 : Z (x + 84 + 17 * q) = B (x + 84 + 17 * q)) (z77 : Z (x + 77 + 17 * q) = B (x + 77 + 17 * q)) (z85 : Z (x + 85 + 17 * q) = f) (ha : ∀ j, (10 ≤ j ∧ j ≤ 13) ∨ (15 ≤ j ∧ j ≤ 18) → A' j q = A j q) (n4 : f 4 = A' 14 q) (n6 : f 6 = A' 19 q) (n5 : f 5 = A' 36 q) (b14 : 0 ≤ (A' 14 q).toInt ∧ (A' 14 q).toInt ≤ 63) (b19 : B01 (A' 19 q)) (b36 : B01 (A' 36 q)) : PS x q t0 Z A' := by
  obtain ⟨p1, p2, p3, p4, p5, p6, p7, p8, p9, p10⟩ := h
  unfold PS
  rw [z84, z77, z85, ha 10 (by omega), ha 11 (by omega), ha 12 (by omega), ha 13 (by omega), ha 15 (by omega), ha 16 (by omega), ha 17 (by omega), ha 18 (by omega)]
  exact ⟨p1, fun e => ⟨(p2 e).1, (p2 e).2.1, (p2 e).2.2.1, n4⟩, p3, p4, ⟨n6, n5⟩, b14, p7, p8, b19, b36⟩
/-- the responder's number and marks are changed -/
theorem SIM.rs {x q : Nat} {t0 t1 t2 : Int32} {B : AA} {R : RR} {A A' : AA} {pk : Int32} (h : SIM x t0 t1 t2 B R A pk) (hV : RW A pk) (hq : q < 4) {f : Nat → Int32} (hf : f 0 = B (x + 85 + 17 * q) 0) (hA : ∀ j, ¬ (j = 14 ∨ j = 19 ∨ j = 36) → A' j = A j) (hk : ∀ j k, k ≠ q → A' j k = A j k) (n4 : f 4 = A' 14 q) (n6 : f 6 = A' 19 q) (n5 : f 5 = A' 36 q) (b14 : 0 ≤ (A' 14 q).toInt ∧ (A' 14 q).toInt ≤ 63) (b19 : B01 (A' 19 q)) (b36 : B01 (A' 36 q)) : SIM x t0 t1 t2 (uA B (x + 85 + 17 * q) f) R A' pk ∧ RW A' pk :=
  ⟨h.sc hV hq (fun a k1 k2 k3 => uA_n k3) (fun j hj => by rw [uA_n (by omega)]) (by rw [uA_s]; exact hf) (fun j hj => hA j (by omega)) hk (PS.mk2 (h.2.2.2.2.2 q hq).2.1 (uA_n (by omega)) (uA_n (by omega)) uA_s (fun j hj => by rw [hA j (by omega)]) n4 n6 n5 b14 b19 b36), hV.cg (hA 8 (by omega)) (hA 20 (by omega)) (hA 30 (by omega))⟩
theorem e_advance {G : Nat → Nat} {B : AA} {R : RR} {S : Nat} {k : Int32} {Z : AA} (h : C_X8_advance G B R S k Z) : ∃ v : Int32, v.toInt = ((B S 4).toInt + k.toInt) % 64 ∧ Z = uA B S (upd (upd (B S) 4 v) 6 0) := by
  rcases h with ⟨x_2, ex_2, B_3, rfl, B_5, rfl, rfl⟩
  exact ⟨x_2, by rw [ex_2, aft], by simp only [uA_u, uA_s]⟩
theorem r_accept {A : AA} {cd pk p k : Int32} {A' : AA} {cdz pkz : Int32} {q : Nat} (h : D_X10_accept A cd pk p k A' cdz pkz) (hq : (q : Int) = p.toInt) (h14 : 0 ≤ (A 14 q).toInt ∧ (A 14 q).toInt ≤ 63) (hk : 0 ≤ k.toInt ∧ k.toInt ≤ 64) : ∃ v : Int32, v.toInt = ((A 14 q).toInt + k.toInt) % 64 ∧ A' = uA (uA A 14 (upd (A 14) q v)) 19 (upd (A 19) q 0) := by
  rcases h with ⟨n_3, hn_3, x_4, ex_4, x_5, ex_5, g_6, rfl, g_7, rfl, rfl, rfl, rfl⟩
  obtain rfl : n_3 = q := by omega
  exact ⟨x_5, mod64 h14 hk (by rw [ex_5, ex_4]), rfl⟩
/-- the expected number goes on -/
theorem SIM.adv {x q : Nat} {G : Nat → Nat} {t0 t1 t2 : Int32} {B : AA} {R : RR} {A : AA} {pk : Int32} (h : SIM x t0 t1 t2 B R A pk) (hV : RW A pk) (hq : q < 4) (hst : (A 10 q).toInt = 1) {k v : Int32} {Z : AA} (hc : C_X8_advance G B R (x + 85 + 17 * q) k Z) (hv : v.toInt = ((A 14 q).toInt + k.toInt) % 64) : SIM x t0 t1 t2 Z R (uA (uA A 14 (upd (A 14) q v)) 19 (upd (A 19) q 0)) pk ∧ RW (uA (uA A 14 (upd (A 14) q v)) 19 (upd (A 19) q 0)) pk ∧ ∀ a, a ≠ x + 85 + 17 * q → Z a = B a := by
  obtain ⟨p1, p2, p3, p4, p5, p6, p7, p8, p9, p10⟩ := (h.2.2.2.2.2 q hq).2.1
  have p2s := p2 hst
  obtain ⟨w, e1, rfl⟩ := e_advance hc
  obtain rfl : w = v := i32_eq (by rw [e1, hv, p2s.2.2.2])
  obtain ⟨a, b⟩ := h.rs (A' := uA (uA A 14 (upd (A 14) q w)) 19 (upd (A 19) q 0)) (f := upd (upd (B (x + 85 + 17 * q)) 4 w) 6 0) hV hq rfl (fun j hj => by rw [uA_n (by omega), uA_n (by omega)]) (fun j k hk => by
    by_cases e1 : j = 19
    · subst e1; exact upd_n hk
    by_cases e2 : j = 14
    · subst e2; exact upd_n hk
    rw [uA_n e1, uA_n e2]) upd_s.symm upd_s.symm p5.2 (by
    show 0 ≤ (upd (A 14) q w q).toInt ∧ (upd (A 14) q w q).toInt ≤ 63
    rw [upd_s]; omega) (by
    show B01 (upd (A 19) q 0 q)
    rw [upd_s]; exact Or.inl rfl) p10
  exact ⟨a, b, fun a ha => uA_n ha⟩
theorem rt_ok {v t : Int32} (h0 : 0 ≤ v.toInt) (h7 : v.toInt ≤ 7) (ht : t = 1 ∨ t = 2 ∨ t = 4) : ((v &&& t).toInt = 0) ↔ ¬ (v / t - v / t / 2 * 2).toInt = 1 := by
  obtain ⟨j, hj, rfl⟩ := vp_in_of (x := v) (n := 8) (vp_in_iff.mpr ⟨h0, by omega⟩) (by decide)
  rcases ht with rfl | rfl | rfl <;> rcases (show j = 0 ∨ j = 1 ∨ j = 2 ∨ j = 3 ∨ j = 4 ∨ j = 5 ∨ j = 6 ∨ j = 7 by omega) with rfl | rfl | rfl | rfl | rfl | rfl | rfl | rfl <;> decide
theorem s_allows {x q : Nat} {G : Nat → Nat} {t0 t1 t2 : Int32} {B : AA} {R : RR} {A : AA} {pk cd : Int32} (h : SIM x t0 t1 t2 B R A pk) (hI : I2 (A 5) (A 6)) (hq : q < 4) {p rg pl n t r r' : Int32} (hp : (q : Int) = p.toInt) (hrg : 0 ≤ rg.toInt ∧ rg.toInt ≤ 5) (hpl : -1 ≤ pl.toInt ∧ pl.toInt ≤ 60) (hn : 1 ≤ n.toInt ∧ n.toInt ≤ 12) (ht : t = 1 ∨ t = 2 ∨ t = 4) (hc : C_X1_allows G B R (x + 56 + 10 * (q % 2)) rg pl n t r) (hd : D_X10_allows A cd pk p rg pl n t r') : (r.toInt = 0 ∧ r'.toInt = 0) ∨ (¬ r.toInt = 0 ∧ ¬ r'.toInt = 0 ∧ 0 ≤ pl.toInt ∧ pl.toInt + n.toInt ≤ 32) := by
  have hS := h.1
  obtain ⟨k, hk⟩ : ∃ k : Nat, (k : Int) = rg.toInt := ⟨rg.toInt.toNat, by omega⟩
  have hG := h.2.2.2.1 (q % 2) (by omega) k (by omega)
  obtain ⟨g0, g1, g2, g3, g4⟩ := hG
  have i2 := hI (6 * (q % 2) + k) (by omega)
  have g0i := congrArg Int32.toInt g0
  have g1i := congrArg Int32.toInt g1
  have hr : (r'.toInt = 0 ∧ ¬ ((A 7 (6 * (q % 2) + k) / t - A 7 (6 * (q % 2) + k) / t / 2 * 2).toInt = 1 ∧ (A 5 (6 * (q % 2) + k)).toInt ≤ pl.toInt ∧ pl.toInt + n.toInt ≤ (A 5 (6 * (q % 2) + k)).toInt + (A 6 (6 * (q % 2) + k)).toInt)) ∨ (r'.toInt = 1 ∧ (A 7 (6 * (q % 2) + k) / t - A 7 (6 * (q % 2) + k) / t / 2 * 2).toInt = 1 ∧ (A 5 (6 * (q % 2) + k)).toInt ≤ pl.toInt ∧ pl.toInt + n.toInt ≤ (A 5 (6 * (q % 2) + k)).toInt + (A 6 (6 * (q % 2) + k)).toInt) := by
    rcases hd with ⟨x_1, ex_1, fx_1, x_2, ex_2, fx_2, x_3, ex_3, fx_3, n_6, hn_6, x_7, ex_7, x_8, ex_8, c1, rfl⟩ | ⟨x_1, ex_1, fx_1, x_2, ex_2, fx_2, x_3, ex_3, fx_3, n_6, hn_6, x_7, ex_7, x_8, ex_8, fx_8, c1, rfl⟩ | ⟨x_1, ex_1, fx_1, x_2, ex_2, fx_2, x_3, ex_3, fx_3, n_6, hn_6, x_7, ex_7, x_8, ex_8, fx_8, c1, x_17, ex_17, fx_17, x_21, ex_21, fx_21, c2, rfl⟩ | ⟨x_1, ex_1, fx_1, x_2, ex_2, fx_2, x_3, ex_3, fx_3, n_6, hn_6, x_7, ex_7, x_8, ex_8, fx_8, c1, x_17, ex_17, fx_17, x_21, ex_21, fx_21, c2, rfl⟩
    all_goals
      obtain rfl : n_6 = 6 * (q % 2) + k := by omega
      rw [ex_7] at ex_8
    · rw [ex_8] at c1
      exact Or.inl ⟨by decide, fun e => c1 e.1⟩
    · exact Or.inl ⟨by decide, fun e => by omega⟩
    · exact Or.inl ⟨by decide, fun e => by omega⟩
    · rw [ex_8] at fx_8
      exact Or.inr ⟨by decide, fx_8, by omega, by omega⟩
  have hrt := rt_ok g3 g4 ht
  rcases hc with ⟨c1, rfl⟩ | ⟨c1, n_6, hn_6, r_9, hallows, c2, rfl⟩ | ⟨c1, n_6, hn_6, r_9, hallows, c2, rfl⟩
  · exfalso; omega
  · obtain rfl : n_6 = k := by omega
    rw [(hS.2.1 (q % 2) (by omega)).2.2.1, (hS.2.1 (q % 2) (by omega)).2.2.2.2 n_6 (by omega)] at hallows
    have hcl : ¬ ((A 7 (6 * (q % 2) + n_6) / t - A 7 (6 * (q % 2) + n_6) / t / 2 * 2).toInt = 1 ∧ (A 5 (6 * (q % 2) + n_6)).toInt ≤ pl.toInt ∧ pl.toInt + n.toInt ≤ (A 5 (6 * (q % 2) + n_6)).toInt + (A 6 (6 * (q % 2) + n_6)).toInt) := by
      rcases hallows with ⟨c1a, rfl⟩ | ⟨c1a, c2a, rfl⟩ | ⟨c1a, c2a, x_4a, ex_4a, x_5a, ex_5a, c3a, rfl⟩ | ⟨c1a, c2a, x_4a, ex_4a, x_5a, ex_5a, c3a, x_7a, ex_7a, fx_7a, rfl⟩ | ⟨c1a, c2a, x_4a, ex_4a, x_5a, ex_5a, c3a, x_7a, ex_7a, c4a, rfl⟩
      · omega
      · omega
      · have e4 : x_4a.toInt = pl.toInt + n.toInt := by rw [ex_4a]; exact add_t (by omega) (by omega)
        have e5 : x_5a.toInt = (A 5 (6 * (q % 2) + n_6)).toInt + (A 6 (6 * (q % 2) + n_6)).toInt := by rw [ex_5a, g0, g1]; exact add_t (by omega) (by omega)
        omega
      · rw [ex_7a, g2] at fx_7a
        exact fun e => (hrt.mp fx_7a) e.1
      · exact absurd c2 (by decide)
    left
    refine ⟨by decide, ?_⟩
    rcases hr with ⟨e, -⟩ | ⟨-, e⟩
    · exact e
    · exact absurd e hcl
  · obtain rfl : n_6 = k := by omega
    rw [(hS.2.1 (q % 2) (by omega)).2.2.1, (hS.2.1 (q % 2) (by omega)).2.2.2.2 n_6 (by omega)] at hallows
    have hcl : (A 7 (6 * (q % 2) + n_6) / t - A 7 (6 * (q % 2) + n_6) / t / 2 * 2).toInt = 1 ∧ (A 5 (6 * (q % 2) + n_6)).toInt ≤ pl.toInt ∧ pl.toInt + n.toInt ≤ (A 5 (6 * (q % 2) + n_6)).toInt + (A 6 (6 * (q % 2) + n_6)).toInt := by
      rcases hallows with ⟨c1a, rfl⟩ | ⟨c1a, c2a, rfl⟩ | ⟨c1a, c2a, x_4a, ex_4a, x_5a, ex_5a, c3a, rfl⟩ | ⟨c1a, c2a, x_4a, ex_4a, x_5a, ex_5a, c3a, x_7a, ex_7a, fx_7a, rfl⟩ | ⟨c1a, c2a, x_4a, ex_4a, x_5a, ex_5a, c3a, x_7a, ex_7a, c4a, rfl⟩
      · exact absurd i_0 c2
      · exact absurd i_0 c2
      · exact absurd i_0 c2
      · exact absurd i_0 c2
      · have e4 : x_4a.toInt = pl.toInt + n.toInt := by rw [ex_4a]; exact add_t (by omega) (by omega)
        have e5 : x_5a.toInt = (A 5 (6 * (q % 2) + n_6)).toInt + (A 6 (6 * (q % 2) + n_6)).toInt := by rw [ex_5a, g0, g1]; exact add_t (by omega) (by omega)
        rw [ex_7a, g2] at c4a
        refine ⟨?_, by omega, by omega⟩
        by_cases e : (A 7 (6 * (q % 2) + n_6) / t - A 7 (6 * (q % 2) + n_6) / t / 2 * 2).toInt = 1
        · exact e
        · exact absurd (hrt.mpr e) c4a
    right
    rcases hr with ⟨-, e⟩ | ⟨e, -⟩
    · exact absurd hcl e
    · exact ⟨by decide, by omega, by omega, by omega⟩
theorem e_isAllowed {G : Nat → Nat} {B : AA} {R : RR} {a N : Nat} {r : Int32} (h : C_X2_isAllowed G B R a N r) : ((B a 1).toInt = 1 ∧ C_X1_allows G B R N (B a 4) (B a 5) (B a 3) 1 r) ∨ ((B a 1).toInt = 2 ∧ C_X1_allows G B R N (B a 4) (B a 5) (B a 3) 2 r) ∨ ((B a 1).toInt ≠ 1 ∧ (B a 1).toInt ≠ 2 ∧ C_X1_allows G B R N (B a 4) (B a 5) 1 4 r) := by
  rcases h with ⟨c1, r_5, hallows, er_5, rfl⟩ | ⟨c1, r_5, hallows, er_5, rfl⟩ | ⟨c1, r_8, hallows, er_8, rfl⟩ | ⟨c1, r_8, hallows, er_8, rfl⟩ | ⟨c1, c2, r_10, hallows, er_10, rfl⟩ | ⟨c1, c2, r_10, hallows, er_10, rfl⟩
  · rw [er_5] at hallows; exact Or.inl ⟨c1, hallows⟩
  · rw [er_5] at hallows; exact Or.inl ⟨c1, hallows⟩
  · rw [er_8] at hallows; exact Or.inr (Or.inl ⟨c1, hallows⟩)
  · rw [er_8] at hallows; exact Or.inr (Or.inl ⟨c1, hallows⟩)
  · rw [er_10] at hallows; exact Or.inr (Or.inr ⟨c1, c2, hallows⟩)
  · rw [er_10] at hallows; exact Or.inr (Or.inr ⟨c1, c2, hallows⟩)
theorem r_refuse {A : AA} {cd pk p rs : Int32} {A' : AA} {cdz pkz : Int32} {c : Nat → Int32} (h : D_X10_refuse A cd pk p rs A' cdz pkz) (hpk : 0 ≤ pk.toInt ∧ pk.toInt ≤ 24) : ∃ (A1 : AA) (v : Int32), EMR A A1 pk pkz (peerT p) 6 (A 43 24) 0 rs (-1) 0 c ∧ ((¬ rs.toInt = 4 ∧ v = 0) ∨ (rs.toInt = 4 ∧ v = 4)) ∧ D_X10_failPair A1 cd pkz p 0 v A' cd pkz := by
  rcases h with ⟨ur_2, r_2, hemit, c1, c2, c3, c4, c5, v_3, c6, ur_6, hfailPair, c7, c8, c9, rfl, rfl, rfl⟩
  exact ⟨_, _, EMR.none hemit hpk, c6, hfailPair⟩
/-- a request is refused, and the pair fails -/
theorem s_refuse {x q : Nat} {G : Nat → Nat} {t0 t1 t2 : Int32} {B : AA} {R : RR} {A : AA} {pk cd : Int32} (h : SIM x t0 t1 t2 B R A pk) (hV : RW A pk) (hq : q < 4) {p nm rs c2 : Int32} (hp : (q : Int) = p.toInt) (enm : nm = A 43 24) (bnm : 0 ≤ (A 43 24).toInt ∧ (A 43 24).toInt ≤ 63) (hrs : 1 ≤ rs.toInt ∧ rs.toInt ≤ 4) (hc2 : (¬ rs.toInt = 4 ∧ c2 = 5) ∨ (rs.toInt = 4 ∧ c2 = 4)) {U Z : AA} (hc : C_X8_refuse G B R (x + 85 + 17 * q) nm rs U) (hf : C_X3_fail G U R (x + 84 + 17 * q) 5 c2 Z) {A' : AA} {cdz pkz : Int32} (hd : D_X10_refuse A cd pk p rs A' cdz pkz) : SIM x t0 t1 t2 Z R A' pkz := by
  obtain ⟨A1, v, d1, d2, d3⟩ := r_refuse (c := fun _ => 0) hd hV.2.2
  obtain ⟨n, hn, h24⟩ := h.np hV
  have hC := (h.2.2.2.2.2 q hq).1
  have eto : B (x + 85 + 17 * q) 0 = peerT p := i32_eq (by rw [hC.2.2.2.2.1, peer_e hq hp])
  have hE := e_refuse (c := fun _ => 0) h.1 hq hn h24 hc
  rw [eto, enm] at hE
  have i6 : (6 : Int32).toInt = 6 := by decide
  obtain ⟨m1, m2, -, -, -, -⟩ := h.em hV hE d1 ⟨bnm, by omega, fun e => by omega, fun _ => hrs, fun e => by omega, fun e => by omega⟩
  refine (m1.fail (st := 0) (rs := v) m2 hq hp (by decide) ?_ hf d3).2.2.1
  rcases d2 with ⟨e1, rfl⟩ | ⟨e1, rfl⟩
  · rcases hc2 with ⟨-, rfl⟩ | ⟨e2, -⟩
    · decide
    · exact absurd e2 e1
  · rcases hc2 with ⟨e2, -⟩ | ⟨-, rfl⟩
    · exact absurd e1 e2
    · decide
end
section
theorem r_cplo {A : AA} {cd pk q kd se st le : Int32} {Z : AA} {cdz pkz : Int32} {n : Nat} (h : D_X10_complete A cd pk q kd se st le Z cdz pkz) (hn : (n : Int) = q.toInt % 2) : ∀ j, j ≠ 8 → j ≠ 9 → Z j = A j := by
  obtain ⟨-, -, h⟩ := r_complete h hn
  rcases h with ⟨a, rfl⟩ | ⟨a, m, c, b1, b2, b3, rfl⟩
  · exact fun _ _ _ => rfl
  · exact fun j h1 h2 => by rw [uA_n h2, uA_n h1]
theorem r_dropReceive {X : AA} {cd pk p : Int32} {Z : AA} {cdz pkz : Int32} {n : Nat} (h : D_X10_dropReceive X cd pk p Z cdz pkz) (hn : (n : Int) = p.toInt) : (∃ x : Int32, x = X 30 n - 1 ∧ x.toInt = (X 30 n).toInt - 1 ∧ Z 30 = upd (X 30) n x) ∧ (∀ j, 32 ≤ j → j ≤ 35 → ∃ b : Nat, (b : Int) = 4 * (n : Int) + (X 30 n).toInt - 1 ∧ Sh (X j) (Z j) (4 * n) b) ∧ ∀ j, ¬ (j = 30 ∨ 32 ≤ j ∧ j ≤ 35) → Z j = X j := by
  rcases h with ⟨n_1, hn_1, x_7, ex_7, fx_7, g_8, rfl, x_9, ex_9, fx_9, ix_10, u_10, c1, c2, c3, x_13, ex_13, fx_13, c4, rfl, rfl, rfl⟩
  obtain rfl : n_1 = n := by omega
  obtain ⟨b, hb, s1, s2, s3, s4⟩ := c3
  refine ⟨⟨x_7, ex_7, fx_7, rfl⟩, fun j h1 h2 => ⟨b, by omega, ?_⟩, fun j hj => ?_⟩
  · rcases (show j = 32 ∨ j = 33 ∨ j = 34 ∨ j = 35 by omega) with rfl | rfl | rfl | rfl
    · exact s1
    · exact s2
    · exact s3
    · exact s4
  · rw [uA_n (by omega), uA_n (by omega), uA_n (by omega), uA_n (by omega), uA_n (by omega)]
/-- cells came for the first receive -/
theorem SIM.came {x q r : Nat} {t0 t1 t2 v : Int32} {B : AA} {R : RR} {A : AA} {pk : Int32} (h : SIM x t0 t1 t2 B R A pk) (hV : RW A pk) (hq : q < 4) (hr : ∀ hd : Nat, (hd : Int) = (B (x + 88 + 17 * q) 3).toInt → r = x + 90 + 17 * q + hd % 4) : SIM x t0 t1 t2 (uA B r (upd (B r) 9 v)) R (uA A 35 (upd (A 35) (4 * q) v)) pk ∧ RW (uA A 35 (upd (A 35) (4 * q) v)) pk := by
  have hh := h
  obtain ⟨-, -, -, -, hN, hPQ⟩ := hh
  obtain ⟨hC, hPS, hRQ, hRV, hAD⟩ := hPQ q hq
  obtain ⟨hd, g1, g2, g3, g4, g5⟩ := hRV
  have er := hr hd g2
  have c4 := hV.2.1 q hq
  refine ⟨h.prw hV hq (n := 0) (by omega) (fun a k1 k2 k3 => uA_n (by omega)) (fun m hm => (hN m hm).cg (uA_n (by omega)) (uA_n (by omega)) rfl (fun _ _ _ => rfl) (hV.1 m hm).2) ⟨?_, ?_, ?_, ?_, ?_⟩ (fun q' hne => ⟨fun j k1 k2 => ?_, fun j hj i hi => ?_, fun j hj i hi => by rw [uA_n (by omega)]⟩) (fun j k1 k2 k3 => uA_n (by omega)), hV.cg rfl rfl rfl⟩
  · exact hC.cg (fun j _ => by rw [uA_n (by omega)]) (by rw [uA_n (by omega)]) (by rw [uA_n (by omega)]) (by rw [uA_n (by omega)])
  · exact hPS.cg (uA_n (by omega)) (uA_n (by omega)) (uA_n (by omega)) (fun j hj => by rw [uA_n (by omega)])
  · exact hRQ.cg (uA_n (by omega)) (fun i _ => uA_n (by omega)) rfl rfl (fun j k1 k2 i hi => by rw [uA_n (by omega)]) c4.1.2
  · refine ⟨hd, g1, by rw [uA_n (by omega)]; exact g2, by rw [uA_n (by omega)]; exact g3, by rw [uA_n (by omega)]; exact g4, fun i hi => ?_⟩
    have hi : (i : Int) < (A 30 q).toInt := hi
    have w := g5 i hi
    by_cases e : i = 0
    · subst e
      have ea : x + 90 + 17 * q + (hd + 0) % 4 = r := by rw [er]; rfl
      rw [ea] at w ⊢
      rw [uA_s]
      obtain ⟨w0, w1, w2, w3, w4⟩ := w
      refine ⟨w0, w1, w2, w3, ?_⟩
      show upd (B r) 9 v 9 = upd (A 35) (4 * q) v (4 * q + 0)
      rw [upd_s, Nat.add_zero, upd_s]
    · rw [uA_n (by omega)]
      refine w.cg rfl (fun j k1 k2 => ?_)
      by_cases e2 : j = 35
      · subst e2; exact upd_n (by omega)
      · rw [uA_n e2]
  · exact hAD.cg (uA_n (by omega)) (uA_n (by omega)) rfl (fun _ _ => rfl) (fun _ _ => rfl)
  · by_cases e2 : j = 35
    · exact Or.inr (Or.inr (by omega))
    · exact Or.inl (by rw [uA_n e2])
  · by_cases e2 : j = 35
    · subst e2; exact upd_n (by omega)
    · rw [uA_n e2]
/-- the first receive is done -/
theorem SIM.vdone {x q : Nat} {G : Nat → Nat} {t0 t1 t2 : Int32} {B : AA} {R : RR} {A A' : AA} {pk : Int32} (h : SIM x t0 t1 t2 B R A pk) (hV : RW A pk) (hq : q < 4) {p : Int32} (hp : (q : Int) = p.toInt) (h30 : 1 ≤ (A 30 q).toInt) {Z : AA} (hc : C_X5_completeFirst G B R (x + 88 + 17 * q) 0 Z) (hcp : CPL (A 8) (A 9) (q % 2) p 4 (A 34 (4 * q)) 0 (A 35 (4 * q)) (A' 8) (A' 9)) {v : Int32} (ev : v = A 30 q - 1) (evt : v.toInt = (A 30 q).toInt - 1) (e30 : A' 30 = upd (A 30) q v) (hsh : ∀ j, 32 ≤ j → j ≤ 35 → ∃ b : Nat, (b : Int) = 4 * (q : Int) + (A 30 q).toInt - 1 ∧ Sh (A j) (A' j) (4 * q) b) (ho : ∀ j, ¬ (j = 8 ∨ j = 9 ∨ j = 30 ∨ 32 ≤ j ∧ j ≤ 35) → A' j = A j) : SIM x t0 t1 t2 Z R A' pk ∧ RW A' pk ∧ (∀ a, a ≠ x + 56 + 10 * (q % 2) → a ≠ x + 59 + 10 * (q % 2) → a ≠ x + 88 + 17 * q → Z a = B a) := by
  have hh := h
  obtain ⟨hS, -, -, -, hN, hPQ⟩ := hh
  obtain ⟨hC, hPS, hRQ, hRV, hAD⟩ := hPQ q hq
  obtain ⟨hd, g1, g2, g3, g4, g5⟩ := hRV
  have c4 := hV.2.1 q hq
  have T0 := STK.rf (n := q % 2) (K := x + 88 + 17 * q) hN hV.1 g2 g1
  have w := g5 0 (by omega)
  have ep2 : B (x + 88 + 17 * q) 0 = p := i32_eq (by rw [hC.2.2.2.2.2.2]; exact hp)
  obtain ⟨s1, s2, s3, s4, s5, s6, s7⟩ := stepV2 hS hq hp ep2 T0 w hc hcp
  rw [g3] at s6
  have hI3 : I3 (A' 8) := s2
  refine ⟨h.prw hV hq (n := q % 2) (by omega) (fun a k1 k2 k3 => s3 a k1 k2 (by omega)) s1 ⟨?_, ?_, ?_, ?_, ?_⟩ (fun q' hne => ⟨fun j k1 k2 => ?_, fun j hj i hi => ?_, fun j hj i hi => by rw [ho j (by omega)]⟩) (fun j k1 k2 k3 => ho j (by omega)), ⟨hI3, fun q' hq' => ?_, hV.2.2⟩, s3⟩
  · exact hC.cg (fun j _ => by rw [s3 _ (by omega) (by omega) (by omega)]) (by rw [s3 _ (by omega) (by omega) (by omega)]) (by rw [s3 _ (by omega) (by omega) (by omega)]) (s7 0 (by decide) (by decide))
  · exact hPS.cg (s3 _ (by omega) (by omega) (by omega)) (s3 _ (by omega) (by omega) (by omega)) (s3 _ (by omega) (by omega) (by omega)) (fun j hj => by rw [ho j (by omega)])
  · exact hRQ.cg (s3 _ (by omega) (by omega) (by omega)) (fun i _ => s3 _ (by omega) (by omega) (by omega)) (by rw [ho 20 (by omega)]) (by rw [ho 21 (by omega)]) (fun j k1 k2 i hi => by rw [ho j (by omega)]) c4.1.2
  · refine ⟨(hd + (0 + 1)) % 4, by omega, s5.symm, i32_eq (by rw [s6, e30, upd_s, evt]; omega), by rw [s7 5 (by decide) (by decide), ho 31 (by omega)]; exact g4, fun i hi => ?_⟩
    rw [e30, upd_s, evt] at hi
    have w := g5 (i + 1) (by omega)
    have ea : x + 90 + 17 * q + ((hd + (0 + 1)) % 4 + i) % 4 = x + 90 + 17 * q + (hd + (i + 1)) % 4 := by omega
    rw [ea]
    refine w.cg (s3 _ (by omega) (by omega) (by omega)) (fun j k1 k2 => ?_)
    obtain ⟨b, hb, hs⟩ := hsh j k1 k2
    rw [hs, if_pos (by omega), Nat.add_assoc]
  · exact hAD.cg (s3 _ (by omega) (by omega) (by omega)) (s3 _ (by omega) (by omega) (by omega)) (by rw [ho 37 (by omega)]) (fun i hi => by rw [ho 38 (by omega)]) (fun i hi => by rw [ho 39 (by omega)])
  · by_cases e1 : j = 30
    · subst e1; exact Or.inl (by rw [e30, upd_n hne])
    by_cases e2 : 32 ≤ j ∧ j ≤ 35
    · exact Or.inr (Or.inr e2)
    exact Or.inl (by rw [ho j (by omega)])
  · by_cases e2 : 32 ≤ j ∧ j ≤ 35
    · obtain ⟨b, hb, hs⟩ := hsh j e2.1 e2.2
      rw [hs, if_neg (by omega)]
    · rw [ho j (by omega)]
  · rw [ho 20 (by omega), e30]
    refine ⟨(hV.2.1 q' hq').1, ?_⟩
    by_cases e : q' = q
    · subst e; rw [upd_s, evt]; omega
    · rw [upd_n e]; exact (hV.2.1 q' hq').2
/-- the last part of a message was taken -/
theorem s_sendLast {x q : Nat} {G : Nat → Nat} {t0 t1 t2 : Int32} {B : AA} {R : RR} {A : AA} {pk cd : Int32} (h : SIM x t0 t1 t2 B R A pk) (hV : RW A pk) (hq : q < 4) (hst : (A 10 q).toInt = 1) {p nm : Int32} (hp : (q : Int) = p.toInt) (h30 : 1 ≤ (A 30 q).toInt) (bnm : 0 ≤ nm.toInt ∧ nm.toInt ≤ 63) {A4 A5 A6 A7 A8 : AA} {c1 k1 c2 c3 k3 c4 k4 c5 k5 c6 k6 pk' kse kle : Int32} (ha : D_X10_accept A cd pk p 1 A4 c1 k1) (hk : D_X10_ack A4 c2 pk p nm A5 c3 pk') (hse : kse = A 34 (4 * q)) (hle : kle = A 35 (4 * q)) (hcp : D_X10_complete A5 c4 k4 p 4 kse 0 kle A6 c5 k5) (h7 : A7 = uA A6 36 (upd (A6 36) q 0)) (hdr : D_X10_dropReceive A7 c6 k6 p A8 c5 k3) {U V Z : AA} (hcf : C_X5_completeFirst G B R (x + 88 + 17 * q) 0 U) (hadv : C_X8_advance G (uA U (x + 85 + 17 * q) (upd (U (x + 85 + 17 * q)) 5 0)) R (x + 85 + 17 * q) 1 V) (hack : C_X8_acknowledge G V R (x + 85 + 17 * q) nm Z) : SIM x t0 t1 t2 Z R A8 pk' := by
  subst hse hle
  obtain ⟨p1, p2, p3, p4, p5, p6, p7, p8, p9, p10⟩ := (h.2.2.2.2.2 q hq).2.1
  obtain ⟨v, ev, e4⟩ := r_accept ha hp p6 (by decide)
  have hE := r_ack (c := fun _ => 0) hk hV.2.2
  have o5 := hE.oth
  have hC := r_cpl hcp (nd2 hp)
  have o6 := r_cplo hcp (nd2 hp)
  obtain ⟨⟨y, y1, y2, y3⟩, d2, d3⟩ := r_dropReceive hdr hp
  have x4 : ∀ j, j ≠ 14 → j ≠ 19 → A4 j = A j := fun j a b => by rw [e4, uA_n b, uA_n a]
  have x5 : ∀ j, j ≠ 14 → j ≠ 19 → (j < 41 ∨ 48 < j) → A5 j = A j := fun j a b c => (o5 j c).trans (x4 j a b)
  have x7 : ∀ j, j ≠ 36 → A7 j = A6 j := fun j a => by rw [h7, uA_n a]
  have x8 : ∀ j, j ≠ 8 → j ≠ 9 → ¬ (j = 30 ∨ 32 ≤ j ∧ j ≤ 35) → j ≠ 36 → A8 j = A5 j := fun j a b c d => (d3 j c).trans ((x7 j d).trans (o6 j a b))
  have a7 : ∀ j, (j = 30 ∨ 32 ≤ j ∧ j ≤ 35) → A7 j = A j := fun j c => (x7 j (by omega)).trans ((o6 j (by omega) (by omega)).trans (x5 j (by omega) (by omega) (by omega)))
  have e8 : A8 8 = A6 8 := (d3 8 (by omega)).trans (x7 8 (by omega))
  have e9 : A8 9 = A6 9 := (d3 9 (by omega)).trans (x7 9 (by omega))
  have e36 : A8 36 = upd (A 36) q 0 := by rw [d3 36 (by omega), h7, uA_s, o6 36 (by omega) (by omega), x5 36 (by omega) (by omega) (by omega)]
  rw [x5 8 (by omega) (by omega) (by omega), x5 9 (by omega) (by omega) (by omega)] at hC
  rw [a7 30 (by omega)] at y1 y2 y3
  -- the class's order
  obtain ⟨s1, s2, s3⟩ := h.vdone (A' := fun j => if j = 8 ∨ j = 9 ∨ j = 30 ∨ 32 ≤ j ∧ j ≤ 35 then A8 j else A j) hV hq hp h30 hcf (by
    show CPL _ _ _ _ _ _ _ _ (A8 8) (A8 9)
    rw [e8, e9]; exact hC) y1 y2 (by show A8 30 = _; exact y3) (fun j k1 k2 => by
    obtain ⟨b, hb, hs⟩ := d2 j k1 k2
    rw [a7 30 (by omega)] at hb
    rw [a7 j (by omega)] at hs
    refine ⟨b, hb, ?_⟩
    rw [if_pos (by omega)]; exact hs) (fun j hj => by rw [if_neg hj])
  have eS : U (x + 85 + 17 * q) = B (x + 85 + 17 * q) := s3 _ (by omega) (by omega) (by omega)
  have p2s := p2 hst
  obtain ⟨b1, b2⟩ := s1.rs (A' := uA (fun j => if j = 8 ∨ j = 9 ∨ j = 30 ∨ 32 ≤ j ∧ j ≤ 35 then A8 j else A j) 36 (upd (A 36) q 0)) (f := upd (U (x + 85 + 17 * q)) 5 0) s2 hq rfl (fun j hj => by rw [uA_n (by omega)]) (fun j k hk => by
    by_cases e : j = 36
    · subst e; exact upd_n hk
    · rw [uA_n e]) (by rw [eS]; exact p2s.2.2.2) (by rw [eS]; exact p5.1) upd_s.symm p6 p9 (by
    show B01 (upd (A 36) q 0 q)
    rw [upd_s]; exact Or.inl rfl)
  obtain ⟨f1, f2, f3⟩ := b1.adv b2 hq hst hadv (v := v) ev
  obtain ⟨n, hn, h24⟩ := f1.np f2
  have hCC := (f1.2.2.2.2.2 q hq).1
  have eto : V (x + 85 + 17 * q) 0 = peerT p := i32_eq (by rw [hCC.2.2.2.2.1, peer_e hq hp])
  have hEC := e_ack (c := fun _ => 0) f1.1 hq hn h24 hack
  rw [eto] at hEC
  have i5 : (5 : Int32).toInt = 5 := by decide
  obtain ⟨m1, -, -, -⟩ := f1.emit f2 (A0 := A4) (fun j a b => by rw [x4 j (by omega) (by omega), uA_n (by omega), uA_n (by omega), uA_n (by omega), if_neg (by omega)]) hEC hE ⟨bnm, by omega, fun e => by omega, fun e => by omega, fun e => by omega, fun e => by omega⟩
  have fin : ∀ {X Y : AA}, X = Y → SIM x t0 t1 t2 Z R X pk' → SIM x t0 t1 t2 Z R Y pk' := fun e k => e ▸ k
  refine fin ?_ m1
  funext j
  by_cases k1 : 41 ≤ j ∧ j ≤ 48
  · rw [mixF_i k1, x8 j (by omega) (by omega) (by omega) (by omega)]
  rw [mixF_o k1]
  by_cases k2 : j = 19
  · subst k2
    rw [uA_s, x8 19 (by omega) (by omega) (by omega) (by omega), o5 19 (by omega), e4, uA_s]
    rfl
  rw [uA_n k2]
  by_cases k3 : j = 14
  · subst k3
    rw [uA_s, x8 14 (by omega) (by omega) (by omega) (by omega), o5 14 (by omega), e4]
    rfl
  rw [uA_n k3]
  by_cases k4 : j = 36
  · subst k4
    rw [uA_s, e36]
  rw [uA_n k4]
  by_cases k5 : j = 8 ∨ j = 9 ∨ j = 30 ∨ 32 ≤ j ∧ j ≤ 35
  · rw [if_pos k5]
  · rw [if_neg k5, x8 j (by omega) (by omega) (by omega) k4, x5 j k3 k2 (by omega)]
end
section
theorem bit1 {m : Int32} (h : 0 ≤ m.toInt ∧ m.toInt ≤ 3) : ((m &&& 1).toInt = 0 ↔ ¬ (m - m / 2 * 2).toInt = 1) ∧ ((m &&& 2).toInt = 0 ↔ m.toInt < 2) := by
  obtain ⟨j, hj, rfl⟩ := vp_in_of (x := m) (n := 4) (vp_in_iff.mpr ⟨h.1, by omega⟩) (by decide)
  rcases (show j = 0 ∨ j = 1 ∨ j = 2 ∨ j = 3 by omega) with rfl | rfl | rfl | rfl <;> decide
theorem e_isFirst {G : Nat → Nat} {B : AA} {R : RR} {a : Nat} {r : Int32} (h : C_X2_isFirst G B R a r) : (r.toInt = 0 ∧ (B a 4 &&& 1).toInt = 0) ∨ (r.toInt = 1 ∧ ¬ (B a 4 &&& 1).toInt = 0) := by
  rcases h with ⟨x_2, ex_2, fx_2, rfl⟩ | ⟨x_2, ex_2, c1, rfl⟩
  · rw [ex_2] at fx_2; exact Or.inl ⟨by decide, fx_2⟩
  · rw [ex_2] at c1; exact Or.inr ⟨by decide, c1⟩
theorem e_isLast {G : Nat → Nat} {B : AA} {R : RR} {a : Nat} {r : Int32} (h : C_X2_isLast G B R a r) : (r.toInt = 0 ∧ (B a 4 &&& 2).toInt = 0) ∨ (¬ r.toInt = 0 ∧ ¬ (B a 4 &&& 2).toInt = 0) := by
  rcases h with ⟨x_2, ex_2, fx_2, rfl⟩ | ⟨x_2, ex_2, c1, rfl⟩
  · rw [ex_2] at fx_2; exact Or.inl ⟨by decide, fx_2⟩
  · rw [ex_2] at c1; exact Or.inr ⟨by decide, c1⟩
theorem fst_t {m v y : Int32} (hm : 0 ≤ m.toInt ∧ m.toInt ≤ 3) (ey : y = m - m / 2 * 2) (h : ((¬ y.toInt = 1) ∧ v = 0) ∨ ((y.toInt = 1) ∧ v = 1)) {r : Int32} (hr : (r.toInt = 0 ∧ (m &&& 1).toInt = 0) ∨ (r.toInt = 1 ∧ ¬ (m &&& 1).toInt = 0)) : v.toInt = r.toInt := by
  have b := (bit1 hm).1
  have i0 := i_0
  have i1 := i_1t
  subst ey
  rcases h with ⟨a, rfl⟩ | ⟨a, rfl⟩
  · rcases hr with ⟨c, d⟩ | ⟨c, d⟩
    · omega
    · exact absurd (b.mpr a) d
  · rcases hr with ⟨c, d⟩ | ⟨c, d⟩
    · exact absurd a (b.mp d)
    · omega
/-- a SEND's packet that is expected -/
theorem s_takeSend {x q tk : Nat} {G : Nat → Nat} {t0 t1 t2 : Int32} {B : AA} {R : RR} {A : AA} {pk cd : Int32} (h : SIM x t0 t1 t2 B R A pk) (hV : RW A pk) (hq : q < 4) (hst : (A 10 q).toInt = 1) {p : Int32} (hp : (q : Int) = p.toInt) (htk : R (x + 1) 2 = x + 3 + 2 * tk) (htk6 : tk < 26) (hT : TKP x tk B A) (hk0 : (A 42 24).toInt = 0) (h8 : (A 36 q).toInt = 0 ∨ 1 ≤ (A 30 q).toInt) (h5 : 0 ≤ (A 32 (4 * q)).toInt ∧ 0 ≤ (A 35 (4 * q)).toInt ∧ (A 35 (4 * q)).toInt ≤ (A 33 (4 * q)).toInt ∧ (A 32 (4 * q)).toInt + (A 33 (4 * q)).toInt ≤ 32) {U : AA} {r : Int32} (hc : C_X8_takeSend G B R (x + 85 + 17 * q) (x + 3 + 2 * tk) U r) {Z : AA} (hf : (r.toInt = 0 ∧ Z = U) ∨ (¬ r.toInt = 0 ∧ C_X3_fail G U R (x + 84 + 17 * q) 5 r Z)) {A' : AA} {cdz pkz : Int32} (hd : D_X10_freshSend A cd pk p A' cdz pkz) : SIM x t0 t1 t2 Z R A' pkz := by
  have hh := h
  obtain ⟨hS, -, -, -, -, hPQ⟩ := hh
  obtain ⟨hC, hPS, -, hRV, -⟩ := hPQ q hq
  obtain ⟨p1, p2, p3, p4, p5, p6, p7, p8, p9, p10⟩ := hPS
  have p2s := p2 hst
  obtain ⟨hd4, g1, g2, g3, g4, g5⟩ := hRV
  have g3i := congrArg Int32.toInt g3
  have hT0 := hT
  obtain ⟨⟨y0, y1, y2, y3, y4, y5, y6⟩, yc, ⟨y7, y8, y9, -, y11, -⟩⟩ := hT
  have ycs := yc (Or.inl hk0)
  have ysz := y11 (Or.inl hk0)
  have ymk := y9 hk0
  have y3i := congrArg Int32.toInt y3
  have i0 := i_0
  have i1 := i_1t
  have i2 := i_2
  have i4 := i_4
  have i5 : (5 : Int32).toInt = 5 := by decide
  have i6 : (6 : Int32).toInt = 6 := by decide
  have eto : B (x + 85 + 17 * q) 0 = peerT p := i32_eq (by rw [hC.2.2.2.2.1, peer_e hq hp])
  have p5i := congrArg Int32.toInt p5.2
  have hsh := hS.2.2.2.2.2.1 q hq
  obtain ⟨np, hnp, h24⟩ := h.np hV
  -- begun
  obtain ⟨s9, v9⟩ := h.rs (A' := uA A 36 (upd (A 36) q 1)) (f := upd (B (x + 85 + 17 * q)) 5 1) hV hq rfl (fun j hj => by rw [uA_n (by omega)]) (fun j k hk => by
    by_cases e : j = 36
    · subst e; exact upd_n hk
    · rw [uA_n e]) p2s.2.2.2 p5.1 upd_s.symm p6 p9 (by
    show B01 (upd (A 36) q 1 q)
    rw [upd_s]; exact Or.inr rfl)
  have nak : ∀ {U : AA}, C_X8_refuse G B R (x + 85 + 17 * q) (B (x + 3 + 2 * tk) 2) 2 U → ∀ {A2 : AA} {pk2 : Int32}, EMR A A2 pk pk2 (peerT p) 6 (A 43 24) 0 2 (-1) 0 (fun _ => 0) → SIM x t0 t1 t2 U R A2 pk2 := fun {U} hr {A2 pk2} hE => by
    have hEC := e_refuse (c := fun _ => 0) hS hq hnp h24 hr
    rw [eto, y2] at hEC
    exact (h.em hV hEC hE ⟨y7, by omega, fun e => by omega, fun _ => by omega, fun e => by omega, fun e => by omega⟩).1
  -- the row of the first receive
  have hrow : ∀ {rr : Nat}, C_X5_at G (uA B (x + 85 + 17 * q) (upd (B (x + 85 + 17 * q)) 5 1)) R (x + 88 + 17 * q) 0 rr → 1 ≤ (A 30 q).toInt → rr = x + 90 + 17 * q + hd4 % 4 ∧ RWV (B rr) A (4 * q) := fun hat hn => by
    have er := e_atV hS hq hat (h := hd4) (by rw [uA_n (by omega)]; exact g2) (k := 0) (by decide)
    rw [Nat.add_zero] at er
    have w := g5 0 (by omega)
    rw [Nat.add_zero, Nat.add_zero, ← er] at w
    exact ⟨er, w⟩
  -- cells come
  have came : ∀ {rr : Nat} {room f cm : Int32} {U27 : AA} {to : Int32} {c1 k1 : Int32} {ur : Nat → Int32}, 1 ≤ (A 30 q).toInt → C_X5_at G (uA B (x + 85 + 17 * q) (upd (B (x + 85 + 17 * q)) 5 1)) R (x + 88 + 17 * q) 0 rr → room = B rr 3 - B rr 9 → (B (x + 3 + 2 * tk) 3).toInt ≤ room.toInt → f = B rr 2 + B rr 9 → C_X2_unload G (uA B (x + 85 + 17 * q) (upd (B (x + 85 + 17 * q)) 5 1)) R (x + 3 + 2 * tk) (x + 56 + 10 * (q % 2)) f room U27 → cm = B rr 9 + B (x + 3 + 2 * tk) 3 → to.toInt = 32 * (p.toInt % 2) + (A 32 (4 * q)).toInt + (A 35 (4 * q)).toInt → D_X10_takeCells (uA A 36 (upd (A 36) q 1)) cd pk to (A 44 24) (uA (uA A 36 (upd (A 36) q 1)) 4 ur) c1 k1 → ∀ {n28 : Nat} {x51 : Int32}, n28 = 4 * q → x51 = A 35 n28 + A 44 24 → SIM x t0 t1 t2 (uA U27 rr (upd (U27 rr) 9 cm)) R (uA (uA (uA A 36 (upd (A 36) q 1)) 4 ur) 35 (upd (A 35) n28 x51)) pk ∧ RW (uA (uA (uA A 36 (upd (A 36) q 1)) 4 ur) 35 (upd (A 35) n28 x51)) pk ∧ (uA U27 rr (upd (U27 rr) 9 cm)) (x + 3 + 2 * tk) = B (x + 3 + 2 * tk) := by
    intro rr room f cm U27 to c1 k1 ur hn hat eroom hroom ef hu ecm eto2 htc n28 x51 e28 e51
    subst e28
    obtain ⟨er, w⟩ := hrow hat hn
    obtain ⟨w0, w1, w2, w3, w4⟩ := w
    have roomt : room.toInt = (A 33 (4 * q)).toInt - (A 35 (4 * q)).toInt := by rw [eroom, w3, w4]; exact s_sub (by omega) (by omega)
    have ft : f.toInt = (A 32 (4 * q)).toInt + (A 35 (4 * q)).toInt := by rw [ef, w2, w4]; exact add_t (by omega) (by omega)
    obtain ⟨f0, hf0⟩ : ∃ f0 : Nat, (f0 : Int) = f.toInt := ⟨f.toInt.toNat, by omega⟩
    have h7 := hS.2.2.2.2.2.2.2.2.2 tk htk6
    have eB : uA B (x + 85 + 17 * q) (upd (B (x + 85 + 17 * q)) 5 1) (x + 3 + 2 * tk) = B (x + 3 + 2 * tk) := uA_n (by omega)
    obtain ⟨wn, hw, eU⟩ := e_unload hu (by rw [h7]; omega) (hS.2.1 (q % 2) (by omega)).2.1 (by omega) (by omega) hf0 (by omega) (by rw [eB]; omega) (Or.inr (by omega))
    rw [eB, y3i] at hw
    have hwn : (wn : Int) = (A 44 24).toInt := by
      rcases hw with ⟨-, e⟩ | ⟨-, -, e⟩
      · omega
      · rw [if_pos (by omega)] at e; exact e
    obtain ⟨-, -, eA⟩ := r_take htc (f0 := 32 * (q % 2) + f0) (w := wn) (by omega) hwn (by omega)
    have s27 := s9.cells v9 (nd := q % 2) (f0 := f0) (w := wn) (by omega) (Or.inr (by omega)) (g := (uA B (x + 85 + 17 * q) (upd (B (x + 85 + 17 * q)) 5 1)) (x + 3 + 2 * tk + 1)) (g' := fun k => A 48 (96 + k)) (fun k hk => by
      rw [uA_n (by omega), show x + 3 + 2 * tk + 1 = x + 4 + 2 * tk by omega]
      exact ycs k (by omega) (by omega))
    have eA' : uA (uA A 36 (upd (A 36) q 1)) 4 ur = uA (uA A 36 (upd (A 36) q 1)) 4 (cpy ((uA A 36 (upd (A 36) q 1)) 4) (32 * (q % 2) + f0) wn (fun k => A 48 (96 + k))) := eA
    rw [← eA', ← eU] at s27
    have ecm2 : cm = x51 := by rw [ecm, e51, w4, y3]
    subst ecm2
    have s33 := s27.came (v := cm) (v9.cg rfl rfl rfl) hq (r := rr) (fun hd hh => by
      rw [eU, uA_n (by omega), uA_n (by omega)] at hh
      obtain rfl : hd = hd4 := by omega
      exact er)
    refine ⟨s33.1, s33.2, ?_⟩
    rw [uA_n (by omega), eU, uA_n (by omega), eB]
  rcases hd with ⟨n_1d, hn_1d, x_4d, ex_4d, v_5d, c1d, c2d, c3d, c4d, ur_18d, r_18d, hemitd, c5d, c6d, c7d, c8d, c9d, c10d, rfl, rfl, rfl⟩ | ⟨n_1d, hn_1d, x_4d, ex_4d, v_5d, c1d, c2d, c3d, c4d, ur_18d, r_18d, hemitd, c5d, c6d, c7d, c8d, c9d, c10d, n_22d, hn_22d, g_21d, rfl, rfl, rfl, rfl⟩ | ⟨n_1d, hn_1d, x_4d, ex_4d, v_5d, c1d, c2d, u_10d, c3d, c4d, x_24d, ex_24d, fx_24d, g_25d, rfl, n_28d, hn_28d, x_35d, ex_35d, fx_35d, c5d, x_41d, ex_41d, fx_41d, x_42d, ex_42d, fx_42d, x_44d, ex_44d, fx_44d, x_46d, ex_46d, fx_46d, ur_48d, htakeCellsd, x_51d, ex_51d, fx_51d, g_52d, rfl, ur_53d, hacceptd, ur_55d, hackd, c6d, c7d, c8d, c9d, ur_61d, hcompleted, c10d, g_62d, rfl, ur_65d, hdropReceived, c11d, c12d, rfl, rfl, rfl⟩ | ⟨n_1d, hn_1d, x_4d, ex_4d, v_5d, c1d, c2d, u_10d, c3d, c4d, x_24d, ex_24d, fx_24d, g_25d, rfl, n_28d, hn_28d, x_35d, ex_35d, fx_35d, c5d, x_41d, ex_41d, fx_41d, x_42d, ex_42d, fx_42d, x_44d, ex_44d, fx_44d, x_46d, ex_46d, fx_46d, ur_48d, htakeCellsd, x_51d, ex_51d, fx_51d, g_52d, rfl, ur_53d, hacceptd, ur_55d, hackd, c6d, c7d, c8d, c9d, rfl, rfl, rfl⟩ | ⟨n_1d, hn_1d, x_4d, ex_4d, v_5d, c1d, c2d, u_10d, c3d, c4d, x_24d, ex_24d, fx_24d, g_25d, rfl, n_28d, hn_28d, x_35d, ex_35d, fx_35d, c5d, ur_69d, hrefused, c6d, c7d, c8d, c9d, c10d, rfl, rfl, rfl⟩ | ⟨n_1d, hn_1d, x_4d, ex_4d, v_5d, c1d, c2d, rfl, rfl, rfl⟩
  · obtain rfl : n_1d = q := by omega
    unfold C_X8_takeSend at hc
    rw [hsh.2.2.1, hsh.1] at hc
    rcases hc with ⟨r_2, hisFirst, c1, c2, B_9, rfl, r_12, hat, x_17, ex_17, c3, x_25, ex_25, U_27, hF, hunload, x_32, ex_32, B_33, rfl, r_35, hisLast, c4, U_39, hF_1, hadvance, U_44, hF_2, hacknowledge, eZ, rfl⟩ | ⟨r_2, hisFirst, c1, c2, B_9, rfl, r_12, hat, x_17, ex_17, c3, x_25, ex_25, U_27, hF, hunload, x_32, ex_32, B_33, rfl, r_35, hisLast, c4, U_49, hF_1, hcompleteFirst, B_51, rfl, U_54, hF_2, hadvance, U_59, hF_3, hacknowledge, eZ, rfl⟩ | ⟨r_2, hisFirst, c1, c2, B_9, rfl, r_12, hat, x_17, ex_17, c3, U_63, hF, hrefuse, eZ, rfl⟩ | ⟨r_2, hisFirst, c1, c2, U_66, hF, hrefuse, eZ, rfl⟩ | ⟨r_2, hisFirst, c1, eZ, rfl⟩
    · skip
      have ef : v_5d.toInt = r_2.toInt := fst_t ymk ex_4d c1d (by have k := e_isFirst hisFirst; rw [y4] at k; exact k)
      exfalso; omega
    · skip
      have ef : v_5d.toInt = r_2.toInt := fst_t ymk ex_4d c1d (by have k := e_isFirst hisFirst; rw [y4] at k; exact k)
      exfalso; omega
    · skip
      have ef : v_5d.toInt = r_2.toInt := fst_t ymk ex_4d c1d (by have k := e_isFirst hisFirst; rw [y4] at k; exact k)
      exfalso; omega
    · skip
      have ef : v_5d.toInt = r_2.toInt := fst_t ymk ex_4d c1d (by have k := e_isFirst hisFirst; rw [y4] at k; exact k)
      have hz := (hf.resolve_right (fun e => e.1 i0)).2
      rw [hz, eZ]
      exact nak hrefuse (EMR.gen hemitd hV.2.2 (fun j hj => by rw [uA_n (by omega), uA_n (by omega), uA_n (by omega), uA_n (by omega), uA_n (by omega), uA_n (by omega), uA_n (by omega)]) ⟨rfl, rfl, rfl, rfl, rfl, rfl⟩ (Or.inl ⟨c10d, rfl, rfl⟩))
    · skip
      have ef : v_5d.toInt = r_2.toInt := fst_t ymk ex_4d c1d (by have k := e_isFirst hisFirst; rw [y4] at k; exact k)
      exfalso; omega
  · obtain rfl : n_1d = q := by omega
    unfold C_X8_takeSend at hc
    rw [hsh.2.2.1, hsh.1] at hc
    rcases hc with ⟨r_2, hisFirst, c1, c2, B_9, rfl, r_12, hat, x_17, ex_17, c3, x_25, ex_25, U_27, hF, hunload, x_32, ex_32, B_33, rfl, r_35, hisLast, c4, U_39, hF_1, hadvance, U_44, hF_2, hacknowledge, eZ, rfl⟩ | ⟨r_2, hisFirst, c1, c2, B_9, rfl, r_12, hat, x_17, ex_17, c3, x_25, ex_25, U_27, hF, hunload, x_32, ex_32, B_33, rfl, r_35, hisLast, c4, U_49, hF_1, hcompleteFirst, B_51, rfl, U_54, hF_2, hadvance, U_59, hF_3, hacknowledge, eZ, rfl⟩ | ⟨r_2, hisFirst, c1, c2, B_9, rfl, r_12, hat, x_17, ex_17, c3, U_63, hF, hrefuse, eZ, rfl⟩ | ⟨r_2, hisFirst, c1, c2, U_66, hF, hrefuse, eZ, rfl⟩ | ⟨r_2, hisFirst, c1, eZ, rfl⟩
    · skip
      have ef : v_5d.toInt = r_2.toInt := fst_t ymk ex_4d c1d (by have k := e_isFirst hisFirst; rw [y4] at k; exact k)
      exfalso; omega
    · skip
      have ef : v_5d.toInt = r_2.toInt := fst_t ymk ex_4d c1d (by have k := e_isFirst hisFirst; rw [y4] at k; exact k)
      exfalso; omega
    · skip
      have ef : v_5d.toInt = r_2.toInt := fst_t ymk ex_4d c1d (by have k := e_isFirst hisFirst; rw [y4] at k; exact k)
      exfalso; omega
    · skip
      have ef : v_5d.toInt = r_2.toInt := fst_t ymk ex_4d c1d (by have k := e_isFirst hisFirst; rw [y4] at k; exact k)
      have hz := (hf.resolve_right (fun e => e.1 i0)).2
      rw [hz, eZ]
      exact nak hrefuse (EMR.gen hemitd hV.2.2 (fun j hj => by rw [uA_n (by omega), uA_n (by omega), uA_n (by omega), uA_n (by omega), uA_n (by omega), uA_n (by omega), uA_n (by omega), uA_n (by omega)]) ⟨rfl, rfl, rfl, rfl, rfl, rfl⟩ (Or.inr ⟨n_22d, hn_22d, rfl, fun _ _ => rfl, fun e => by omega⟩))
    · skip
      have ef : v_5d.toInt = r_2.toInt := fst_t ymk ex_4d c1d (by have k := e_isFirst hisFirst; rw [y4] at k; exact k)
      exfalso; omega
  · obtain rfl : n_1d = q := by omega
    unfold C_X8_takeSend at hc
    rw [hsh.2.2.1, hsh.1] at hc
    rcases hc with ⟨r_2, hisFirst, c1, c2, B_9, rfl, r_12, hat, x_17, ex_17, c3, x_25, ex_25, U_27, hF, hunload, x_32, ex_32, B_33, rfl, r_35, hisLast, c4, U_39, hF_1, hadvance, U_44, hF_2, hacknowledge, eZ, rfl⟩ | ⟨r_2, hisFirst, c1, c2, B_9, rfl, r_12, hat, x_17, ex_17, c3, x_25, ex_25, U_27, hF, hunload, x_32, ex_32, B_33, rfl, r_35, hisLast, c4, U_49, hF_1, hcompleteFirst, B_51, rfl, U_54, hF_2, hadvance, U_59, hF_3, hacknowledge, eZ, rfl⟩ | ⟨r_2, hisFirst, c1, c2, B_9, rfl, r_12, hat, x_17, ex_17, c3, U_63, hF, hrefuse, eZ, rfl⟩ | ⟨r_2, hisFirst, c1, c2, U_66, hF, hrefuse, eZ, rfl⟩ | ⟨r_2, hisFirst, c1, eZ, rfl⟩
    · skip
      have ef : v_5d.toInt = r_2.toInt := fst_t ymk ex_4d c1d (by have k := e_isFirst hisFirst; rw [y4] at k; exact k)
      have hz := (hf.resolve_right (fun e => e.1 i0)).2
      rw [hz, eZ]
      obtain ⟨b1, b2, b3⟩ := came (by omega) hat ex_17 c3 ex_25 hunload ex_32 (by rw [fx_46d, fx_44d, fx_42d, fx_41d, show n_28d = 4 * n_1d by omega]) htakeCellsd (n28 := n_28d) (by omega) ex_51d
      have hl := e_isLast hisLast
      rw [b3, y4] at hl
      have hm := (bit1 ymk).2
      obtain ⟨v, ev, e4⟩ := r_accept hacceptd hp p6 (by decide)
      have hEa := r_ack (c := fun _ => 0) hackd b2.2.2
      have m24 : (ur_55d.2.2.2.2.1 24).toInt = (A 45 24).toInt := congrArg Int32.toInt (hEa.r24 45 (by decide) (by decide))
      exfalso; omega
    · skip
      have ef : v_5d.toInt = r_2.toInt := fst_t ymk ex_4d c1d (by have k := e_isFirst hisFirst; rw [y4] at k; exact k)
      have hz := (hf.resolve_right (fun e => e.1 i0)).2
      rw [hz, eZ]
      obtain ⟨b1, b2, b3⟩ := came (by omega) hat ex_17 c3 ex_25 hunload ex_32 (by rw [fx_46d, fx_44d, fx_42d, fx_41d, show n_28d = 4 * n_1d by omega]) htakeCellsd (n28 := n_28d) (by omega) ex_51d
      have hl := e_isLast hisLast
      rw [b3, y4] at hl
      have hm := (bit1 ymk).2
      obtain ⟨v, ev, e4⟩ := r_accept hacceptd hp p6 (by decide)
      have hEa := r_ack (c := fun _ => 0) hackd b2.2.2
      have m24 : (ur_55d.2.2.2.2.1 24).toInt = (A 45 24).toInt := congrArg Int32.toInt (hEa.r24 45 (by decide) (by decide))
      rw [y2] at hacknowledge
      exact s_sendLast b1 b2 hq hst hp c3d y7 hacceptd hackd (by rw [show n_28d = 4 * n_1d by omega]; rfl) (by show x_51d = upd (A 35) n_28d x_51d (4 * n_1d); rw [show 4 * n_1d = n_28d by omega, upd_s]) hcompleted (by first | rfl | (simp only [uA_u]; rfl)) hdropReceived hcompleteFirst hadvance hacknowledge
    · skip
      have ef : v_5d.toInt = r_2.toInt := fst_t ymk ex_4d c1d (by have k := e_isFirst hisFirst; rw [y4] at k; exact k)
      obtain ⟨er, w⟩ := hrow hat (by omega)
      have e35 : x_17.toInt = (A 33 (4 * n_1d)).toInt - (A 35 (4 * n_1d)).toInt := by rw [ex_17, w.2.2.2.1, w.2.2.2.2]; exact s_sub (by omega) (by omega)
      obtain rfl : n_28d = 4 * n_1d := by omega
      exfalso; omega
    · skip
      have ef : v_5d.toInt = r_2.toInt := fst_t ymk ex_4d c1d (by have k := e_isFirst hisFirst; rw [y4] at k; exact k)
      exfalso; omega
    · skip
      have ef : v_5d.toInt = r_2.toInt := fst_t ymk ex_4d c1d (by have k := e_isFirst hisFirst; rw [y4] at k; exact k)
      exfalso; omega
  · obtain rfl : n_1d = q := by omega
    unfold C_X8_takeSend at hc
    rw [hsh.2.2.1, hsh.1] at hc
    rcases hc with ⟨r_2, hisFirst, c1, c2, B_9, rfl, r_12, hat, x_17, ex_17, c3, x_25, ex_25, U_27, hF, hunload, x_32, ex_32, B_33, rfl, r_35, hisLast, c4, U_39, hF_1, hadvance, U_44, hF_2, hacknowledge, eZ, rfl⟩ | ⟨r_2, hisFirst, c1, c2, B_9, rfl, r_12, hat, x_17, ex_17, c3, x_25, ex_25, U_27, hF, hunload, x_32, ex_32, B_33, rfl, r_35, hisLast, c4, U_49, hF_1, hcompleteFirst, B_51, rfl, U_54, hF_2, hadvance, U_59, hF_3, hacknowledge, eZ, rfl⟩ | ⟨r_2, hisFirst, c1, c2, B_9, rfl, r_12, hat, x_17, ex_17, c3, U_63, hF, hrefuse, eZ, rfl⟩ | ⟨r_2, hisFirst, c1, c2, U_66, hF, hrefuse, eZ, rfl⟩ | ⟨r_2, hisFirst, c1, eZ, rfl⟩
    · skip
      have ef : v_5d.toInt = r_2.toInt := fst_t ymk ex_4d c1d (by have k := e_isFirst hisFirst; rw [y4] at k; exact k)
      have hz := (hf.resolve_right (fun e => e.1 i0)).2
      rw [hz, eZ]
      obtain ⟨b1, b2, b3⟩ := came (by omega) hat ex_17 c3 ex_25 hunload ex_32 (by rw [fx_46d, fx_44d, fx_42d, fx_41d, show n_28d = 4 * n_1d by omega]) htakeCellsd (n28 := n_28d) (by omega) ex_51d
      have hl := e_isLast hisLast
      rw [b3, y4] at hl
      have hm := (bit1 ymk).2
      obtain ⟨v, ev, e4⟩ := r_accept hacceptd hp p6 (by decide)
      have hEa := r_ack (c := fun _ => 0) hackd b2.2.2
      have m24 : (ur_55d.2.2.2.2.1 24).toInt = (A 45 24).toInt := congrArg Int32.toInt (hEa.r24 45 (by decide) (by decide))
      obtain ⟨f1, f2, f3⟩ := b1.adv b2 hq hst hadvance (v := v) ev
      rw [← e4] at f1 f2
      obtain ⟨n, hn, h24'⟩ := f1.np f2
      have hCC := (f1.2.2.2.2.2 n_1d hq).1
      have eto2 : U_39 (x + 85 + 17 * n_1d) 0 = peerT p := i32_eq (by rw [hCC.2.2.2.2.1, peer_e hq hp])
      have hEC := e_ack (c := fun _ => 0) f1.1 hq hn h24' hacknowledge
      rw [eto2, y2] at hEC
      exact (f1.em f2 hEC hEa ⟨y7, by omega, fun e => by omega, fun e => by omega, fun e => by omega, fun e => by omega⟩).1
    · skip
      have ef : v_5d.toInt = r_2.toInt := fst_t ymk ex_4d c1d (by have k := e_isFirst hisFirst; rw [y4] at k; exact k)
      have hz := (hf.resolve_right (fun e => e.1 i0)).2
      rw [hz, eZ]
      obtain ⟨b1, b2, b3⟩ := came (by omega) hat ex_17 c3 ex_25 hunload ex_32 (by rw [fx_46d, fx_44d, fx_42d, fx_41d, show n_28d = 4 * n_1d by omega]) htakeCellsd (n28 := n_28d) (by omega) ex_51d
      have hl := e_isLast hisLast
      rw [b3, y4] at hl
      have hm := (bit1 ymk).2
      obtain ⟨v, ev, e4⟩ := r_accept hacceptd hp p6 (by decide)
      have hEa := r_ack (c := fun _ => 0) hackd b2.2.2
      have m24 : (ur_55d.2.2.2.2.1 24).toInt = (A 45 24).toInt := congrArg Int32.toInt (hEa.r24 45 (by decide) (by decide))
      exfalso; omega
    · skip
      have ef : v_5d.toInt = r_2.toInt := fst_t ymk ex_4d c1d (by have k := e_isFirst hisFirst; rw [y4] at k; exact k)
      obtain ⟨er, w⟩ := hrow hat (by omega)
      have e35 : x_17.toInt = (A 33 (4 * n_1d)).toInt - (A 35 (4 * n_1d)).toInt := by rw [ex_17, w.2.2.2.1, w.2.2.2.2]; exact s_sub (by omega) (by omega)
      obtain rfl : n_28d = 4 * n_1d := by omega
      exfalso; omega
    · skip
      have ef : v_5d.toInt = r_2.toInt := fst_t ymk ex_4d c1d (by have k := e_isFirst hisFirst; rw [y4] at k; exact k)
      exfalso; omega
    · skip
      have ef : v_5d.toInt = r_2.toInt := fst_t ymk ex_4d c1d (by have k := e_isFirst hisFirst; rw [y4] at k; exact k)
      exfalso; omega
  · obtain rfl : n_1d = q := by omega
    unfold C_X8_takeSend at hc
    rw [hsh.2.2.1, hsh.1] at hc
    rcases hc with ⟨r_2, hisFirst, c1, c2, B_9, rfl, r_12, hat, x_17, ex_17, c3, x_25, ex_25, U_27, hF, hunload, x_32, ex_32, B_33, rfl, r_35, hisLast, c4, U_39, hF_1, hadvance, U_44, hF_2, hacknowledge, eZ, rfl⟩ | ⟨r_2, hisFirst, c1, c2, B_9, rfl, r_12, hat, x_17, ex_17, c3, x_25, ex_25, U_27, hF, hunload, x_32, ex_32, B_33, rfl, r_35, hisLast, c4, U_49, hF_1, hcompleteFirst, B_51, rfl, U_54, hF_2, hadvance, U_59, hF_3, hacknowledge, eZ, rfl⟩ | ⟨r_2, hisFirst, c1, c2, B_9, rfl, r_12, hat, x_17, ex_17, c3, U_63, hF, hrefuse, eZ, rfl⟩ | ⟨r_2, hisFirst, c1, c2, U_66, hF, hrefuse, eZ, rfl⟩ | ⟨r_2, hisFirst, c1, eZ, rfl⟩
    · skip
      have ef : v_5d.toInt = r_2.toInt := fst_t ymk ex_4d c1d (by have k := e_isFirst hisFirst; rw [y4] at k; exact k)
      obtain ⟨er, w⟩ := hrow hat (by omega)
      have e35 : x_17.toInt = (A 33 (4 * n_1d)).toInt - (A 35 (4 * n_1d)).toInt := by rw [ex_17, w.2.2.2.1, w.2.2.2.2]; exact s_sub (by omega) (by omega)
      obtain rfl : n_28d = 4 * n_1d := by omega
      exfalso; omega
    · skip
      have ef : v_5d.toInt = r_2.toInt := fst_t ymk ex_4d c1d (by have k := e_isFirst hisFirst; rw [y4] at k; exact k)
      obtain ⟨er, w⟩ := hrow hat (by omega)
      have e35 : x_17.toInt = (A 33 (4 * n_1d)).toInt - (A 35 (4 * n_1d)).toInt := by rw [ex_17, w.2.2.2.1, w.2.2.2.2]; exact s_sub (by omega) (by omega)
      obtain rfl : n_28d = 4 * n_1d := by omega
      exfalso; omega
    · skip
      have ef : v_5d.toInt = r_2.toInt := fst_t ymk ex_4d c1d (by have k := e_isFirst hisFirst; rw [y4] at k; exact k)
      obtain ⟨er, w⟩ := hrow hat (by omega)
      obtain ⟨-, hf⟩ := hf.resolve_left (fun e => by omega)
      rw [eZ] at hf
      exact s_refuse s9 v9 hq hp y2 y7 (by decide) (Or.inr ⟨by decide, rfl⟩) hrefuse hf hrefused
    · skip
      have ef : v_5d.toInt = r_2.toInt := fst_t ymk ex_4d c1d (by have k := e_isFirst hisFirst; rw [y4] at k; exact k)
      exfalso; omega
    · skip
      have ef : v_5d.toInt = r_2.toInt := fst_t ymk ex_4d c1d (by have k := e_isFirst hisFirst; rw [y4] at k; exact k)
      exfalso; omega
  · obtain rfl : n_1d = q := by omega
    unfold C_X8_takeSend at hc
    rw [hsh.2.2.1, hsh.1] at hc
    rcases hc with ⟨r_2, hisFirst, c1, c2, B_9, rfl, r_12, hat, x_17, ex_17, c3, x_25, ex_25, U_27, hF, hunload, x_32, ex_32, B_33, rfl, r_35, hisLast, c4, U_39, hF_1, hadvance, U_44, hF_2, hacknowledge, eZ, rfl⟩ | ⟨r_2, hisFirst, c1, c2, B_9, rfl, r_12, hat, x_17, ex_17, c3, x_25, ex_25, U_27, hF, hunload, x_32, ex_32, B_33, rfl, r_35, hisLast, c4, U_49, hF_1, hcompleteFirst, B_51, rfl, U_54, hF_2, hadvance, U_59, hF_3, hacknowledge, eZ, rfl⟩ | ⟨r_2, hisFirst, c1, c2, B_9, rfl, r_12, hat, x_17, ex_17, c3, U_63, hF, hrefuse, eZ, rfl⟩ | ⟨r_2, hisFirst, c1, c2, U_66, hF, hrefuse, eZ, rfl⟩ | ⟨r_2, hisFirst, c1, eZ, rfl⟩
    · skip
      have ef : v_5d.toInt = r_2.toInt := fst_t ymk ex_4d c1d (by have k := e_isFirst hisFirst; rw [y4] at k; exact k)
      exfalso; omega
    · skip
      have ef : v_5d.toInt = r_2.toInt := fst_t ymk ex_4d c1d (by have k := e_isFirst hisFirst; rw [y4] at k; exact k)
      exfalso; omega
    · skip
      have ef : v_5d.toInt = r_2.toInt := fst_t ymk ex_4d c1d (by have k := e_isFirst hisFirst; rw [y4] at k; exact k)
      exfalso; omega
    · skip
      have ef : v_5d.toInt = r_2.toInt := fst_t ymk ex_4d c1d (by have k := e_isFirst hisFirst; rw [y4] at k; exact k)
      exfalso; omega
    · skip
      have ef : v_5d.toInt = r_2.toInt := fst_t ymk ex_4d c1d (by have k := e_isFirst hisFirst; rw [y4] at k; exact k)
      have hz := (hf.resolve_right (fun e => e.1 i0)).2
      rw [hz, eZ]
      exact h
end
section
/-- an ADD is kept -/
theorem SIM.kept {x q : Nat} {t0 t1 t2 : Int32} {B Z : AA} {R : RR} {A A' : AA} {pk : Int32} (h : SIM x t0 t1 t2 B R A pk) (hV : RW A pk) (hq : q < 4) (hZ : ∀ a, a ≠ x + 86 + 17 * q → a ≠ x + 87 + 17 * q → Z a = B a) (hA : ∀ j, ¬ (37 ≤ j ∧ j ≤ 39) → A' j = A j) (h37 : ∀ k, k ≠ q → A' 37 k = A 37 k) (h38 : ∀ j, j = 38 ∨ j = 39 → ∀ k, ¬ (2 * q ≤ k ∧ k < 2 * q + 2) → A' j k = A j k) (hAD : AD x q Z A') : SIM x t0 t1 t2 Z R A' pk ∧ RW A' pk := by
  have hh := h
  obtain ⟨-, -, -, -, hN, hPQ⟩ := hh
  obtain ⟨hC, hPS, hRQ, hRV, -⟩ := hPQ q hq
  have c4 := hV.2.1 q hq
  refine ⟨h.prw hV hq (n := 0) (by omega) (fun a k1 k2 k3 => hZ a (by omega) (by omega)) (fun m hm => (hN m hm).cg (hZ _ (by omega) (by omega)) (hZ _ (by omega) (by omega)) (by rw [hA 8 (by omega)]) (fun _ _ _ => by rw [hA 9 (by omega)]) (hV.1 m hm).2) ⟨?_, ?_, ?_, ?_, hAD⟩ (fun q' hne => ⟨fun j k1 k2 => ?_, fun j hj i hi => by rw [hA j (by omega)], fun j hj i hi => h38 j hj _ (by omega)⟩) (fun j k1 k2 k3 => hA j (by omega)), hV.cg (hA 8 (by omega)) (hA 20 (by omega)) (hA 30 (by omega))⟩
  · exact hC.cg (fun j _ => by rw [hZ _ (by omega) (by omega)]) (by rw [hZ _ (by omega) (by omega)]) (by rw [hZ _ (by omega) (by omega)]) (by rw [hZ _ (by omega) (by omega)])
  · exact hPS.cg (hZ _ (by omega) (by omega)) (hZ _ (by omega) (by omega)) (hZ _ (by omega) (by omega)) (fun j hj => by rw [hA j (by omega)])
  · exact hRQ.cg (hZ _ (by omega) (by omega)) (fun i _ => hZ _ (by omega) (by omega)) (by rw [hA 20 (by omega)]) (by rw [hA 21 (by omega)]) (fun j k1 k2 i hi => by rw [hA j (by omega)]) c4.1.2
  · exact hRV.cg (hZ _ (by omega) (by omega)) (fun i _ => hZ _ (by omega) (by omega)) (by rw [hA 30 (by omega)]) (by rw [hA 31 (by omega)]) (fun j k1 k2 i hi => by rw [hA j (by omega)]) c4.2.2
  · by_cases e : j = 37
    · subst e; exact Or.inl (h37 q' hne)
    · exact Or.inl (by rw [hA j (by omega)])
theorem cpy_1 {g : Nat → Int32} {n : Nat} {v : Int32} : upd g n v = cpy g n 1 (fun _ => v) := cpy1 rfl rfl
/-- an ADD that is expected -/
theorem s_freshAdd {x q tk : Nat} {G : Nat → Nat} {t0 t1 t2 : Int32} {B : AA} {R : RR} {A : AA} {pk cd : Int32} (h : SIM x t0 t1 t2 B R A pk) (hV : RW A pk) (hq : q < 4) (hst : (A 10 q).toInt = 1) {p : Int32} (hp : (q : Int) = p.toInt) (htk : R (x + 1) 2 = x + 3 + 2 * tk) (htk6 : tk < 26) (hT : TKP x tk B A) (h46 : 0 ≤ (A 46 24).toInt ∧ (A 46 24).toInt ≤ 31) (h37 : 0 ≤ (A 37 q).toInt ∧ (A 37 q).toInt ≤ 2) {U V Z : AA} {r : Int32} (hg : C_X8_growCell G B R (x + 85 + 17 * q) (x + 3 + 2 * tk) U r) (hr : C_X8_replyOne G U R (x + 85 + 17 * q) (B (x + 3 + 2 * tk) 2) r V) (hadv : C_X8_advance G V R (x + 85 + 17 * q) 1 Z) {A' : AA} {cdz pkz : Int32} (hd : D_X10_freshAdd A cd pk p A' cdz pkz) : SIM x t0 t1 t2 Z R A' pkz := by
  have hh := h
  obtain ⟨hS, -, hM, -, -, hPQ⟩ := hh
  obtain ⟨hC, hPS, -, -, hAD⟩ := hPQ q hq
  have p6 := hPS.2.2.2.2.2.1
  obtain ⟨⟨y0, y1, y2, y3, y4, y5, y6⟩, -, ⟨y7, -⟩⟩ := hT
  have hsh := hS.2.2.2.2.2.1 q hq
  have y5i := congrArg Int32.toInt y5
  have i1 := i_1t
  have i2 := i_2
  have i4 := i_4
  obtain ⟨c0, hc0⟩ : ∃ c0 : Nat, (c0 : Int) = (A 46 24).toInt := ⟨(A 46 24).toInt.toNat, by omega⟩
  rcases hg with ⟨r_5, hat, x_8, ex_8, U_11, hF, hput, B_17, rfl, B_22, rfl, B_28, rfl, B_31, rfl, eZ, rfl⟩
  rw [hsh.1] at hat hput
  have hMn := (hS.2.1 (q % 2) (by omega)).2.1
  have e5 := e_at hat hMn (k := c0) (by omega) (by omega)
  have eU := e_put hput hMn (k := c0) (by omega) (by omega)
  rw [hM (q % 2) (by omega) c0 (by omega)] at e5
  rw [hsh.2.2.2.1, hsh.2.2.2.2] at eZ
  rcases hd with ⟨n_1d, hn_1d, x_2d, ex_2d, fx_2d, x_3d, ex_3d, fx_3d, x_7d, ex_7d, fx_7d, n_10d, hn_10d, x_11d, ex_11d, fx_11d, x_12d, ex_12d, fx_12d, n_15d, hn_15d, n_18d, hn_18d, g_17d, rfl, g_20d, rfl, g_22d, rfl, g_23d, rfl, v_24d, c1d, g_34d, rfl, x_36d, ex_36d, g_37d, rfl, ur_38d, hreplyOldd, c2d, c3d, c4d, ur_39d, hacceptd, rfl, rfl, rfl⟩
  obtain rfl : n_1d = q := by omega
  obtain rfl : n_10d = 32 * (n_1d % 2) + c0 := by omega
  obtain rfl : n_15d = 2 * n_1d := by omega
  obtain rfl : n_18d = 2 * n_1d + 1 := by omega
  -- the cell
  have s1 := h.cells hV (nd := n_1d % 2) (f0 := c0) (w := 1) (by omega) (Or.inr (by omega)) (g := fun _ => x_8) (g' := fun _ => x_36d) (fun k _ => by
    show x_8 = x_36d
    rw [ex_8, ex_36d, e5, y6])
  rw [← cpy_1, ← cpy_1, ← eU] at s1
  -- the kept ones
  have hv24 : v_24d.toInt = if 2 ≤ (A 37 n_1d).toInt then 2 else (A 37 n_1d).toInt + 1 := by
    rcases c1d with ⟨a, b⟩ | ⟨a, x32, b1, b2, b3⟩
    · rw [if_pos a, b]; exact i_2
    · rw [if_neg a, b3, b2]
  obtain ⟨s2, v2⟩ := s1.kept (Z := U) (A' := uA (uA (uA (uA A 4 (upd (A 4) (32 * (n_1d % 2) + c0) x_36d)) 38 (upd (upd (A 38) (2 * n_1d + 1) (A 38 (2 * n_1d))) (2 * n_1d) (A 43 24))) 39 (upd (upd (A 39) (2 * n_1d + 1) (A 39 (2 * n_1d))) (2 * n_1d) (A 4 (32 * (n_1d % 2) + c0)))) 37 (upd (A 37) n_1d v_24d)) (hV.cg rfl rfl rfl) hq (fun a k1 k2 => by rw [eZ]; simp only [uA_n k1, uA_n k2]) (fun j hj => by rw [uA_n (by omega), uA_n (by omega), uA_n (by omega)]) (fun k hk => upd_n hk) (fun j hj k hk => by
    rcases hj with rfl | rfl
    · show upd (upd (A 38) _ _) _ _ k = _
      rw [upd_n (by omega), upd_n (by omega)]; rfl
    · show upd (upd (A 39) _ _) _ _ k = _
      rw [upd_n (by omega), upd_n (by omega)]; rfl) ⟨fun i hi hl => by
    have hl : (i : Int) < (upd (A 37) n_1d v_24d n_1d).toInt := hl
    rw [upd_s, hv24] at hl
    have n78 : x + 86 + 17 * n_1d ≠ x + 87 + 17 * n_1d := by omega
    have n87 : x + 87 + 17 * n_1d ≠ x + 86 + 17 * n_1d := by omega
    rw [eZ]
    simp only [uA_s, uA_u, uA_n n78, uA_n n87]
    show _ = upd (upd (A 38) _ _) _ _ _ ∧ _ = upd (upd (A 39) _ _) _ _ _
    rcases (show i = 0 ∨ i = 1 by omega) with rfl | rfl
    · refine ⟨?_, ?_⟩
      · rw [upd_s, show 2 * n_1d + 0 = 2 * n_1d from rfl, upd_s]; exact y2
      · rw [upd_s, show 2 * n_1d + 0 = 2 * n_1d from rfl, upd_s]; exact e5
    · have k := hAD.1 0 (by omega) (by revert hl; split <;> omega)
      rw [Nat.add_zero] at k
      refine ⟨?_, ?_⟩
      · rw [upd_n (show (1 : Nat) ≠ 0 by decide), upd_s, upd_n (show 2 * n_1d + 1 ≠ 2 * n_1d by omega), upd_s]; exact k.1
      · rw [upd_n (show (1 : Nat) ≠ 0 by decide), upd_s, upd_n (show 2 * n_1d + 1 ≠ 2 * n_1d by omega), upd_s]; exact k.2, fun i hi hl => by
    have hl : (upd (A 37) n_1d v_24d n_1d).toInt ≤ (i : Int) := hl
    rw [upd_s, hv24] at hl
    have n78 : x + 86 + 17 * n_1d ≠ x + 87 + 17 * n_1d := by omega
    have n87 : x + 87 + 17 * n_1d ≠ x + 86 + 17 * n_1d := by omega
    rw [eZ]
    simp only [uA_s, uA_u, uA_n n78, uA_n n87]
    obtain rfl : i = 1 := by revert hl; split <;> omega
    have k := hAD.2 0 (by omega) (by revert hl; split <;> omega)
    rw [upd_n (by decide), upd_s]
    exact k⟩
  -- the reply
  have hE := r_replyOld hreplyOldd hV.2.2
  obtain ⟨n, hn, h24⟩ := s2.np v2
  have hCC := (s2.2.2.2.2.2 n_1d hq).1
  have eto : U (x + 85 + 17 * n_1d) 0 = peerT p := i32_eq (by rw [hCC.2.2.2.2.1, peer_e hq hp])
  have hEC := e_replyOne s2.1 hq hn h24 hr
  rw [eto, y2, e5] at hEC
  obtain ⟨m1, m2, -, -⟩ := s2.emit v2 (fun j a b => by
    rcases (show j = 41 ∨ j = 42 ∨ j = 43 ∨ j = 44 ∨ j = 45 ∨ j = 46 ∨ j = 47 ∨ j = 48 by omega) with rfl | rfl | rfl | rfl | rfl | rfl | rfl | rfl <;> rfl) hEC hE ⟨y7, by omega, fun e => by omega, fun e => by omega, fun _ => by omega, fun e => by omega⟩
  -- the expected number
  obtain ⟨v, ev, e4⟩ := r_accept hacceptd hp (by exact p6) (by decide)
  obtain ⟨f1, -, -⟩ := m1.adv m2 hq (by rw [mixF_o (by omega)]; exact hst) hadv (v := v) (by rw [mixF_o (by omega)]; exact ev)
  have fin : ∀ {X Y : AA} {w : Int32}, X = Y → SIM x t0 t1 t2 Z R X w → SIM x t0 t1 t2 Z R Y w := fun e k => e ▸ k
  refine fin ?_ f1
  have e14 := congrFun e4 14
  have e19 := congrFun e4 19
  funext j
  by_cases k19 : j = 19
  · subst k19
    rw [uA_s]
    exact (Eq.trans e19 rfl).symm
  rw [uA_n k19]
  by_cases k14 : j = 14
  · subst k14
    rw [uA_s]
    exact (Eq.trans e14 rfl).symm
  rw [uA_n k14]
  by_cases k1 : 41 ≤ j ∧ j ≤ 48
  · rw [mixF_i k1]
    rcases (show j = 41 ∨ j = 42 ∨ j = 43 ∨ j = 44 ∨ j = 45 ∨ j = 46 ∨ j = 47 ∨ j = 48 by omega) with rfl | rfl | rfl | rfl | rfl | rfl | rfl | rfl <;> rfl
  rw [mixF_o k1]
  by_cases k37 : j = 37
  · subst k37; rfl
  by_cases k39 : j = 39
  · subst k39; rfl
  by_cases k38 : j = 38
  · subst k38; rfl
  by_cases k4 : j = 4
  · subst k4; rfl
  rw [uA_n k37, uA_n k39, uA_n k38, uA_n k4, uA_n (by omega), uA_n (by omega), uA_n (by omega), uA_n (by omega), uA_n (by omega), uA_n (by omega), uA_n (by omega), uA_n (by omega), uA_n k39, uA_n k38, uA_n k37, uA_n k19, uA_n k14, uA_n k4]
end
section
/-- a WRITE, a READ or an ADD that is expected -/
theorem s_takeReach {x q tk : Nat} {G : Nat → Nat} {t0 t1 t2 : Int32} {B : AA} {R : RR} {A : AA} {pk cd : Int32} (h : SIM x t0 t1 t2 B R A pk) (hV : RW A pk) (hI2 : I2 (A 5) (A 6)) (hq : q < 4) (hst : (A 10 q).toInt = 1) {p : Int32} (hp : (q : Int) = p.toInt) (htk : R (x + 1) 2 = x + 3 + 2 * tk) (htk6 : tk < 26) (hT : TKP x tk B A) (hk : 1 ≤ (A 42 24).toInt ∧ (A 42 24).toInt ≤ 3) (hmk : 0 ≤ (A 45 24).toInt ∧ (A 45 24).toInt ≤ 5) (hpl : -1 ≤ (A 46 24).toInt ∧ (A 46 24).toInt ≤ 60) (h37 : 0 ≤ (A 37 q).toInt ∧ (A 37 q).toInt ≤ 2) {U : AA} {r : Int32} (hc : C_X8_takeReach G B R (x + 85 + 17 * q) (x + 3 + 2 * tk) U r) {Z : AA} (hf : (r.toInt = 0 ∧ Z = U) ∨ (¬ r.toInt = 0 ∧ C_X3_fail G U R (x + 84 + 17 * q) 5 r Z)) {A' : AA} {cdz pkz : Int32} (hd : D_X10_fresh A cd pk p A' cdz pkz) : SIM x t0 t1 t2 Z R A' pkz := by
  have hh := h
  obtain ⟨hS, -, -, -, -, hPQ⟩ := hh
  obtain ⟨hC, hPS, -, -, -⟩ := hPQ q hq
  have p6 := hPS.2.2.2.2.2.1
  have hT0 := hT
  obtain ⟨⟨y0, y1, y2, y3, y4, y5, y6⟩, yc, ⟨y7, y8, -, -, y11, y12⟩⟩ := hT
  have hsh := hS.2.2.2.2.2.1 q hq
  have y1i := congrArg Int32.toInt y1
  have y3i := congrArg Int32.toInt y3
  have y5i := congrArg Int32.toInt y5
  have i0 := i_0
  have i1 := i_1t
  have i2 := i_2
  have i4 := i_4
  have i5 : (5 : Int32).toInt = 5 := by decide
  unfold C_X8_takeReach at hc
  rw [hsh.1] at hc
  -- what both sides allow
  have al : ∀ {v n t v' : Int32}, C_X1_allows G B R (x + 56 + 10 * (q % 2)) (B (x + 3 + 2 * tk) 4) (B (x + 3 + 2 * tk) 5) n t v → D_X10_allows A cd pk p (A 45 24) (A 46 24) n t v' → 1 ≤ n.toInt ∧ n.toInt ≤ 12 → (t = 1 ∨ t = 2 ∨ t = 4) → (v.toInt = 0 ∧ v'.toInt = 0) ∨ (¬ v.toInt = 0 ∧ ¬ v'.toInt = 0 ∧ 0 ≤ (A 46 24).toInt ∧ (A 46 24).toInt + n.toInt ≤ 32) := fun a b c d => by
    rw [y4, y5] at a
    exact s_allows h hI2 hq hp hmk hpl c d a b
  have rf : ∀ {U : AA}, C_X8_refuse G B R (x + 85 + 17 * q) (B (x + 3 + 2 * tk) 2) 3 U → C_X3_fail G U R (x + 84 + 17 * q) 5 5 Z → ∀ {A2 : AA} {c k : Int32}, D_X10_refuse A cd pk p 3 A2 c k → SIM x t0 t1 t2 Z R A2 k := fun {U} a b {A2 c k} e => s_refuse h hV hq hp y2 y7 (by decide) (Or.inl ⟨by decide, rfl⟩) a b e
  have fin : ∀ {X Y : AA} {w : Int32}, X = Y → SIM x t0 t1 t2 Z R X w → SIM x t0 t1 t2 Z R Y w := fun e k => e ▸ k
  rcases hd with ⟨c1d, c2d, c3d, c4d, r_16d, hallowsd, er_16d, c5d, ur_20d, hfreshAddd, c6d, c7d, c8d, rfl, rfl, rfl⟩ | ⟨c1d, c2d, c3d, c4d, r_16d, hallowsd, er_16d, c5d, ur_21d, hrefused, c6d, c7d, c8d, c9d, c10d, rfl, rfl, rfl⟩ | ⟨c1d, c2d, c3d, c4d, r_22d, hallowsd, er_22d, c5d, c6d, ur_26d, hfreshAddd, c7d, c8d, c9d, rfl, rfl, rfl⟩ | ⟨c1d, c2d, c3d, c4d, r_22d, hallowsd, er_22d, c5d, c6d, ur_27d, hreadsd, c7d, c8d, x_28d, ex_28d, fx_28d, x_29d, ex_29d, fx_29d, ur_30d, hacceptd, rfl, rfl, rfl⟩ | ⟨c1d, c2d, c3d, c4d, r_22d, hallowsd, er_22d, c5d, ur_31d, hrefused, c6d, c7d, c8d, c9d, c10d, rfl, rfl, rfl⟩ | ⟨c1d, c2d, c3d, r_32d, hallowsd, er_32d, c4d, c5d, ur_36d, hfreshAddd, c6d, c7d, c8d, rfl, rfl, rfl⟩ | ⟨c1d, c2d, c3d, r_32d, hallowsd, er_32d, c4d, c5d, x_37d, ex_37d, fx_37d, x_38d, ex_38d, fx_38d, x_40d, ex_40d, fx_40d, ur_41d, htakeCellsd, ur_42d, hacceptd, ur_44d, hackd, c6d, c7d, c8d, rfl, rfl, rfl⟩ | ⟨c1d, c2d, c3d, r_32d, hallowsd, er_32d, c4d, ur_45d, hrefused, c5d, c6d, c7d, c8d, c9d, rfl, rfl, rfl⟩ | ⟨c1d, c2d, r_52d, hallowsd, er_52d, c3d, ur_56d, hfreshAddd, c4d, c5d, c6d, rfl, rfl, rfl⟩ | ⟨c1d, c2d, r_52d, hallowsd, er_52d, c3d, ur_57d, hrefused, c4d, c5d, c6d, c7d, c8d, rfl, rfl, rfl⟩ | ⟨c1d, ur_58d, hfreshSendd, c2d, c3d, c4d, c5d, c6d, c7d, c8d, c9d, rfl, rfl, rfl⟩
  · exfalso; omega
  · exfalso; omega
  · exfalso; omega
  · -- READ
    have sz := y12 c4d
    rcases hc with ⟨r_4, hisAllowed, c1, c2, c3, U_12, hF, hunload, U_15, hF_1, hadvance, U_20, hF_2, hacknowledge, eZ, rfl⟩ | ⟨r_4, hisAllowed, c1, c2, c3, r_22, U_23, hF, hgrowCell, U_26, hF_1, hreplyOne, U_29, hF_2, hadvance, eZ, rfl⟩ | ⟨r_4, hisAllowed, c1, c2, U_32, hF, hreplyCells, x_35, ex_35, U_38, hF_1, hadvance, eZ, rfl⟩ | ⟨r_4, hisAllowed, c1, U_42, hF, hrefuse, eZ, rfl⟩
    · exfalso; omega
    · exfalso; omega
    · have ka := e_isAllowed hisAllowed
      rcases ka with ⟨k, -⟩ | ⟨k, ka⟩ | ⟨-, k, -⟩
      · exfalso; omega
      · rw [y3] at ka
        have k2 := al ka hallowsd sz (Or.inr (Or.inl rfl))
        have hz := (hf.resolve_right (fun e => e.1 i0)).2
        obtain ⟨a1, a2, a3, a4, a5, a6⟩ := s_reads h hV hq hp htk hT0 sz.2 (by omega) hreplyCells hreadsd
        have e14 := a5 14 (by omega)
        obtain ⟨v, ev, e4⟩ := r_accept hacceptd hp (by rw [e14]; exact p6) (by omega)
        have ex : x_35.toInt = x_29d.toInt := by
          have e3 := congrArg Int32.toInt a3.1.2.2.2.1
          have e44 := congrArg Int32.toInt (a6 44 (by decide) (by decide))
          rw [nmb (by omega) ex_35]; omega
        obtain ⟨f1, -, -⟩ := a1.adv a2 hq (by rw [a5 10 (by omega)]; exact hst) hadvance (v := v) (by rw [ex]; exact ev)
        rw [hz, eZ]
        rw [hz, eZ] at fin
        rw [← e4] at f1
        exact f1
      · exfalso; omega
    · have ka := e_isAllowed hisAllowed
      rcases ka with ⟨k, -⟩ | ⟨k, ka⟩ | ⟨-, k, -⟩
      · exfalso; omega
      · rw [y3] at ka
        have k2 := al ka hallowsd sz (Or.inr (Or.inl rfl))
        exfalso; omega
      · exfalso; omega
  · have sz := y12 c4d
    rcases hc with ⟨r_4, hisAllowed, c1, c2, c3, U_12, hF, hunload, U_15, hF_1, hadvance, U_20, hF_2, hacknowledge, eZ, rfl⟩ | ⟨r_4, hisAllowed, c1, c2, c3, r_22, U_23, hF, hgrowCell, U_26, hF_1, hreplyOne, U_29, hF_2, hadvance, eZ, rfl⟩ | ⟨r_4, hisAllowed, c1, c2, U_32, hF, hreplyCells, x_35, ex_35, U_38, hF_1, hadvance, eZ, rfl⟩ | ⟨r_4, hisAllowed, c1, U_42, hF, hrefuse, eZ, rfl⟩
    · exfalso; omega
    · exfalso; omega
    · have ka := e_isAllowed hisAllowed
      rcases ka with ⟨k, -⟩ | ⟨k, ka⟩ | ⟨-, k, -⟩
      · exfalso; omega
      · rw [y3] at ka
        have k2 := al ka hallowsd sz (Or.inr (Or.inl rfl))
        exfalso; omega
      · exfalso; omega
    · obtain ⟨-, hf⟩ := hf.resolve_left (fun e => by omega)
      rw [eZ] at hf
      exact rf hrefuse hf hrefused
  · exfalso; omega
  · -- WRITE
    have sz := y11 (Or.inr (Or.inl c3d))
    have ycs := yc (Or.inr (Or.inl c3d))
    rcases hc with ⟨r_4, hisAllowed, c1, c2, c3, U_12, hF, hunload, U_15, hF_1, hadvance, U_20, hF_2, hacknowledge, eZ, rfl⟩ | ⟨r_4, hisAllowed, c1, c2, c3, r_22, U_23, hF, hgrowCell, U_26, hF_1, hreplyOne, U_29, hF_2, hadvance, eZ, rfl⟩ | ⟨r_4, hisAllowed, c1, c2, U_32, hF, hreplyCells, x_35, ex_35, U_38, hF_1, hadvance, eZ, rfl⟩ | ⟨r_4, hisAllowed, c1, U_42, hF, hrefuse, eZ, rfl⟩
    · have ka := e_isAllowed hisAllowed
      rcases ka with ⟨k, ka⟩ | ⟨k, -⟩ | ⟨k, -⟩
      · rw [y3] at ka
        have k2 := al ka hallowsd (by omega) (Or.inl rfl)
        have hz := (hf.resolve_right (fun e => e.1 i0)).2
        obtain ⟨f0, hf0⟩ : ∃ f0 : Nat, (f0 : Int) = (A 46 24).toInt := ⟨(A 46 24).toInt.toNat, by omega⟩
        have h7 := hS.2.2.2.2.2.2.2.2.2 tk htk6
        obtain ⟨wn, hw, eU⟩ := e_unload hunload (by rw [h7]; omega) (hS.2.1 (q % 2) (by omega)).2.1 (by omega) (by omega) (f0 := f0) (by rw [y5]; exact hf0) (by omega) (by omega) (Or.inl (by omega))
        have hwn : (wn : Int) = (A 44 24).toInt := by
          rcases hw with ⟨-, e⟩ | ⟨-, -, e⟩
          · omega
          · rw [if_pos (by omega)] at e; omega
        obtain ⟨-, -, eA⟩ := r_take htakeCellsd (f0 := 32 * (q % 2) + f0) (w := wn) (by rw [fx_40d, fx_38d, fx_37d]; omega) hwn (by omega)
        have s1 := h.cells hV (nd := q % 2) (f0 := f0) (w := wn) (by omega) (Or.inr (by omega)) (g := B (x + 3 + 2 * tk + 1)) (g' := fun k => A 48 (96 + k)) (fun k hk => by
          rw [show x + 3 + 2 * tk + 1 = x + 4 + 2 * tk by omega]
          exact ycs k (by omega) (by omega))
        rw [← eA, ← eU] at s1
        obtain ⟨v, ev, e4⟩ := r_accept hacceptd hp p6 (by decide)
        have hEa := r_ack (c := fun _ => 0) hackd hV.2.2
        obtain ⟨f1, f2, f3⟩ := s1.adv (hV.cg rfl rfl rfl) hq hst hadvance (v := v) ev
        rw [← e4] at f1 f2
        obtain ⟨n, hn, h24⟩ := f1.np f2
        have hCC := (f1.2.2.2.2.2 q hq).1
        have eto2 : U_15 (x + 85 + 17 * q) 0 = peerT p := i32_eq (by rw [hCC.2.2.2.2.1, peer_e hq hp])
        have hEC := e_ack (c := fun _ => 0) f1.1 hq hn h24 hacknowledge
        rw [eto2, y2] at hEC
        rw [hz, eZ]
        exact (f1.em f2 hEC hEa ⟨y7, by omega, fun e => by omega, fun e => by omega, fun e => by omega, fun e => by omega⟩).1
      · exfalso; omega
      · exfalso; omega
    · exfalso; omega
    · exfalso; omega
    · have ka := e_isAllowed hisAllowed
      rcases ka with ⟨k, ka⟩ | ⟨k, -⟩ | ⟨k, -⟩
      · rw [y3] at ka
        have k2 := al ka hallowsd (by omega) (Or.inl rfl)
        exfalso; omega
      · exfalso; omega
      · exfalso; omega
  · have sz := y11 (Or.inr (Or.inl c3d))
    rcases hc with ⟨r_4, hisAllowed, c1, c2, c3, U_12, hF, hunload, U_15, hF_1, hadvance, U_20, hF_2, hacknowledge, eZ, rfl⟩ | ⟨r_4, hisAllowed, c1, c2, c3, r_22, U_23, hF, hgrowCell, U_26, hF_1, hreplyOne, U_29, hF_2, hadvance, eZ, rfl⟩ | ⟨r_4, hisAllowed, c1, c2, U_32, hF, hreplyCells, x_35, ex_35, U_38, hF_1, hadvance, eZ, rfl⟩ | ⟨r_4, hisAllowed, c1, U_42, hF, hrefuse, eZ, rfl⟩
    · have ka := e_isAllowed hisAllowed
      rcases ka with ⟨k, ka⟩ | ⟨k, -⟩ | ⟨k, -⟩
      · rw [y3] at ka
        have k2 := al ka hallowsd (by omega) (Or.inl rfl)
        exfalso; omega
      · exfalso; omega
      · exfalso; omega
    · exfalso; omega
    · exfalso; omega
    · obtain ⟨-, hf⟩ := hf.resolve_left (fun e => by omega)
      rw [eZ] at hf
      exact rf hrefuse hf hrefused
  · -- ADD
    rcases hc with ⟨r_4, hisAllowed, c1, c2, c3, U_12, hF, hunload, U_15, hF_1, hadvance, U_20, hF_2, hacknowledge, eZ, rfl⟩ | ⟨r_4, hisAllowed, c1, c2, c3, r_22, U_23, hF, hgrowCell, U_26, hF_1, hreplyOne, U_29, hF_2, hadvance, eZ, rfl⟩ | ⟨r_4, hisAllowed, c1, c2, U_32, hF, hreplyCells, x_35, ex_35, U_38, hF_1, hadvance, eZ, rfl⟩ | ⟨r_4, hisAllowed, c1, U_42, hF, hrefuse, eZ, rfl⟩
    · exfalso; omega
    · have ka := e_isAllowed hisAllowed
      rcases ka with ⟨k, -⟩ | ⟨k, -⟩ | ⟨-, -, ka⟩
      · exfalso; omega
      · exfalso; omega
      · have k2 := al ka hallowsd (by decide) (Or.inr (Or.inr rfl))
        have hz := (hf.resolve_right (fun e => e.1 i0)).2
        rw [hz, eZ]
        exact s_freshAdd h hV hq hst hp htk htk6 hT0 (by omega) h37 hgrowCell hreplyOne hadvance hfreshAddd
    · exfalso; omega
    · have ka := e_isAllowed hisAllowed
      rcases ka with ⟨k, -⟩ | ⟨k, -⟩ | ⟨-, -, ka⟩
      · exfalso; omega
      · exfalso; omega
      · have k2 := al ka hallowsd (by decide) (Or.inr (Or.inr rfl))
        exfalso; omega
  · rcases hc with ⟨r_4, hisAllowed, c1, c2, c3, U_12, hF, hunload, U_15, hF_1, hadvance, U_20, hF_2, hacknowledge, eZ, rfl⟩ | ⟨r_4, hisAllowed, c1, c2, c3, r_22, U_23, hF, hgrowCell, U_26, hF_1, hreplyOne, U_29, hF_2, hadvance, eZ, rfl⟩ | ⟨r_4, hisAllowed, c1, c2, U_32, hF, hreplyCells, x_35, ex_35, U_38, hF_1, hadvance, eZ, rfl⟩ | ⟨r_4, hisAllowed, c1, U_42, hF, hrefuse, eZ, rfl⟩
    · exfalso; omega
    · have ka := e_isAllowed hisAllowed
      rcases ka with ⟨k, -⟩ | ⟨k, -⟩ | ⟨-, -, ka⟩
      · exfalso; omega
      · exfalso; omega
      · have k2 := al ka hallowsd (by decide) (Or.inr (Or.inr rfl))
        exfalso; omega
    · exfalso; omega
    · obtain ⟨-, hf⟩ := hf.resolve_left (fun e => by omega)
      rw [eZ] at hf
      exact rf hrefuse hf hrefused
  · exfalso; omega
end
section
theorem e_kept {x q : Nat} {G : Nat → Nat} {B : AA} {R : RR} {num r : Int32} (hS : SHX x R) (hq : q < 4) (h : C_X8_keptAdd G B R (x + 85 + 17 * q) num r) : (r.toInt = -1 ∧ (B (x + 86 + 17 * q) 0).toInt ≠ num.toInt ∧ (B (x + 86 + 17 * q) 1).toInt ≠ num.toInt) ∨ (r.toInt = 0 ∧ (B (x + 86 + 17 * q) 0).toInt = num.toInt) ∨ (r.toInt = 1 ∧ (B (x + 86 + 17 * q) 0).toInt ≠ num.toInt ∧ (B (x + 86 + 17 * q) 1).toInt = num.toInt) := by
  unfold C_X8_keptAdd at h
  rw [(hS.2.2.2.2.2.1 q hq).2.2.2.1] at h
  rcases h with ⟨c1, c2, rfl⟩ | ⟨c1, c2, rfl⟩ | ⟨c1, rfl⟩
  · exact Or.inl ⟨by decide, c1, c2⟩
  · exact Or.inr (Or.inr ⟨by decide, c1, c2⟩)
  · exact Or.inr (Or.inl ⟨by decide, c1⟩)
/-- a request that came before -/
theorem s_again {x q tk : Nat} {G : Nat → Nat} {t0 t1 t2 : Int32} {B : AA} {R : RR} {A : AA} {pk cd : Int32} (h : SIM x t0 t1 t2 B R A pk) (hV : RW A pk) (hI2 : I2 (A 5) (A 6)) (hq : q < 4) (hst : (A 10 q).toInt = 1) {p : Int32} (hp : (q : Int) = p.toInt) (htk : R (x + 1) 2 = x + 3 + 2 * tk) (hT : TKP x tk B A) (hk : (A 42 24).toInt ≤ 3) (hmk : (A 42 24).toInt < 1 ∨ (0 ≤ (A 45 24).toInt ∧ (A 45 24).toInt ≤ 5)) (hpl : -1 ≤ (A 46 24).toInt ∧ (A 46 24).toInt ≤ 60) (h37 : 0 ≤ (A 37 q).toInt ∧ (A 37 q).toInt ≤ 2) {Z : AA} (hc : C_X8_answerAgain G B R (x + 85 + 17 * q) (x + 3 + 2 * tk) Z) {A' : AA} {cdz pkz : Int32} (hd : D_X10_again A cd pk p A' cdz pkz) : SIM x t0 t1 t2 Z R A' pkz := by
  have hh := h
  obtain ⟨hS, -, -, -, -, hPQ⟩ := hh
  obtain ⟨hC, hPS, -, -, hAD⟩ := hPQ q hq
  have p6 := hPS.2.2.2.2.2.1
  have p2s := hPS.2.1 hst
  have hT0 := hT
  obtain ⟨⟨y0, y1, y2, y3, y4, y5, y6⟩, yc, ⟨y7, y8, -, -, y11, y12⟩⟩ := hT
  have hsh := hS.2.2.2.2.2.1 q hq
  have y1i := congrArg Int32.toInt y1
  have y2i := congrArg Int32.toInt y2
  have i1 := i_1t
  have i4 := i_4
  have i5 : (5 : Int32).toInt = 5 := by decide
  have im : (-1 : Int32).toInt = -1 := by decide
  have eto : B (x + 85 + 17 * q) 0 = peerT p := i32_eq (by rw [hC.2.2.2.2.1, peer_e hq hp])
  obtain ⟨np, hnp, h24⟩ := h.np hV
  have fin : ∀ {X Y : AA} {w : Int32}, X = Y → SIM x t0 t1 t2 Z R X w → SIM x t0 t1 t2 Z R Y w := fun e k => e ▸ k
  have rep : ∀ {U A2 : AA} {v w c k : Int32}, C_X8_replyOne G B R (x + 85 + 17 * q) (B (x + 3 + 2 * tk) 2) v U → D_X10_replyOld A cd pk p w A2 c k → v = w → SIM x t0 t1 t2 U R A2 k := fun hr hd e => by
    subst e
    have hEC := e_replyOne hS hq hnp h24 hr
    rw [eto, y2] at hEC
    exact (h.em hV hEC (r_replyOld hd hV.2.2) ⟨y7, by omega, fun e => by omega, fun e => by omega, fun _ => by omega, fun e => by omega⟩).1
  have ad0 : 0 < (A 37 q).toInt → B (x + 86 + 17 * q) 0 = A 38 (2 * q) ∧ B (x + 87 + 17 * q) 0 = A 39 (2 * q) := fun e => hAD.1 0 (by omega) (by omega)
  have ad1 : 1 < (A 37 q).toInt → B (x + 86 + 17 * q) 1 = A 38 (2 * q + 1) ∧ B (x + 87 + 17 * q) 1 = A 39 (2 * q + 1) := fun e => hAD.1 1 (by omega) (by omega)
  have an0 : (A 37 q).toInt ≤ 0 → (B (x + 86 + 17 * q) 0).toInt = -1 := fun e => by rw [hAD.2 0 (by omega) (by omega)]; exact im
  have an1 : (A 37 q).toInt ≤ 1 → (B (x + 86 + 17 * q) 1).toInt = -1 := fun e => by rw [hAD.2 1 (by omega) (by omega)]; exact im
  unfold C_X8_answerAgain at hc
  rw [hsh.1, hsh.2.2.2.2] at hc
  rcases hd with ⟨c1d, c2d, n_9d, hn_9d, x_13d, ex_13d, fx_13d, c3d, rfl, rfl, rfl⟩ | ⟨c1d, c2d, n_9d, hn_9d, x_13d, ex_13d, fx_13d, c3d, x_16d, ex_16d, fx_16d, x_17d, ex_17d, fx_17d, n_20d, hn_20d, c4d, x_23d, c5d, fx_23d, c6d, rfl, rfl, rfl⟩ | ⟨c1d, c2d, n_9d, hn_9d, x_13d, ex_13d, fx_13d, c3d, x_16d, ex_16d, fx_16d, x_17d, ex_17d, fx_17d, n_20d, hn_20d, c4d, x_23d, c5d, fx_23d, c6d, x_26d, ex_26d, fx_26d, n_29d, hn_29d, c7d, x_32d, c8d, fx_32d, rfl, rfl, rfl⟩ | ⟨c1d, c2d, n_9d, hn_9d, x_13d, ex_13d, fx_13d, c3d, x_16d, ex_16d, fx_16d, x_17d, ex_17d, fx_17d, n_20d, hn_20d, c4d, x_23d, c5d, fx_23d, c6d, x_26d, ex_26d, fx_26d, n_29d, hn_29d, c7d, x_35d, c8d, fx_35d, ur_39d, hreplyOldd, c9d, c10d, c11d, rfl, rfl, rfl⟩ | ⟨c1d, c2d, n_9d, hn_9d, x_13d, ex_13d, fx_13d, c3d, x_16d, ex_16d, fx_16d, x_17d, ex_17d, fx_17d, n_20d, hn_20d, c4d, x_40d, c5d, fx_40d, c6d, ur_44d, hreplyOldd, c7d, c8d, c9d, rfl, rfl, rfl⟩ | ⟨c1d, c2d, n_9d, hn_9d, x_13d, ex_13d, fx_13d, c3d, x_16d, ex_16d, fx_16d, x_17d, ex_17d, fx_17d, n_20d, hn_20d, c4d, x_40d, c5d, fx_40d, c6d, x_45d, ex_45d, fx_45d, n_48d, hn_48d, c7d, x_51d, c8d, fx_51d, ur_55d, hreplyOldd, c9d, c10d, c11d, rfl, rfl, rfl⟩ | ⟨c1d, c2d, n_9d, hn_9d, x_13d, ex_13d, fx_13d, c3d, x_16d, ex_16d, fx_16d, x_17d, ex_17d, fx_17d, n_20d, hn_20d, c4d, x_40d, c5d, fx_40d, c6d, x_45d, ex_45d, fx_45d, n_48d, hn_48d, c7d, x_56d, c8d, fx_56d, ur_60d, hreplyOldd, c9d, c10d, c11d, rfl, rfl, rfl⟩ | ⟨c1d, c2d, r_68d, hallowsd, er_68d, c3d, rfl, rfl, rfl⟩ | ⟨c1d, c2d, r_68d, hallowsd, er_68d, c3d, ur_70d, hreadsd, c4d, c5d, rfl, rfl, rfl⟩ | ⟨c1d, n_73d, hn_73d, x_74d, ex_74d, x_75d, ex_75d, ur_76d, hackd, c2d, c3d, c4d, rfl, rfl, rfl⟩
  · obtain rfl : n_9d = q := by omega
    have q0 := an0 (by omega)
    have q1 := an1 (by omega)
    rcases hc with ⟨c1, c2, r_5, er_5, U_8, hF, hacknowledge, eZ⟩ | ⟨c1, c2, r_10, hkeptAdd, c3, eZ⟩ | ⟨c1, c2, r_10, hkeptAdd, c3, n_17, hn_17, U_19, hF, hreplyOne, eZ⟩ | ⟨c1, r_22, hisAllowed, c2, eZ⟩ | ⟨c1, r_22, hisAllowed, c2, U_26, hF, hreplyCells, eZ⟩
    · exfalso; omega
    · rw [eZ]; simp only [uA_ii]; exact h
    · have k := e_kept hS hq hkeptAdd; exfalso; omega
    · exfalso; omega
    · exfalso; omega
  · obtain rfl : n_9d = q := by omega
    obtain rfl : n_20d = 2 * n_9d := by omega
    have q0 := congrArg Int32.toInt (ad0 (by omega)).1
    have q1 := an1 (by omega)
    rcases hc with ⟨c1, c2, r_5, er_5, U_8, hF, hacknowledge, eZ⟩ | ⟨c1, c2, r_10, hkeptAdd, c3, eZ⟩ | ⟨c1, c2, r_10, hkeptAdd, c3, n_17, hn_17, U_19, hF, hreplyOne, eZ⟩ | ⟨c1, r_22, hisAllowed, c2, eZ⟩ | ⟨c1, r_22, hisAllowed, c2, U_26, hF, hreplyCells, eZ⟩
    · exfalso; omega
    · rw [eZ]; simp only [uA_ii]; exact h
    · have k := e_kept hS hq hkeptAdd; exfalso; omega
    · exfalso; omega
    · exfalso; omega
  · obtain rfl : n_9d = q := by omega
    obtain rfl : n_20d = 2 * n_9d + 1 := by omega
    obtain rfl : n_29d = 2 * n_9d := by omega
    have q0 := congrArg Int32.toInt (ad0 (by omega)).1
    have q1 := congrArg Int32.toInt (ad1 (by omega)).1
    rcases hc with ⟨c1, c2, r_5, er_5, U_8, hF, hacknowledge, eZ⟩ | ⟨c1, c2, r_10, hkeptAdd, c3, eZ⟩ | ⟨c1, c2, r_10, hkeptAdd, c3, n_17, hn_17, U_19, hF, hreplyOne, eZ⟩ | ⟨c1, r_22, hisAllowed, c2, eZ⟩ | ⟨c1, r_22, hisAllowed, c2, U_26, hF, hreplyCells, eZ⟩
    · exfalso; omega
    · rw [eZ]; simp only [uA_ii]; exact h
    · have k := e_kept hS hq hkeptAdd; exfalso; omega
    · exfalso; omega
    · exfalso; omega
  · obtain rfl : n_9d = q := by omega
    obtain rfl : n_20d = 2 * n_9d + 1 := by omega
    obtain rfl : n_29d = 2 * n_9d := by omega
    have q0 := congrArg Int32.toInt (ad0 (by omega)).1
    have q1 := congrArg Int32.toInt (ad1 (by omega)).1
    rcases hc with ⟨c1, c2, r_5, er_5, U_8, hF, hacknowledge, eZ⟩ | ⟨c1, c2, r_10, hkeptAdd, c3, eZ⟩ | ⟨c1, c2, r_10, hkeptAdd, c3, n_17, hn_17, U_19, hF, hreplyOne, eZ⟩ | ⟨c1, r_22, hisAllowed, c2, eZ⟩ | ⟨c1, r_22, hisAllowed, c2, U_26, hF, hreplyCells, eZ⟩
    · exfalso; omega
    · have k := e_kept hS hq hkeptAdd; exfalso; omega
    · have k := e_kept hS hq hkeptAdd
      obtain rfl : n_17 = 0 := by omega
      rw [eZ]; exact rep hreplyOne hreplyOldd (ad0 (by omega)).2
    · exfalso; omega
    · exfalso; omega
  · obtain rfl : n_9d = q := by omega
    obtain rfl : n_20d = 2 * n_9d := by omega
    have q0 := congrArg Int32.toInt (ad0 (by omega)).1
    have q1 := an1 (by omega)
    rcases hc with ⟨c1, c2, r_5, er_5, U_8, hF, hacknowledge, eZ⟩ | ⟨c1, c2, r_10, hkeptAdd, c3, eZ⟩ | ⟨c1, c2, r_10, hkeptAdd, c3, n_17, hn_17, U_19, hF, hreplyOne, eZ⟩ | ⟨c1, r_22, hisAllowed, c2, eZ⟩ | ⟨c1, r_22, hisAllowed, c2, U_26, hF, hreplyCells, eZ⟩
    · exfalso; omega
    · have k := e_kept hS hq hkeptAdd; exfalso; omega
    · have k := e_kept hS hq hkeptAdd
      obtain rfl : n_17 = 0 := by omega
      rw [eZ]; exact rep hreplyOne hreplyOldd (ad0 (by omega)).2
    · exfalso; omega
    · exfalso; omega
  · obtain rfl : n_9d = q := by omega
    obtain rfl : n_20d = 2 * n_9d + 1 := by omega
    obtain rfl : n_48d = 2 * n_9d := by omega
    have q0 := congrArg Int32.toInt (ad0 (by omega)).1
    have q1 := congrArg Int32.toInt (ad1 (by omega)).1
    rcases hc with ⟨c1, c2, r_5, er_5, U_8, hF, hacknowledge, eZ⟩ | ⟨c1, c2, r_10, hkeptAdd, c3, eZ⟩ | ⟨c1, c2, r_10, hkeptAdd, c3, n_17, hn_17, U_19, hF, hreplyOne, eZ⟩ | ⟨c1, r_22, hisAllowed, c2, eZ⟩ | ⟨c1, r_22, hisAllowed, c2, U_26, hF, hreplyCells, eZ⟩
    · exfalso; omega
    · have k := e_kept hS hq hkeptAdd; exfalso; omega
    · have k := e_kept hS hq hkeptAdd
      obtain rfl : n_17 = 1 := by omega
      rw [eZ]; exact rep hreplyOne hreplyOldd (ad1 (by omega)).2
    · exfalso; omega
    · exfalso; omega
  · obtain rfl : n_9d = q := by omega
    obtain rfl : n_20d = 2 * n_9d + 1 := by omega
    obtain rfl : n_48d = 2 * n_9d := by omega
    have q0 := congrArg Int32.toInt (ad0 (by omega)).1
    have q1 := congrArg Int32.toInt (ad1 (by omega)).1
    rcases hc with ⟨c1, c2, r_5, er_5, U_8, hF, hacknowledge, eZ⟩ | ⟨c1, c2, r_10, hkeptAdd, c3, eZ⟩ | ⟨c1, c2, r_10, hkeptAdd, c3, n_17, hn_17, U_19, hF, hreplyOne, eZ⟩ | ⟨c1, r_22, hisAllowed, c2, eZ⟩ | ⟨c1, r_22, hisAllowed, c2, U_26, hF, hreplyCells, eZ⟩
    · exfalso; omega
    · have k := e_kept hS hq hkeptAdd; exfalso; omega
    · have k := e_kept hS hq hkeptAdd
      obtain rfl : n_17 = 0 := by omega
      rw [eZ]; exact rep hreplyOne hreplyOldd (ad0 (by omega)).2
    · exfalso; omega
    · exfalso; omega
  · have sz := y12 c2d
    rcases hc with ⟨c1, c2, r_5, er_5, U_8, hF, hacknowledge, eZ⟩ | ⟨c1, c2, r_10, hkeptAdd, c3, eZ⟩ | ⟨c1, c2, r_10, hkeptAdd, c3, n_17, hn_17, U_19, hF, hreplyOne, eZ⟩ | ⟨c1, r_22, hisAllowed, c2, eZ⟩ | ⟨c1, r_22, hisAllowed, c2, U_26, hF, hreplyCells, eZ⟩
    · exfalso; omega
    · exfalso; omega
    · exfalso; omega
    · rw [eZ]; simp only [uA_ii]; exact h
    · rcases e_isAllowed hisAllowed with ⟨k, -⟩ | ⟨k, ka⟩ | ⟨-, k, -⟩
      · exfalso; omega
      · rw [y3, y4, y5] at ka
        have k2 := s_allows h hI2 hq hp (by omega) hpl sz (Or.inr (Or.inl rfl)) ka hallowsd
        exfalso; omega
      · exfalso; omega
  · have sz := y12 c2d
    rcases hc with ⟨c1, c2, r_5, er_5, U_8, hF, hacknowledge, eZ⟩ | ⟨c1, c2, r_10, hkeptAdd, c3, eZ⟩ | ⟨c1, c2, r_10, hkeptAdd, c3, n_17, hn_17, U_19, hF, hreplyOne, eZ⟩ | ⟨c1, r_22, hisAllowed, c2, eZ⟩ | ⟨c1, r_22, hisAllowed, c2, U_26, hF, hreplyCells, eZ⟩
    · exfalso; omega
    · exfalso; omega
    · exfalso; omega
    · rcases e_isAllowed hisAllowed with ⟨k, -⟩ | ⟨k, ka⟩ | ⟨-, k, -⟩
      · exfalso; omega
      · rw [y3, y4, y5] at ka
        have k2 := s_allows h hI2 hq hp (by omega) hpl sz (Or.inr (Or.inl rfl)) ka hallowsd
        exfalso; omega
      · exfalso; omega
    · rcases e_isAllowed hisAllowed with ⟨k, -⟩ | ⟨k, ka⟩ | ⟨-, k, -⟩
      · exfalso; omega
      · rw [y3, y4, y5] at ka
        have k2 := s_allows h hI2 hq hp (by omega) hpl sz (Or.inr (Or.inl rfl)) ka hallowsd
        rw [eZ]
        exact (s_reads h hV hq hp htk hT0 sz.2 (by omega) hreplyCells hreadsd).1
      · exfalso; omega
  · obtain rfl : n_73d = q := by omega
    rcases hc with ⟨c1, c2, r_5, er_5, U_8, hF, hacknowledge, eZ⟩ | ⟨c1, c2, r_10, hkeptAdd, c3, eZ⟩ | ⟨c1, c2, r_10, hkeptAdd, c3, n_17, hn_17, U_19, hF, hreplyOne, eZ⟩ | ⟨c1, r_22, hisAllowed, c2, eZ⟩ | ⟨c1, r_22, hisAllowed, c2, U_26, hF, hreplyCells, eZ⟩
    · have hEC := e_ack (c := fun _ => 0) hS hq hnp h24 hacknowledge
      have i63 : (63 : Int32).toInt = 63 := by decide
      have e75 : x_75d.toInt = ((A 14 n_73d).toInt + 63) % 64 := by
        have k := mod64 (y := x_75d) (k := 63) p6 (by decide) (by rw [ex_75d, ex_74d])
        rw [i63] at k
        exact k
      have enm : r_5 = x_75d := i32_eq (by rw [er_5, bef, p2s.2.2.2, e75]; omega)
      rw [eto, enm] at hEC
      have hE := r_ack (c := fun _ => 0) hackd hV.2.2
      have m1 := (h.em hV hEC hE ⟨by rw [e75]; omega, by omega, fun e => by omega, fun e => by omega, fun e => by omega, fun e => by omega⟩).1
      rw [eZ]
      rw [eZ] at fin
      exact fin (uA_i rfl).symm m1
    · exfalso; omega
    · exfalso; omega
    · exfalso; omega
    · exfalso; omega
/-- that the sequence was told -/
theorem SIM.told {x q : Nat} {t0 t1 t2 : Int32} {B : AA} {R : RR} {A : AA} {pk v : Int32} (h : SIM x t0 t1 t2 B R A pk) (hV : RW A pk) (hq : q < 4) (hst : (A 10 q).toInt = 1) (hv : v = 1) : SIM x t0 t1 t2 (uA B (x + 85 + 17 * q) (upd (B (x + 85 + 17 * q)) 6 1)) R (uA A 19 (upd (A 19) q v)) pk := by
  obtain ⟨p1, p2, p3, p4, p5, p6, p7, p8, p9, p10⟩ := (h.2.2.2.2.2 q hq).2.1
  have p2s := p2 hst
  subst hv
  exact (h.rs (A' := uA A 19 (upd (A 19) q 1)) (f := upd (B (x + 85 + 17 * q)) 6 1) hV hq rfl (fun j hj => by rw [uA_n (by omega)]) (fun j k hk => by
    by_cases e : j = 19
    · subst e; exact upd_n hk
    · rw [uA_n e]) p2s.2.2.2 upd_s.symm p5.2 p6 (by
    show B01 (upd (A 19) q 1 q)
    rw [upd_s]; exact Or.inr rfl) p10).1
theorem r_fresh0 {A : AA} {cd pk p : Int32} {A' : AA} {cdz pkz : Int32} (h : D_X10_fresh A cd pk p A' cdz pkz) (h0 : (A 42 24).toInt = 0) : D_X10_freshSend A cd pk p A' cdz pkz := by
  rcases h with ⟨c1, c2, c3, c4, r_16, hallows, er_16, c5, ur_20, hfreshAdd, c6, c7, c8, rfl, rfl, rfl⟩ | ⟨c1, c2, c3, c4, r_16, hallows, er_16, c5, ur_21, hrefuse, c6, c7, c8, c9, c10, rfl, rfl, rfl⟩ | ⟨c1, c2, c3, c4, r_22, hallows, er_22, c5, c6, ur_26, hfreshAdd, c7, c8, c9, rfl, rfl, rfl⟩ | ⟨c1, c2, c3, c4, r_22, hallows, er_22, c5, c6, ur_27, hreads, c7, c8, x_28, ex_28, fx_28, x_29, ex_29, fx_29, ur_30, haccept, rfl, rfl, rfl⟩ | ⟨c1, c2, c3, c4, r_22, hallows, er_22, c5, ur_31, hrefuse, c6, c7, c8, c9, c10, rfl, rfl, rfl⟩ | ⟨c1, c2, c3, r_32, hallows, er_32, c4, c5, ur_36, hfreshAdd, c6, c7, c8, rfl, rfl, rfl⟩ | ⟨c1, c2, c3, r_32, hallows, er_32, c4, c5, x_37, ex_37, fx_37, x_38, ex_38, fx_38, x_40, ex_40, fx_40, ur_41, htakeCells, ur_42, haccept, ur_44, hack, c6, c7, c8, rfl, rfl, rfl⟩ | ⟨c1, c2, c3, r_32, hallows, er_32, c4, ur_45, hrefuse, c5, c6, c7, c8, c9, rfl, rfl, rfl⟩ | ⟨c1, c2, r_52, hallows, er_52, c3, ur_56, hfreshAdd, c4, c5, c6, rfl, rfl, rfl⟩ | ⟨c1, c2, r_52, hallows, er_52, c3, ur_57, hrefuse, c4, c5, c6, c7, c8, rfl, rfl, rfl⟩ | ⟨c1, ur_58, hfreshSend, c2, c3, c4, c5, c6, c7, c8, c9, rfl, rfl, rfl⟩
  · exact absurd h0 c1
  · exact absurd h0 c1
  · exact absurd h0 c1
  · exact absurd h0 c1
  · exact absurd h0 c1
  · exact absurd h0 c1
  · exact absurd h0 c1
  · exact absurd h0 c1
  · exact absurd h0 c1
  · exact absurd h0 c1
  · exact hfreshSend
/-- a request's packet -/
theorem s_asked {x q tk : Nat} {G : Nat → Nat} {t0 t1 t2 : Int32} {B : AA} {R : RR} {A : AA} {pk cd : Int32} (h : SIM x t0 t1 t2 B R A pk) (hI : RIV A pk) (hq : q < 4) (hst : (A 10 q).toInt = 1) {p : Int32} (hp : (q : Int) = p.toInt) (htk : R (x + 1) 2 = x + 3 + 2 * tk) (htk6 : tk < 26) (hT : TKP x tk B A) (hk : (A 42 24).toInt ≤ 3) {U : AA} {r : Int32} (hc : C_X8_takeIn G B R (x + 85 + 17 * q) (x + 3 + 2 * tk) U r) {Z : AA} (hf : (r.toInt = 0 ∧ Z = U) ∨ (¬ r.toInt = 0 ∧ C_X3_fail G U R (x + 84 + 17 * q) 5 r Z)) {A' : AA} {cdz pkz : Int32} (hd : D_X10_asked A cd pk p A' cdz pkz) : SIM x t0 t1 t2 Z R A' pkz := by
  have hV := hI.w
  have hh := h
  obtain ⟨hS, -, -, -, -, hPQ⟩ := hh
  obtain ⟨hC, hPS, -, -, -⟩ := hPQ q hq
  obtain ⟨p1, p2, p3, p4, p5, p6, p7, p8, p9, p10⟩ := hPS
  have p2s := p2 hst
  have hT0 := hT
  obtain ⟨⟨y0, y1, y2, y3, y4, y5, y6⟩, yc, ⟨y7, y8, -, -, y11, y12⟩⟩ := hT
  have y1i := congrArg Int32.toInt y1
  have i7 := hI.1.2.2.2.2.2.1 24 (by decide)
  have i8 := hI.1.2.2.2.2.2.2 q hq
  have i0 := i_0
  have i1 := i_1t
  have i6 : (6 : Int32).toInt = 6 := by decide
  have e3 : ∀ {v : Int32}, v = ((B (x + 3 + 2 * tk) 2) - (B (x + 85 + 17 * q) 4)) &&& 63 → v.toInt = ((A 43 24).toInt - (A 14 q).toInt) % 64 := fun e => by rw [e, dst, y2, p2s.2.2.2]
  have e5 : ∀ {v : Int32}, v = ((((A 43) 24) - ((A 14) q)) + 64) - ((((A 43) 24) - ((A 14) q)) + 64) / 64 * 64 → v.toInt = ((A 43 24).toInt - (A 14 q).toInt) % 64 := fun e => by rw [e]; exact far_m p6 y7
  have p5i := congrArg Int32.toInt p5.1
  rcases hd with ⟨n_3d, hn_3d, x_5d, ex_5d, c1d, c2d, c3d, rfl, rfl, rfl⟩ | ⟨n_3d, hn_3d, x_5d, ex_5d, c1d, c2d, c3d, ur_11d, r_11d, hemitd, c4d, c5d, c6d, c7d, c8d, v_12d, c9d, g_14d, rfl, rfl, rfl, rfl⟩ | ⟨n_3d, hn_3d, x_5d, ex_5d, c1d, c2d, ur_15d, hagaind, c3d, c4d, rfl, rfl, rfl⟩ | ⟨n_3d, hn_3d, x_5d, ex_5d, fx_5d, ur_16d, hfreshd, c1d, c2d, c3d, c4d, c5d, c6d, c7d, c8d, rfl, rfl, rfl⟩
  · obtain rfl : n_3d = q := by omega
    have h5 := e5 ex_5d
    rcases hc with ⟨x_3, ex_3, c1, c2, c3, r_7, U_8, hF, htakeReach, eZ, rfl⟩ | ⟨x_3, ex_3, c1, c2, c3, r_9, U_10, hF, htakeSend, eZ, rfl⟩ | ⟨x_3, ex_3, c1, c2, U_12, hF, htellSequence, eZ, rfl⟩ | ⟨x_3, ex_3, c1, U_14, hF, hanswerAgain, eZ, rfl⟩
    · have := e3 ex_3; exfalso; omega
    · have := e3 ex_3; exfalso; omega
    · have hz := (hf.resolve_right (fun e => e.1 i0)).2
      rw [hz, eZ]
      rcases htellSequence with ⟨c1s, eZs⟩ | ⟨c1s, U_4s, hFs, hrefuses, B_6s, rfl, eZs⟩
      · rw [eZs]; exact h
      · exfalso; omega
    · have := e3 ex_3; exfalso; omega
  · obtain rfl : n_3d = q := by omega
    have h5 := e5 ex_5d
    rcases hc with ⟨x_3, ex_3, c1, c2, c3, r_7, U_8, hF, htakeReach, eZ, rfl⟩ | ⟨x_3, ex_3, c1, c2, c3, r_9, U_10, hF, htakeSend, eZ, rfl⟩ | ⟨x_3, ex_3, c1, c2, U_12, hF, htellSequence, eZ, rfl⟩ | ⟨x_3, ex_3, c1, U_14, hF, hanswerAgain, eZ, rfl⟩
    · have := e3 ex_3; exfalso; omega
    · have := e3 ex_3; exfalso; omega
    · have hz := (hf.resolve_right (fun e => e.1 i0)).2
      rw [hz, eZ]
      rcases htellSequence with ⟨c1s, eZs⟩ | ⟨c1s, U_4s, hFs, hrefuses, B_6s, rfl, eZs⟩
      · exfalso; omega
      · rw [eZs]
        obtain ⟨np, hnp, h24⟩ := h.np hV
        have eto : B (x + 85 + 17 * n_3d) 0 = peerT p := i32_eq (by rw [hC.2.2.2.2.1, peer_e hq hp])
        have hEC := e_refuse (c := fun _ => 0) hS hq hnp h24 hrefuses
        rw [eto, p2s.2.2.2] at hEC
        obtain ⟨m1, m2, m3, m4, m5, m6⟩ := h.em hV hEC (EMR.none (c := fun _ => 0) hemitd hV.2.2) ⟨p6, by omega, fun e => by omega, fun _ => by omega, fun e => by omega, fun e => by omega⟩
        have eS := m4 (x + 85 + 17 * n_3d) (by omega)
        exact m1.told m2 hq (by rw [m5 10 (by omega)]; exact hst) (by rw [c9d]; rfl)
    · have := e3 ex_3; exfalso; omega
  · obtain rfl : n_3d = q := by omega
    have h5 := e5 ex_5d
    rcases hc with ⟨x_3, ex_3, c1, c2, c3, r_7, U_8, hF, htakeReach, eZ, rfl⟩ | ⟨x_3, ex_3, c1, c2, c3, r_9, U_10, hF, htakeSend, eZ, rfl⟩ | ⟨x_3, ex_3, c1, c2, U_12, hF, htellSequence, eZ, rfl⟩ | ⟨x_3, ex_3, c1, U_14, hF, hanswerAgain, eZ, rfl⟩
    · have := e3 ex_3; exfalso; omega
    · have := e3 ex_3; exfalso; omega
    · have := e3 ex_3; exfalso; omega
    · have hz := (hf.resolve_right (fun e => e.1 i0)).2
      rw [hz, eZ]
      exact s_again h hV hI.1.1 hq hst hp htk hT0 hk (by omega) (by omega) (by omega) hanswerAgain hagaind
  · obtain rfl : n_3d = q := by omega
    have h5 := e5 ex_5d
    rcases hc with ⟨x_3, ex_3, c1, c2, c3, r_7, U_8, hF, htakeReach, eZ, rfl⟩ | ⟨x_3, ex_3, c1, c2, c3, r_9, U_10, hF, htakeSend, eZ, rfl⟩ | ⟨x_3, ex_3, c1, c2, U_12, hF, htellSequence, eZ, rfl⟩ | ⟨x_3, ex_3, c1, U_14, hF, hanswerAgain, eZ, rfl⟩
    · rw [eZ] at hf
      exact s_takeReach h hV hI.1.1 hq hst hp htk htk6 hT0 (by omega) (by omega) (by omega) (by omega) htakeReach hf hfreshd
    · rw [eZ] at hf
      exact s_takeSend h hV hq hst hp htk htk6 hT0 (by omega) (by omega) (hI.1.2.2.2.1 (4 * n_3d) (by omega)) htakeSend hf (r_fresh0 hfreshd (by omega))
    · have := e3 ex_3; exfalso; omega
    · have := e3 ex_3; exfalso; omega
end
section
/-- a pair takes a packet in -/
theorem s_in {x q tk : Nat} {G : Nat → Nat} {t0 t1 t2 : Int32} (ht : 2 ≤ t0.toInt) {B : AA} {R : RR} {A : AA} {pk cd : Int32} (h : SIM x t0 t1 t2 B R A pk) (hI : RIV A pk) (hq : q < 4) {p : Int32} (hp : (q : Int) = p.toInt) (htk : R (x + 1) 2 = x + 3 + 2 * tk) (htk6 : tk < 26) (hT : TKP x tk B A) {Z : AA} (hc : C_X3_takeIn G B R (x + 84 + 17 * q) (x + 3 + 2 * tk) Z) {A' : AA} {pkz : Int32} (hd : (¬ (A 10 q).toInt = 1 ∧ A' = A ∧ pkz = pk) ∨ ((A 10 q).toInt = 1 ∧ ((4 ≤ (A 42 24).toInt ∧ ¬ (A 42 24).toInt = 4 ∧ ¬ (A 42 24).toInt = 5 ∧ ∃ c : Int32, D_X10_refused t0 t1 t2 A cd pk p A' c pkz) ∨ ((A 42 24).toInt = 5 ∧ ∃ k c : Int32, k = (((((A 43) 24) - ((A 12) q)) + 64) - ((((A 43) 24) - ((A 12) q)) + 64) / 64 * 64) + 1 ∧ D_X10_answerSome A cd pk p k A' c pkz) ∨ ((A 42 24).toInt = 4 ∧ ∃ c : Int32, D_X10_replied A cd pk p A' c pkz) ∨ (¬ 4 ≤ (A 42 24).toInt ∧ ∃ c : Int32, D_X10_asked A cd pk p A' c pkz)))) : SIM x t0 t1 t2 Z R A' pkz := by
  have hV := hI.w
  have hh := h
  obtain ⟨hS, -, -, -, -, hPQ⟩ := hh
  obtain ⟨hC, hPS, -, -, -⟩ := hPQ q hq
  have p1i := congrArg Int32.toInt hPS.1
  have hT0 := hT
  obtain ⟨⟨y0, y1, y2, y3, y4, y5, y6⟩, -, ⟨y7, y8, -, y10, -, -⟩⟩ := hT
  have y1i := congrArg Int32.toInt y1
  have hsh := hS.2.2.1 q hq
  unfold C_X3_takeIn at hc
  rw [hsh.2.1, hsh.2.2] at hc
  rcases hd with ⟨d1, rfl, rfl⟩ | ⟨hst, hd⟩
  · rcases hc with ⟨c1, c2, c3, c4, U_10, hF, htakeReply, eZ⟩ | ⟨c1, c2, c3, c4, U_14, hF, htakeAck, eZ⟩ | ⟨c1, c2, c3, r_17, U_18, hF, htakeNak, c4, eZ⟩ | ⟨c1, c2, c3, r_17, U_18, hF, htakeNak, c4, U_22, hF_1, hfail, eZ⟩ | ⟨c1, c2, r_25, U_26, hF, htakeIn, c3, eZ⟩ | ⟨c1, c2, r_25, U_26, hF, htakeIn, c3, U_30, hF_1, hfail, eZ⟩ | ⟨c1, eZ⟩
    · exfalso; omega
    · exfalso; omega
    · exfalso; omega
    · exfalso; omega
    · exfalso; omega
    · exfalso; omega
    · rw [eZ]; exact h
  have hP := (hI.1.2.2.1 q hq).1 hst
  have rg := hP.rng
  obtain ⟨d, hJ⟩ := PJ.jd hP
  have i1 := i_1t
  rcases hd with ⟨d1, d2, d3, c, hr⟩ | ⟨d1, k, c, ek, hs⟩ | ⟨d1, c, hr⟩ | ⟨d1, c, ha⟩
  · have b45 := y10 (by omega)
    have go : ∀ {U Z : AA} {r : Int32}, C_X7_takeNak G B R (x + 77 + 17 * q) (B (x + 3 + 2 * tk) 2) (B (x + 3 + 2 * tk) 4) U r → ((r.toInt = 0 ∧ Z = U) ∨ (¬ r.toInt = 0 ∧ C_X3_fail G U R (x + 84 + 17 * q) r 5 Z)) → SIM x t0 t1 t2 Z R A' pkz := fun a b => by
      obtain ⟨k1, k2⟩ := s_nak ht h hV hq hst hp hJ rg.2.2 y2 y4 y7 b45 a b hr
      rw [k2]; exact k1
    rcases hc with ⟨c1, c2, c3, c4, U_10, hF, htakeReply, eZ⟩ | ⟨c1, c2, c3, c4, U_14, hF, htakeAck, eZ⟩ | ⟨c1, c2, c3, r_17, U_18, hF, htakeNak, c4, eZ⟩ | ⟨c1, c2, c3, r_17, U_18, hF, htakeNak, c4, U_22, hF_1, hfail, eZ⟩ | ⟨c1, c2, r_25, U_26, hF, htakeIn, c3, eZ⟩ | ⟨c1, c2, r_25, U_26, hF, htakeIn, c3, U_30, hF_1, hfail, eZ⟩ | ⟨c1, eZ⟩
    · exfalso; omega
    · exfalso; omega
    · exact go htakeNak (Or.inl ⟨c4, eZ⟩)
    · rw [eZ]; exact go htakeNak (Or.inr ⟨c4, hfail⟩)
    · exfalso; omega
    · exfalso; omega
    · exfalso; omega
  · rcases hc with ⟨c1, c2, c3, c4, U_10, hF, htakeReply, eZ⟩ | ⟨c1, c2, c3, c4, U_14, hF, htakeAck, eZ⟩ | ⟨c1, c2, c3, r_17, U_18, hF, htakeNak, c4, eZ⟩ | ⟨c1, c2, c3, r_17, U_18, hF, htakeNak, c4, U_22, hF_1, hfail, eZ⟩ | ⟨c1, c2, r_25, U_26, hF, htakeIn, c3, eZ⟩ | ⟨c1, c2, r_25, U_26, hF, htakeIn, c3, U_30, hF_1, hfail, eZ⟩ | ⟨c1, eZ⟩
    · exfalso; omega
    · have e1 : ((((A 43) 24) - ((A 12) q)) + 64) - ((((A 43) 24) - ((A 12) q)) + 64) / 64 * 64 = farI (A 12 q) (A 43 24) := rfl
      have e2 := far_m rg.2.1 y7
      obtain ⟨k1, k2, -⟩ := s_ack ht h hV hq hst hp hJ (k := k) (Or.inl (by rw [ek, e1, add_t (by omega) (by omega), e2, i1, y2])) htakeAck hs
      rw [k2, eZ]; exact k1
    · exfalso; omega
    · exfalso; omega
    · exfalso; omega
    · exfalso; omega
    · exfalso; omega
  · rcases hc with ⟨c1, c2, c3, c4, U_10, hF, htakeReply, eZ⟩ | ⟨c1, c2, c3, c4, U_14, hF, htakeAck, eZ⟩ | ⟨c1, c2, c3, r_17, U_18, hF, htakeNak, c4, eZ⟩ | ⟨c1, c2, c3, r_17, U_18, hF, htakeNak, c4, U_22, hF_1, hfail, eZ⟩ | ⟨c1, c2, r_25, U_26, hF, htakeIn, c3, eZ⟩ | ⟨c1, c2, r_25, U_26, hF, htakeIn, c3, U_30, hF_1, hfail, eZ⟩ | ⟨c1, eZ⟩
    · obtain ⟨k1, k2⟩ := s_reply ht h hV hq hst hp hJ rg.2.2 (fun i hi => by
        have h6 := hI.1.2.2.2.2.1 (4 * q + i) (by have := hJ.2.2.2.2.2.2.2.2; omega)
        obtain ⟨_, _, a, _, _, hR, _⟩ := hP
        have hz := hR i hi
        exact ⟨⟨hz.2.1, hz.2.2.1⟩, h6.2.2.1, h6.2.2.2.2.2.1⟩) htk6 hT0 d1 htakeReply hr
      rw [k2, eZ]; exact k1
    · exfalso; omega
    · exfalso; omega
    · exfalso; omega
    · exfalso; omega
    · exfalso; omega
    · exfalso; omega
  · rcases hc with ⟨c1, c2, c3, c4, U_10, hF, htakeReply, eZ⟩ | ⟨c1, c2, c3, c4, U_14, hF, htakeAck, eZ⟩ | ⟨c1, c2, c3, r_17, U_18, hF, htakeNak, c4, eZ⟩ | ⟨c1, c2, c3, r_17, U_18, hF, htakeNak, c4, U_22, hF_1, hfail, eZ⟩ | ⟨c1, c2, r_25, U_26, hF, htakeIn, c3, eZ⟩ | ⟨c1, c2, r_25, U_26, hF, htakeIn, c3, U_30, hF_1, hfail, eZ⟩ | ⟨c1, eZ⟩
    · exfalso; omega
    · exfalso; omega
    · exfalso; omega
    · exfalso; omega
    · exact s_asked h hI hq hst hp htk htk6 hT0 (by omega) htakeIn (Or.inl ⟨c3, eZ⟩) ha
    · rw [eZ]; exact s_asked h hI hq hst hp htk htk6 hT0 (by omega) htakeIn (Or.inr ⟨c3, hfail⟩) ha
    · exfalso; omega
/-- deliver -/
theorem s_deliverC {x : Nat} {G : Nat → Nat} {t0 t1 t2 : Int32} (ht : 2 ≤ t0.toInt) {B : AA} {R : RR} {A : AA} {pk cd p0 : Int32} (h : SIM x t0 t1 t2 B R A pk) (hV : RIV A pk) {Z : AA} {ZR : RR} {r : Int32} (hc : C_X9_deliver G B R x p0 Z ZR r) {A' : AA} {cdz pkz r' : Int32} (hd : D_X10_deliver t0 t1 t2 A cd pk p0 A' cdz pkz r') : SIM x t0 t1 t2 Z ZR A' pkz ∧ r = r' := by
  have hh := h
  obtain ⟨hS, ⟨pm, tk0, hD, hF0⟩, -⟩ := hh
  have hfi := congrArg Int32.toInt hF0.1
  have hpk := hV.2
  have main : ∀ {B11 U : AA} {R12 : RR} {r9 n20 : Nat} {A1 A2 A9 : AA} {c0 c1 c2 c3 k1 pk2 pk9 : Int32}, 0 ≤ p0.toInt → p0.toInt < pk.toInt → C_X0_takeOut G B R (x + 1) p0 B11 R12 r9 → (n20 : Int) = (B r9 0).toInt → C_X3_takeIn G B11 R12 (R12 (R12 x 1) n20) r9 U → D_X10_move1 A c0 pk p0 24 A1 c1 k1 → D_X10_drop A1 c2 pk p0 A2 c3 pk2 → I7 (A2 41) (A2 42) (A2 44) (A2 45) (A2 46) → (∀ (n : Nat), (n : Int) = (A2 41 24).toInt → (∀ j, j < 41 → A2 j = A j) → ((¬ (A2 10 n).toInt = 1 ∧ A9 = A2 ∧ pk9 = pk2) ∨ ((A2 10 n).toInt = 1 ∧ ((4 ≤ (A2 42 24).toInt ∧ ¬ (A2 42 24).toInt = 4 ∧ ¬ (A2 42 24).toInt = 5 ∧ ∃ c : Int32, D_X10_refused t0 t1 t2 A2 0 pk2 (A2 41 24) A9 c pk9) ∨ ((A2 42 24).toInt = 5 ∧ ∃ k c : Int32, k = (((((A2 43) 24) - ((A2 12) n)) + 64) - ((((A2 43) 24) - ((A2 12) n)) + 64) / 64 * 64) + 1 ∧ D_X10_answerSome A2 0 pk2 (A2 41 24) k A9 c pk9) ∨ ((A2 42 24).toInt = 4 ∧ ∃ c : Int32, D_X10_replied A2 0 pk2 (A2 41 24) A9 c pk9) ∨ (¬ 4 ≤ (A2 42 24).toInt ∧ ∃ c : Int32, D_X10_asked A2 0 pk2 (A2 41 24) A9 c pk9))))) → SIM x t0 t1 t2 U R12 A9 pk9 := by
    intro B11 U R12 r9 n20 A1 A2 A9 c0 c1 c2 c3 k1 pk2 pk9 e0 e1 hto hn20 hin hm hdr h7 hrest
    obtain ⟨k, hk⟩ : ∃ k : Nat, (k : Int) = p0.toInt := ⟨p0.toInt.toNat, by omega⟩
    obtain ⟨n, hn⟩ : ∃ n : Nat, (n : Int) = pk.toInt := ⟨pk.toInt.toNat, by omega⟩
    obtain ⟨er, hS2, hD2, c, ec1, ec2, eZ, hY⟩ := e_takeOut hS hD hto hk (n := n) (by omega) (by omega) (by omega)
    obtain ⟨tk, t6, er2, htk, s1, hT, h41, ep1, ep2, -, -⟩ := s_take h hV.w hk (by omega) hto hm hdr
    subst er2
    have hT0 := hT
    have y0 := hT.1.1
    rw [eZ, uA_n (by omega)] at y0
    have i7 := h7 24 (by decide)
    have en : (n20 : Int) = (A2 41 24).toInt := by rw [hn20, y0]
    have hq : n20 < 4 := by omega
    have w := s1.1
    rw [w.1.2.1, (w.2.2.1 n20 hq).1] at hin
    have hI2 : RIV A2 pk2 := by
      obtain ⟨⟨a1, a2, a3, a4, a5, a6, a7⟩, a8⟩ := hV
      refine ⟨⟨?_, ?_, ?_, ?_, ?_, h7, ?_⟩, by omega⟩
      · rw [h41 5 (by omega), h41 6 (by omega)]; exact a1
      · rw [h41 8 (by omega)]; exact a2
      · rw [h41 10 (by omega), h41 20 (by omega), h41 29 (by omega), h41 24 (by omega), h41 11 (by omega), h41 12 (by omega), h41 13 (by omega)]; exact a3
      · rw [h41 32 (by omega), h41 33 (by omega), h41 35 (by omega)]; exact a4
      · rw [h41 22 (by omega), h41 23 (by omega), h41 24 (by omega), h41 25 (by omega), h41 26 (by omega)]; exact a5
      · rw [h41 20 (by omega), h41 30 (by omega), h41 37 (by omega), h41 36 (by omega)]; exact a7
    exact s_in ht s1 hI2 hq en htk t6 hT0 hin (hrest n20 en h41)
  rcases hc with ⟨r_4, hhas, c1, r_9, B_11, R_12, hF, hQ, htakeOut, n_20, hn_20, U_24, hF_1, htakeIn, eZ, eZR, rfl⟩ | ⟨r_4, hhas, c1, eZ, eZR, rfl⟩
  · rw [hS.1.2.2] at hhas htakeOut
    have k := e_has hhas
    rw [eZ, eZR]
    rcases hd with ⟨c1d, rfl, rfl, rfl, rfl⟩ | ⟨c1d, c2d, ur_3d, hmove1d, c3d, ur_4d, hdropd, c4d, c5d, n_10d, hn_10d, c6d, c7d, c8d, c9d, ur_19d, hrefusedd, c10d, c11d, c12d, c13d, c14d, c15d, c16d, c17d, rfl, rfl, rfl, rfl⟩ | ⟨c1d, c2d, ur_3d, hmove1d, c3d, ur_4d, hdropd, c4d, c5d, n_10d, hn_10d, c6d, c7d, c8d, c9d, x_22d, ex_22d, x_23d, ex_23d, ur_24d, hanswerSomed, c10d, c11d, c12d, c13d, rfl, rfl, rfl, rfl⟩ | ⟨c1d, c2d, ur_3d, hmove1d, c3d, ur_4d, hdropd, c4d, c5d, n_10d, hn_10d, c6d, c7d, c8d, ur_25d, hrepliedd, c9d, c10d, c11d, c12d, rfl, rfl, rfl, rfl⟩ | ⟨c1d, c2d, ur_3d, hmove1d, c3d, ur_4d, hdropd, c4d, c5d, n_10d, hn_10d, c6d, c7d, ur_26d, haskedd, c8d, c9d, c10d, c11d, c12d, c13d, c14d, c15d, rfl, rfl, rfl, rfl⟩ | ⟨c1d, c2d, ur_3d, hmove1d, c3d, ur_4d, hdropd, c4d, c5d, n_10d, hn_10d, c6d, rfl, rfl, rfl, rfl⟩ | ⟨c1d, c2d, rfl, rfl, rfl, rfl⟩
    · exfalso; omega
    · exact ⟨main (by omega) (by omega) htakeOut hn_20 htakeIn hmove1d hdropd c4d (fun n en _ => Or.inr ⟨by
        obtain rfl : n_10d = n := Int.ofNat_inj.mp (hn_10d.trans en.symm)
        exact c6d, Or.inl ⟨c7d, c8d, c9d, _, hrefusedd⟩⟩), rfl⟩
    · exact ⟨main (by omega) (by omega) htakeOut hn_20 htakeIn hmove1d hdropd c4d (fun n en _ => Or.inr ⟨by
        obtain rfl : n_10d = n := Int.ofNat_inj.mp (hn_10d.trans en.symm)
        exact c6d, Or.inr (Or.inl ⟨c9d, _, _, by
          obtain rfl : n_10d = n := Int.ofNat_inj.mp (hn_10d.trans en.symm)
          rw [ex_23d, ex_22d]; rfl, hanswerSomed⟩)⟩), rfl⟩
    · exact ⟨main (by omega) (by omega) htakeOut hn_20 htakeIn hmove1d hdropd c4d (fun n en _ => Or.inr ⟨by
        obtain rfl : n_10d = n := Int.ofNat_inj.mp (hn_10d.trans en.symm)
        exact c6d, Or.inr (Or.inr (Or.inl ⟨c8d, _, hrepliedd⟩))⟩), rfl⟩
    · exact ⟨main (by omega) (by omega) htakeOut hn_20 htakeIn hmove1d hdropd c4d (fun n en _ => Or.inr ⟨by
        obtain rfl : n_10d = n := Int.ofNat_inj.mp (hn_10d.trans en.symm)
        exact c6d, Or.inr (Or.inr (Or.inr ⟨c7d, _, haskedd⟩))⟩), rfl⟩
    · exact ⟨main (by omega) (by omega) htakeOut hn_20 htakeIn hmove1d hdropd c4d (fun n en _ => Or.inl ⟨by
        obtain rfl : n_10d = n := Int.ofNat_inj.mp (hn_10d.trans en.symm)
        exact c6d, rfl, rfl⟩), rfl⟩
    · exfalso; omega
  · rw [hS.1.2.2] at hhas
    have k := e_has hhas
    rw [eZ, eZR]
    rcases hd with ⟨c1d, rfl, rfl, rfl, rfl⟩ | ⟨c1d, c2d, ur_3d, hmove1d, c3d, ur_4d, hdropd, c4d, c5d, n_10d, hn_10d, c6d, c7d, c8d, c9d, ur_19d, hrefusedd, c10d, c11d, c12d, c13d, c14d, c15d, c16d, c17d, rfl, rfl, rfl, rfl⟩ | ⟨c1d, c2d, ur_3d, hmove1d, c3d, ur_4d, hdropd, c4d, c5d, n_10d, hn_10d, c6d, c7d, c8d, c9d, x_22d, ex_22d, x_23d, ex_23d, ur_24d, hanswerSomed, c10d, c11d, c12d, c13d, rfl, rfl, rfl, rfl⟩ | ⟨c1d, c2d, ur_3d, hmove1d, c3d, ur_4d, hdropd, c4d, c5d, n_10d, hn_10d, c6d, c7d, c8d, ur_25d, hrepliedd, c9d, c10d, c11d, c12d, rfl, rfl, rfl, rfl⟩ | ⟨c1d, c2d, ur_3d, hmove1d, c3d, ur_4d, hdropd, c4d, c5d, n_10d, hn_10d, c6d, c7d, ur_26d, haskedd, c8d, c9d, c10d, c11d, c12d, c13d, c14d, c15d, rfl, rfl, rfl, rfl⟩ | ⟨c1d, c2d, ur_3d, hmove1d, c3d, ur_4d, hdropd, c4d, c5d, n_10d, hn_10d, c6d, rfl, rfl, rfl, rfl⟩ | ⟨c1d, c2d, rfl, rfl, rfl, rfl⟩
    · exact ⟨h, rfl⟩
    · exfalso; omega
    · exfalso; omega
    · exfalso; omega
    · exfalso; omega
    · exfalso; omega
    · exact ⟨h, rfl⟩
end
