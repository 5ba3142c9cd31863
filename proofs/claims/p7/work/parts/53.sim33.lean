/-- a WRITE, a READ or an ADD that is expected -/
theorem s_takeReach {x q tk : Nat} {G : Nat → Nat} {t0 t1 t2 : Int32} {B : AA} {R : RR} {A : AA} {pk cd : Int32} (h : SIM x t0 t1 t2 B R A pk) (hV : RW A pk) (hI2 : I2 (A 5) (A 6)) (hq : q < 4) (hst : (A 10 q).toInt = 1) {p : Int32} (hp : (q : Int) = p.toInt) (htk : R (x + 1) 2 = x + 3 + 2 * tk) (htk6 : tk < 26) (hT : TKP x tk B A) (hk : 1 ≤ (A 42 24).toInt ∧ (A 42 24).toInt ≤ 3) (hmk : 0 ≤ (A 45 24).toInt ∧ (A 45 24).toInt ≤ 5) (hpl : -1 ≤ (A 46 24).toInt ∧ (A 46 24).toInt ≤ 60) (h37 : 0 ≤ (A 37 q).toInt ∧ (A 37 q).toInt ≤ 2) {U : AA} {r : Int32} (hc : C_X8_takeReach G B R (x + 85 + 17 * q) (x + 3 + 2 * tk) U r) {Z : AA} (hf : (r.toInt = 0 ∧ Z = U) ∨ (¬ r.toInt = 0 ∧ C_X3_fail G U R (x + 84 + 17 * q) 5 r Z)) {A' : AA} {cdz pkz : Int32} (hd : D_X10_fresh A cd pk p A' cdz pkz) : SIM x t0 t1 t2 Z R A' pkz := by
  have hh := h
  obtain ⟨hS, -, -, -, -, hPQ⟩ := hh
  obtain ⟨hC, hPS, -, -, -⟩ := hPQ q hq
  have p6 := hPS.2.2.2.2.2.1
  have hT0 := hT
  obtain ⟨⟨y0, y1, y2, y3, y4, y5, y6⟩, yc, ⟨y7, y8, -, -, y11, y12⟩⟩ := hT
  have hsh := hS.2.2.2.2.2.1 q hq
  have y1i := congrArg Int32.toInt y1
  have y3i := congrArg Int32.toInt y3
  have y5i := congrArg Int32.toInt y5
  have i0 := i_0
  have i1 := i_1t
  have i2 := i_2
  have i4 := i_4
  have i5 : (5 : Int32).toInt = 5 := by decide
  unfold C_X8_takeReach at hc
  rw [hsh.1] at hc
  -- what both sides allow
  have al : ∀ {v n t v' : Int32}, C_X1_allows G B R (x + 56 + 10 * (q % 2)) (B (x + 3 + 2 * tk) 4) (B (x + 3 + 2 * tk) 5) n t v → D_X10_allows A cd pk p (A 45 24) (A 46 24) n t v' → 1 ≤ n.toInt ∧ n.toInt ≤ 12 → (t = 1 ∨ t = 2 ∨ t = 4) → (v.toInt = 0 ∧ v'.toInt = 0) ∨ (¬ v.toInt = 0 ∧ ¬ v'.toInt = 0 ∧ 0 ≤ (A 46 24).toInt ∧ (A 46 24).toInt + n.toInt ≤ 32) := fun a b c d => by
    rw [y4, y5] at a
    exact s_allows h hI2 hq hp hmk hpl c d a b
  have rf : ∀ {U : AA}, C_X8_refuse G B R (x + 85 + 17 * q) (B (x + 3 + 2 * tk) 2) 3 U → C_X3_fail G U R (x + 84 + 17 * q) 5 5 Z → ∀ {A2 : AA} {c k : Int32}, D_X10_refuse A cd pk p 3 A2 c k → SIM x t0 t1 t2 Z R A2 k := fun {U} a b {A2 c k} e => s_refuse h hV hq hp y2 y7 (by decide) (Or.inl ⟨by decide, rfl⟩) a b e
  have fin : ∀ {X Y : AA} {w : Int32}, X = Y → SIM x t0 t1 t2 Z R X w → SIM x t0 t1 t2 Z R Y w := fun e k => e ▸ k
  rcases hd with ⟨c1d, c2d, c3d, c4d, r_16d, hallowsd, er_16d, c5d, ur_20d, hfreshAddd, c6d, c7d, c8d, rfl, rfl, rfl⟩ | ⟨c1d, c2d, c3d, c4d, r_16d, hallowsd, er_16d, c5d, ur_21d, hrefused, c6d, c7d, c8d, c9d, c10d, rfl, rfl, rfl⟩ | ⟨c1d, c2d, c3d, c4d, r_22d, hallowsd, er_22d, c5d, c6d, ur_26d, hfreshAddd, c7d, c8d, c9d, rfl, rfl, rfl⟩ | ⟨c1d, c2d, c3d, c4d, r_22d, hallowsd, er_22d, c5d, c6d, ur_27d, hreadsd, c7d, c8d, x_28d, ex_28d, fx_28d, x_29d, ex_29d, fx_29d, ur_30d, hacceptd, rfl, rfl, rfl⟩ | ⟨c1d, c2d, c3d, c4d, r_22d, hallowsd, er_22d, c5d, ur_31d, hrefused, c6d, c7d, c8d, c9d, c10d, rfl, rfl, rfl⟩ | ⟨c1d, c2d, c3d, r_32d, hallowsd, er_32d, c4d, c5d, ur_36d, hfreshAddd, c6d, c7d, c8d, rfl, rfl, rfl⟩ | ⟨c1d, c2d, c3d, r_32d, hallowsd, er_32d, c4d, c5d, x_37d, ex_37d, fx_37d, x_38d, ex_38d, fx_38d, x_40d, ex_40d, fx_40d, ur_41d, htakeCellsd, ur_42d, hacceptd, ur_44d, hackd, c6d, c7d, c8d, rfl, rfl, rfl⟩ | ⟨c1d, c2d, c3d, r_32d, hallowsd, er_32d, c4d, ur_45d, hrefused, c5d, c6d, c7d, c8d, c9d, rfl, rfl, rfl⟩ | ⟨c1d, c2d, r_52d, hallowsd, er_52d, c3d, ur_56d, hfreshAddd, c4d, c5d, c6d, rfl, rfl, rfl⟩ | ⟨c1d, c2d, r_52d, hallowsd, er_52d, c3d, ur_57d, hrefused, c4d, c5d, c6d, c7d, c8d, rfl, rfl, rfl⟩ | ⟨c1d, ur_58d, hfreshSendd, c2d, c3d, c4d, c5d, c6d, c7d, c8d, c9d, rfl, rfl, rfl⟩
  · exfalso; omega
  · exfalso; omega
  · exfalso; omega
  · -- READ
    have sz := y12 c4d
    rcases hc with ⟨r_4, hisAllowed, c1, c2, c3, U_12, hF, hunload, U_15, hF_1, hadvance, U_20, hF_2, hacknowledge, eZ, rfl⟩ | ⟨r_4, hisAllowed, c1, c2, c3, r_22, U_23, hF, hgrowCell, U_26, hF_1, hreplyOne, U_29, hF_2, hadvance, eZ, rfl⟩ | ⟨r_4, hisAllowed, c1, c2, U_32, hF, hreplyCells, x_35, ex_35, U_38, hF_1, hadvance, eZ, rfl⟩ | ⟨r_4, hisAllowed, c1, U_42, hF, hrefuse, eZ, rfl⟩
    · exfalso; omega
    · exfalso; omega
    · have ka := e_isAllowed hisAllowed
      rcases ka with ⟨k, -⟩ | ⟨k, ka⟩ | ⟨-, k, -⟩
      · exfalso; omega
      · rw [y3] at ka
        have k2 := al ka hallowsd sz (Or.inr (Or.inl rfl))
        have hz := (hf.resolve_right (fun e => e.1 i0)).2
        obtain ⟨a1, a2, a3, a4, a5, a6⟩ := s_reads h hV hq hp htk hT0 sz.2 (by omega) hreplyCells hreadsd
        have e14 := a5 14 (by omega)
        obtain ⟨v, ev, e4⟩ := r_accept hacceptd hp (by rw [e14]; exact p6) (by omega)
        have ex : x_35.toInt = x_29d.toInt := by
          have e3 := congrArg Int32.toInt a3.1.2.2.2.1
          have e44 := congrArg Int32.toInt (a6 44 (by decide) (by decide))
          rw [nmb (by omega) ex_35]; omega
        obtain ⟨f1, -, -⟩ := a1.adv a2 hq (by rw [a5 10 (by omega)]; exact hst) hadvance (v := v) (by rw [ex]; exact ev)
        rw [hz, eZ]
        rw [hz, eZ] at fin
        rw [← e4] at f1
        exact f1
      · exfalso; omega
    · have ka := e_isAllowed hisAllowed
      rcases ka with ⟨k, -⟩ | ⟨k, ka⟩ | ⟨-, k, -⟩
      · exfalso; omega
      · rw [y3] at ka
        have k2 := al ka hallowsd sz (Or.inr (Or.inl rfl))
        exfalso; omega
      · exfalso; omega
  · have sz := y12 c4d
    rcases hc with ⟨r_4, hisAllowed, c1, c2, c3, U_12, hF, hunload, U_15, hF_1, hadvance, U_20, hF_2, hacknowledge, eZ, rfl⟩ | ⟨r_4, hisAllowed, c1, c2, c3, r_22, U_23, hF, hgrowCell, U_26, hF_1, hreplyOne, U_29, hF_2, hadvance, eZ, rfl⟩ | ⟨r_4, hisAllowed, c1, c2, U_32, hF, hreplyCells, x_35, ex_35, U_38, hF_1, hadvance, eZ, rfl⟩ | ⟨r_4, hisAllowed, c1, U_42, hF, hrefuse, eZ, rfl⟩
    · exfalso; omega
    · exfalso; omega
    · have ka := e_isAllowed hisAllowed
      rcases ka with ⟨k, -⟩ | ⟨k, ka⟩ | ⟨-, k, -⟩
      · exfalso; omega
      · rw [y3] at ka
        have k2 := al ka hallowsd sz (Or.inr (Or.inl rfl))
        exfalso; omega
      · exfalso; omega
    · obtain ⟨-, hf⟩ := hf.resolve_left (fun e => by omega)
      rw [eZ] at hf
      exact rf hrefuse hf hrefused
  · exfalso; omega
  · -- WRITE
    have sz := y11 (Or.inr (Or.inl c3d))
    have ycs := yc (Or.inr (Or.inl c3d))
    rcases hc with ⟨r_4, hisAllowed, c1, c2, c3, U_12, hF, hunload, U_15, hF_1, hadvance, U_20, hF_2, hacknowledge, eZ, rfl⟩ | ⟨r_4, hisAllowed, c1, c2, c3, r_22, U_23, hF, hgrowCell, U_26, hF_1, hreplyOne, U_29, hF_2, hadvance, eZ, rfl⟩ | ⟨r_4, hisAllowed, c1, c2, U_32, hF, hreplyCells, x_35, ex_35, U_38, hF_1, hadvance, eZ, rfl⟩ | ⟨r_4, hisAllowed, c1, U_42, hF, hrefuse, eZ, rfl⟩
    · have ka := e_isAllowed hisAllowed
      rcases ka with ⟨k, ka⟩ | ⟨k, -⟩ | ⟨k, -⟩
      · rw [y3] at ka
        have k2 := al ka hallowsd (by omega) (Or.inl rfl)
        have hz := (hf.resolve_right (fun e => e.1 i0)).2
        obtain ⟨f0, hf0⟩ : ∃ f0 : Nat, (f0 : Int) = (A 46 24).toInt := ⟨(A 46 24).toInt.toNat, by omega⟩
        have h7 := hS.2.2.2.2.2.2.2.2.2 tk htk6
        obtain ⟨wn, hw, eU⟩ := e_unload hunload (by rw [h7]; omega) (hS.2.1 (q % 2) (by omega)).2.1 (by omega) (by omega) (f0 := f0) (by rw [y5]; exact hf0) (by omega) (by omega) (Or.inl (by omega))
        have hwn : (wn : Int) = (A 44 24).toInt := by
          rcases hw with ⟨-, e⟩ | ⟨-, -, e⟩
          · omega
          · rw [if_pos (by omega)] at e; omega
        obtain ⟨-, -, eA⟩ := r_take htakeCellsd (f0 := 32 * (q % 2) + f0) (w := wn) (by rw [fx_40d, fx_38d, fx_37d]; omega) hwn (by omega)
        have s1 := h.cells hV (nd := q % 2) (f0 := f0) (w := wn) (by omega) (Or.inr (by omega)) (g := B (x + 3 + 2 * tk + 1)) (g' := fun k => A 48 (96 + k)) (fun k hk => by
          rw [show x + 3 + 2 * tk + 1 = x + 4 + 2 * tk by omega]
          exact ycs k (by omega) (by omega))
        rw [← eA, ← eU] at s1
        obtain ⟨v, ev, e4⟩ := r_accept hacceptd hp p6 (by decide)
        have hEa := r_ack (c := fun _ => 0) hackd hV.2.2
        obtain ⟨f1, f2, f3⟩ := s1.adv (hV.cg rfl rfl rfl) hq hst hadvance (v := v) ev
        rw [← e4] at f1 f2
        obtain ⟨n, hn, h24⟩ := f1.np f2
        have hCC := (f1.2.2.2.2.2 q hq).1
        have eto2 : U_15 (x + 85 + 17 * q) 0 = peerT p := i32_eq (by rw [hCC.2.2.2.2.1, peer_e hq hp])
        have hEC := e_ack (c := fun _ => 0) f1.1 hq hn h24 hacknowledge
        rw [eto2, y2] at hEC
        rw [hz, eZ]
        exact (f1.em f2 hEC hEa ⟨y7, by omega, fun e => by omega, fun e => by omega, fun e => by omega, fun e => by omega⟩).1
      · exfalso; omega
      · exfalso; omega
    · exfalso; omega
    · exfalso; omega
    · have ka := e_isAllowed hisAllowed
      rcases ka with ⟨k, ka⟩ | ⟨k, -⟩ | ⟨k, -⟩
      · rw [y3] at ka
        have k2 := al ka hallowsd (by omega) (Or.inl rfl)
        exfalso; omega
      · exfalso; omega
      · exfalso; omega
  · have sz := y11 (Or.inr (Or.inl c3d))
    rcases hc with ⟨r_4, hisAllowed, c1, c2, c3, U_12, hF, hunload, U_15, hF_1, hadvance, U_20, hF_2, hacknowledge, eZ, rfl⟩ | ⟨r_4, hisAllowed, c1, c2, c3, r_22, U_23, hF, hgrowCell, U_26, hF_1, hreplyOne, U_29, hF_2, hadvance, eZ, rfl⟩ | ⟨r_4, hisAllowed, c1, c2, U_32, hF, hreplyCells, x_35, ex_35, U_38, hF_1, hadvance, eZ, rfl⟩ | ⟨r_4, hisAllowed, c1, U_42, hF, hrefuse, eZ, rfl⟩
    · have ka := e_isAllowed hisAllowed
      rcases ka with ⟨k, ka⟩ | ⟨k, -⟩ | ⟨k, -⟩
      · rw [y3] at ka
        have k2 := al ka hallowsd (by omega) (Or.inl rfl)
        exfalso; omega
      · exfalso; omega
      · exfalso; omega
    · exfalso; omega
    · exfalso; omega
    · obtain ⟨-, hf⟩ := hf.resolve_left (fun e => by omega)
      rw [eZ] at hf
      exact rf hrefuse hf hrefused
  · -- ADD
    rcases hc with ⟨r_4, hisAllowed, c1, c2, c3, U_12, hF, hunload, U_15, hF_1, hadvance, U_20, hF_2, hacknowledge, eZ, rfl⟩ | ⟨r_4, hisAllowed, c1, c2, c3, r_22, U_23, hF, hgrowCell, U_26, hF_1, hreplyOne, U_29, hF_2, hadvance, eZ, rfl⟩ | ⟨r_4, hisAllowed, c1, c2, U_32, hF, hreplyCells, x_35, ex_35, U_38, hF_1, hadvance, eZ, rfl⟩ | ⟨r_4, hisAllowed, c1, U_42, hF, hrefuse, eZ, rfl⟩
    · exfalso; omega
    · have ka := e_isAllowed hisAllowed
      rcases ka with ⟨k, -⟩ | ⟨k, -⟩ | ⟨-, -, ka⟩
      · exfalso; omega
      · exfalso; omega
      · have k2 := al ka hallowsd (by decide) (Or.inr (Or.inr rfl))
        have hz := (hf.resolve_right (fun e => e.1 i0)).2
        rw [hz, eZ]
        exact s_freshAdd h hV hq hst hp htk htk6 hT0 (by omega) h37 hgrowCell hreplyOne hadvance hfreshAddd
    · exfalso; omega
    · have ka := e_isAllowed hisAllowed
      rcases ka with ⟨k, -⟩ | ⟨k, -⟩ | ⟨-, -, ka⟩
      · exfalso; omega
      · exfalso; omega
      · have k2 := al ka hallowsd (by decide) (Or.inr (Or.inr rfl))
        exfalso; omega
  · rcases hc with ⟨r_4, hisAllowed, c1, c2, c3, U_12, hF, hunload, U_15, hF_1, hadvance, U_20, hF_2, hacknowledge, eZ, rfl⟩ | ⟨r_4, hisAllowed, c1, c2, c3, r_22, U_23, hF, hgrowCell, U_26, hF_1, hreplyOne, U_29, hF_2, hadvance, eZ, rfl⟩ | ⟨r_4, hisAllowed, c1, c2, U_32, hF, hreplyCells, x_35, ex_35, U_38, hF_1, hadvance, eZ, rfl⟩ | ⟨r_4, hisAllowed, c1, U_42, hF, hrefuse, eZ, rfl⟩
    · exfalso; omega
    · have ka := e_isAllowed hisAllowed
      rcases ka with ⟨k, -⟩ | ⟨k, -⟩ | ⟨-, -, ka⟩
      · exfalso; omega
      · exfalso; omega
      · have k2 := al ka hallowsd (by decide) (Or.inr (Or.inr rfl))
        exfalso; omega
    · exfalso; omega
    · obtain ⟨-, hf⟩ := hf.resolve_left (fun e => by omega)
      rw [eZ] at hf
      exact rf hrefuse hf hrefused
  · exfalso; omega
