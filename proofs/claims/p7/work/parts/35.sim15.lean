/-- a change of the fabric alone -/
theorem SIM.fbw {x : Nat} {t0 t1 t2 : Int32} {B Z : AA} {R Y : RR} {A A' : AA} {pk pk' : Int32} (h : SIM x t0 t1 t2 B R A pk) (hV : RW A pk) (hS : SHX x Y) (hF : ∃ (pm : Nat → Nat) (tk : Nat), DYN x Y pm tk ∧ FB x pm Z A' pk') (hZ : ∀ a, ¬ (x + 1 ≤ a ∧ a < x + 55) → Z a = B a) (hj : ∀ j, j < 41 → A' j = A j) : SIM x t0 t1 t2 Z Y A' pk' := by
  obtain ⟨h1, -, h4, h5, h6, h7⟩ := h
  refine ⟨hS, hF, fun m hm c hc => ?_, fun m hm j hj2 => ?_, fun m hm => ?_, fun q' hq' => ?_⟩
  · rw [hZ _ (by omega), hj 4 (by omega)]; exact h4 m hm c hc
  · rw [hZ _ (by omega), hj 5 (by omega), hj 6 (by omega), hj 7 (by omega)]; exact h5 m hm j hj2
  · exact (h6 m hm).cg (hZ _ (by omega)) (hZ _ (by omega)) (by rw [hj 8 (by omega)]) (fun k _ _ => by rw [hj 9 (by omega)]) (hV.1 m hm).2
  · exact (h7 q' hq').cg (fun a k1 k2 => hZ a (by omega)) (AGR.of (fun j _ k2 => hj j (by omega))) (hV.2.1 q' hq').1.2 (hV.2.1 q' hq').2.2
theorem e_fbt {G : Nat → Nat} {B : AA} {R : RR} {H : Nat} {Z : AA} {r : Int32} (h : C_X3_failsByTime G B R H Z r) : r = 0 ∨ r = 1 := by
  rcases h with ⟨c1, rfl, rfl⟩ | ⟨c1, r_5, U_6, hF, hwaitsTooLong, c2, U_10, hF_1, hfail, rfl, rfl⟩ | ⟨c1, r_5, U_6, hF, hwaitsTooLong, c2, rfl, rfl⟩
  · exact Or.inl rfl
  · exact Or.inr rfl
  · exact Or.inl rfl
theorem e_tick {x : Nat} {G : Nat → Nat} {B : AA} {R : RR} {Z : AA} {r : Int32} (hS : SHX x R) (h : C_X9_tick G B R x Z r) : ∃ (U1 U2 U3 : AA) (r1 r2 r3 r4 : Int32), C_X3_failsByTime G B R (x + 84 + 17 * 0) U1 r1 ∧ C_X3_failsByTime G U1 R (x + 84 + 17 * 1) U2 r2 ∧ C_X3_failsByTime G U2 R (x + 84 + 17 * 2) U3 r3 ∧ C_X3_failsByTime G U3 R (x + 84 + 17 * 3) Z r4 ∧ r.toInt = (if r1.toInt = 0 then 0 else 1) + (if r2.toInt = 0 then 0 else 1) + (if r3.toInt = 0 then 0 else 1) + (if r4.toInt = 0 then 0 else 1) := by
  rcases h with ⟨r_7, U_8, hF, hfailsByTime, c1, r_15, U_16, hF_1, hfailsByTime_1, c2, r_23, U_24, hF_2, hfailsByTime_2, c3, r_31, U_32, hF_3, hfailsByTime_3, c4, rfl, rfl⟩ | ⟨r_7, U_8, hF, hfailsByTime, c1, r_15, U_16, hF_1, hfailsByTime_1, c2, r_23, U_24, hF_2, hfailsByTime_2, c3, r_31, U_32, hF_3, hfailsByTime_3, c4, rfl, rfl⟩ | ⟨r_7, U_8, hF, hfailsByTime, c1, r_15, U_16, hF_1, hfailsByTime_1, c2, r_23, U_24, hF_2, hfailsByTime_2, c3, r_41, U_42, hF_3, hfailsByTime_3, c4, rfl, rfl⟩ | ⟨r_7, U_8, hF, hfailsByTime, c1, r_15, U_16, hF_1, hfailsByTime_1, c2, r_23, U_24, hF_2, hfailsByTime_2, c3, r_41, U_42, hF_3, hfailsByTime_3, c4, rfl, rfl⟩ | ⟨r_7, U_8, hF, hfailsByTime, c1, r_15, U_16, hF_1, hfailsByTime_1, c2, r_51, U_52, hF_2, hfailsByTime_2, c3, r_59, U_60, hF_3, hfailsByTime_3, c4, rfl, rfl⟩ | ⟨r_7, U_8, hF, hfailsByTime, c1, r_15, U_16, hF_1, hfailsByTime_1, c2, r_51, U_52, hF_2, hfailsByTime_2, c3, r_59, U_60, hF_3, hfailsByTime_3, c4, rfl, rfl⟩ | ⟨r_7, U_8, hF, hfailsByTime, c1, r_15, U_16, hF_1, hfailsByTime_1, c2, r_51, U_52, hF_2, hfailsByTime_2, c3, r_69, U_70, hF_3, hfailsByTime_3, c4, rfl, rfl⟩ | ⟨r_7, U_8, hF, hfailsByTime, c1, r_15, U_16, hF_1, hfailsByTime_1, c2, r_51, U_52, hF_2, hfailsByTime_2, c3, r_69, U_70, hF_3, hfailsByTime_3, c4, rfl, rfl⟩ | ⟨r_7, U_8, hF, hfailsByTime, c1, r_79, U_80, hF_1, hfailsByTime_1, c2, r_87, U_88, hF_2, hfailsByTime_2, c3, r_95, U_96, hF_3, hfailsByTime_3, c4, rfl, rfl⟩ | ⟨r_7, U_8, hF, hfailsByTime, c1, r_79, U_80, hF_1, hfailsByTime_1, c2, r_87, U_88, hF_2, hfailsByTime_2, c3, r_95, U_96, hF_3, hfailsByTime_3, c4, rfl, rfl⟩ | ⟨r_7, U_8, hF, hfailsByTime, c1, r_79, U_80, hF_1, hfailsByTime_1, c2, r_87, U_88, hF_2, hfailsByTime_2, c3, r_105, U_106, hF_3, hfailsByTime_3, c4, rfl, rfl⟩ | ⟨r_7, U_8, hF, hfailsByTime, c1, r_79, U_80, hF_1, hfailsByTime_1, c2, r_87, U_88, hF_2, hfailsByTime_2, c3, r_105, U_106, hF_3, hfailsByTime_3, c4, rfl, rfl⟩ | ⟨r_7, U_8, hF, hfailsByTime, c1, r_79, U_80, hF_1, hfailsByTime_1, c2, r_115, U_116, hF_2, hfailsByTime_2, c3, r_123, U_124, hF_3, hfailsByTime_3, c4, rfl, rfl⟩ | ⟨r_7, U_8, hF, hfailsByTime, c1, r_79, U_80, hF_1, hfailsByTime_1, c2, r_115, U_116, hF_2, hfailsByTime_2, c3, r_123, U_124, hF_3, hfailsByTime_3, c4, rfl, rfl⟩ | ⟨r_7, U_8, hF, hfailsByTime, c1, r_79, U_80, hF_1, hfailsByTime_1, c2, r_115, U_116, hF_2, hfailsByTime_2, c3, r_133, U_134, hF_3, hfailsByTime_3, c4, rfl, rfl⟩ | ⟨r_7, U_8, hF, hfailsByTime, c1, r_79, U_80, hF_1, hfailsByTime_1, c2, r_115, U_116, hF_2, hfailsByTime_2, c3, r_133, U_134, hF_3, hfailsByTime_3, c4, rfl, rfl⟩
  all_goals
    rw [hS.1.2.1, (hS.2.2.1 0 (by decide)).1] at hfailsByTime
    rw [hS.1.2.1, (hS.2.2.1 1 (by decide)).1] at hfailsByTime_1
    rw [hS.1.2.1, (hS.2.2.1 2 (by decide)).1] at hfailsByTime_2
    rw [hS.1.2.1, (hS.2.2.1 3 (by decide)).1] at hfailsByTime_3
    refine ⟨_, _, _, _, _, _, _, hfailsByTime, hfailsByTime_1, hfailsByTime_2, hfailsByTime_3, ?_⟩
    simp only [c1, c2, c3, c4, if_true, if_false]
    decide
theorem s_tickC {x : Nat} {G : Nat → Nat} {t0 t1 t2 : Int32} (ht : 2 ≤ t0.toInt) {B : AA} {R : RR} {A : AA} {pk cd : Int32} (h : SIM x t0 t1 t2 B R A pk) (hV : RIV A pk) {Z : AA} {r : Int32} (hc : C_X9_tick G B R x Z r) {A' : AA} {cdz pkz r' : Int32} (hd : D_X10_tick t0 t1 t2 A cd pk A' cdz pkz r') : SIM x t0 t1 t2 Z R A' pk ∧ pkz = pk ∧ r = r' := by
  obtain ⟨U1, U2, U3, r1, r2, r3, r4, f1, f2, f3, f4, er⟩ := e_tick h.1 hc
  rcases hd with ⟨ur_2d, r_2d, htickPaird, c1d, c2d, c3d, x_3d, ex_3d, ur_5d, r_5d, htickPaird_1, c4d, c5d, c6d, x_6d, ex_6d, ur_8d, r_8d, htickPaird_2, c7d, c8d, c9d, x_9d, ex_9d, ur_11d, r_11d, htickPaird_3, c10d, c11d, c12d, x_12d, ex_12d, rfl, rfl, rfl, rfl⟩
  obtain ⟨g1, e1⟩ := s_tickPair ht h hV.w (q := 0) (by decide) (by decide) f1 htickPaird
  obtain ⟨g2, e2⟩ := s_tickPair ht g1 (RW.of c1d c3d hV.2) (q := 1) (by decide) (by decide) f2 htickPaird_1
  obtain ⟨g3, e3⟩ := s_tickPair ht g2 (RW.of c4d c6d hV.2) (q := 2) (by decide) (by decide) f3 htickPaird_2
  obtain ⟨g4, e4⟩ := s_tickPair ht g3 (RW.of c7d c9d hV.2) (q := 3) (by decide) (by decide) f4 htickPaird_3
  refine ⟨?_, rfl, ?_⟩
  · have e : ∀ {X Y : AA} {v : Int32}, X = Y → SIM x t0 t1 t2 Z R X v → SIM x t0 t1 t2 Z R Y v := fun e k => e ▸ k
    refine e ?_ g4
    clear g1 g2 g3 g4 f1 f2 f3 f4 htickPaird htickPaird_1 htickPaird_2 htickPaird_3 hc
    funext j
    by_cases a1 : j = 36
    · subst a1; rfl
    by_cases a2 : j = 30
    · subst a2; rfl
    by_cases a3 : j = 20
    · subst a3; rfl
    by_cases a4 : j = 18
    · subst a4; rfl
    by_cases a5 : j = 16
    · subst a5; rfl
    by_cases a6 : j = 15
    · subst a6; rfl
    by_cases a7 : j = 13
    · subst a7; rfl
    by_cases a8 : j = 10
    · subst a8; rfl
    by_cases a9 : j = 9
    · subst a9; rfl
    by_cases a10 : j = 8
    · subst a10; rfl
    simp only [uA_n a1, uA_n a2, uA_n a3, uA_n a4, uA_n a5, uA_n a6, uA_n a7, uA_n a8, uA_n a9, uA_n a10]
  · apply i32_eq
    rw [er, ex_12d, ex_9d, ex_6d, ex_3d, ← e1, ← e2, ← e3, ← e4]
    rcases e_fbt f1 with k1 | k1 <;> rcases e_fbt f2 with k2 | k2 <;> rcases e_fbt f3 with k3 | k3 <;> rcases e_fbt f4 with k4 | k4 <;> rw [k1, k2, k3, k4] <;> decide
theorem PKT.cg2 {b c b' c' : Nat → Int32} {A A' : AA} {i i' : Nat} (h : PKT b c A i) (hb : ∀ j, j < 7 → b' j = b j) (hc : ∀ k, k < 4 → c' k = c k) (hj : ∀ j, 41 ≤ j → j ≤ 47 → A' j i' = A j i) (h48 : ∀ k, k < 4 → A' 48 (4 * i' + k) = A 48 (4 * i + k)) : PKT b' c' A' i' := by
  unfold PKT PKR at h ⊢
  rw [hj 41 (by omega) (by omega), hj 42 (by omega) (by omega), hj 43 (by omega) (by omega), hj 44 (by omega) (by omega), hj 45 (by omega) (by omega), hj 46 (by omega) (by omega), hj 47 (by omega) (by omega), hb 0 (by omega), hb 1 (by omega), hb 2 (by omega), hb 3 (by omega), hb 4 (by omega), hb 5 (by omega), hb 6 (by omega)]
  exact ⟨h.1, fun hk k h1 h2 => by rw [h48 k h1, hc k h1]; exact h.2.1 hk k h1 h2, h.2.2⟩
theorem r_move1 {A : AA} {cd pk p0 p1 : Int32} {Z : AA} {cdz pkz : Int32} {k n : Nat} (h : D_X10_move1 A cd pk p0 p1 Z cdz pkz) (hk : (k : Int) = p0.toInt) (hn : (n : Int) = p1.toInt) (hne : k ≠ n) : cdz = cd ∧ pkz = pk ∧ (∀ j, 41 ≤ j → j ≤ 47 → Z j = upd (A j) n (A j k)) ∧ (∀ c, c < 4 → Z 48 (4 * n + c) = A 48 (4 * k + c)) ∧ (∀ c, ¬ (4 * n ≤ c ∧ c < 4 * n + 4) → Z 48 c = A 48 c) ∧ ∀ j, (j < 41 ∨ 48 < j) → Z j = A j := by
  rcases h with ⟨n_3, hn_3, n_9, hn_9, g_8, rfl, g_11, rfl, g_13, rfl, g_15, rfl, g_17, rfl, g_19, rfl, g_21, rfl, x_23, ex_23, fx_23, x_24, ex_24, fx_24, x_25, ex_25, fx_25, x_26, ex_26, fx_26, n_29, hn_29, n_32, hn_32, g_31, rfl, x_34, ex_34, fx_34, x_35, ex_35, fx_35, n_38, hn_38, n_41, hn_41, g_40, rfl, x_43, ex_43, fx_43, x_44, ex_44, fx_44, n_47, hn_47, n_50, hn_50, g_49, rfl, x_52, ex_52, fx_52, x_53, ex_53, fx_53, n_56, hn_56, n_59, hn_59, g_58, rfl, rfl, rfl, rfl⟩
  obtain rfl : n_3 = k := by omega
  obtain rfl : n_9 = n := by omega
  obtain rfl : n_29 = 4 * n_3 := by omega
  obtain rfl : n_32 = 4 * n_9 := by omega
  obtain rfl : n_38 = 4 * n_3 + 1 := by omega
  obtain rfl : n_41 = 4 * n_9 + 1 := by omega
  obtain rfl : n_47 = 4 * n_3 + 2 := by omega
  obtain rfl : n_50 = 4 * n_9 + 2 := by omega
  obtain rfl : n_56 = 4 * n_3 + 3 := by omega
  obtain rfl : n_59 = 4 * n_9 + 3 := by omega
  refine ⟨rfl, rfl, fun j h1 h2 => ?_, fun c hc => ?_, fun c hc => ?_, fun j hj => ?_⟩
  · rcases (show j = 41 ∨ j = 42 ∨ j = 43 ∨ j = 44 ∨ j = 45 ∨ j = 46 ∨ j = 47 by omega) with rfl | rfl | rfl | rfl | rfl | rfl | rfl <;> rfl
  · rw [uA_s]
    rcases (show c = 0 ∨ c = 1 ∨ c = 2 ∨ c = 3 by omega) with rfl | rfl | rfl | rfl
    · rw [upd_n (by omega), upd_n (by omega), upd_n (by omega), Nat.add_zero, upd_s, Nat.add_zero]
    · rw [upd_n (by omega), upd_n (by omega), upd_s, upd_n (by omega)]
    · rw [upd_n (by omega), upd_s, upd_n (by omega), upd_n (by omega)]
    · rw [upd_s, upd_n (by omega), upd_n (by omega), upd_n (by omega)]
  · rw [uA_s, upd_n (by omega), upd_n (by omega), upd_n (by omega), upd_n (by omega)]
  · rw [uA_n (by omega), uA_n (by omega), uA_n (by omega), uA_n (by omega), uA_n (by omega), uA_n (by omega), uA_n (by omega), uA_n (by omega)]
theorem e_like {G : Nat → Nat} {B : AA} {R : RR} {a p : Nat} {Z : AA} (h : C_X2_becomeLike G B R a p Z) (ha : R a 7 = a + 1) (hp : R p 7 = p + 1) (n3 : p ≠ a) (n4 : p ≠ a + 1) (n5 : p + 1 ≠ a) : (∀ j, j < 7 → Z a j = B p j) ∧ (∀ k, k < 4 → Z (a + 1) k = B (p + 1) k) ∧ ∀ z, z ≠ a → z ≠ a + 1 → Z z = B z := by
  rcases h with ⟨U_5, hF, hbecome, B_10, rfl, B_13, rfl, B_16, rfl, B_19, rfl, B_28, rfl, B_34, rfl, B_40, rfl, B_46, rfl, rfl⟩
  have eU := e_become hbecome
  subst eU
  have n1 : a ≠ a + 1 := by omega
  have n2 : a + 1 ≠ a := by omega
  have n6 : p + 1 ≠ a + 1 := by omega
  rw [ha, hp]
  refine ⟨fun j hj => ?_, fun k hk => ?_, fun z h1 h2 => ?_⟩
  · simp only [uA_s, uA_u, uA_n n1, uA_n n2, uA_n n3, uA_n n4, uA_n n5, uA_n n6]
    rcases (show j = 0 ∨ j = 1 ∨ j = 2 ∨ j = 3 ∨ j = 4 ∨ j = 5 ∨ j = 6 by omega) with rfl | rfl | rfl | rfl | rfl | rfl | rfl <;> rfl
  · simp only [uA_s, uA_u, uA_n n1, uA_n n2, uA_n n3, uA_n n4, uA_n n5, uA_n n6]
    rcases (show k = 0 ∨ k = 1 ∨ k = 2 ∨ k = 3 by omega) with rfl | rfl | rfl | rfl <;> rfl
  · simp only [uA_n h1, uA_n h2]
/-- a packet is taken out and kept as row 24 -/
theorem s_take {x : Nat} {G : Nat → Nat} {t0 t1 t2 : Int32} {B : AA} {R : RR} {A : AA} {pk p : Int32} (h : SIM x t0 t1 t2 B R A pk) (hV : RW A pk) {k : Nat} (hk : (k : Int) = p.toInt) (hkp : (k : Int) < pk.toInt) {Z : AA} {Y : RR} {r : Nat} (hc : C_X0_takeOut G B R (x + 1) p Z Y r) {A1 A2 : AA} {c0 c1 c2 c3 p1 p2 : Int32} (hm : D_X10_move1 A c0 pk p 24 A1 c1 p1) (hd : D_X10_drop A1 c2 pk p A2 c3 p2) : ∃ tk, tk < 26 ∧ r = x + 3 + 2 * tk ∧ Y (x + 1) 2 = x + 3 + 2 * tk ∧ SIM x t0 t1 t2 Z Y A2 p2 ∧ TKP x tk Z A2 ∧ (∀ j, j < 41 → A2 j = A j) ∧ p2 = pk - 1 ∧ p2.toInt = pk.toInt - 1 ∧ (∀ a, a ≠ x + 1 → a ≠ x + 2 → Y a = R a) ∧ ∀ a, ¬ (x + 1 ≤ a ∧ a < x + 55) → Z a = B a := by
  have hh := h
  obtain ⟨hS, ⟨pm, tk, hD, hF⟩, -⟩ := hh
  have hf := hF.1
  have hfi := congrArg Int32.toInt hf
  have hpk := hV.2.2
  obtain ⟨n, hn⟩ : ∃ n : Nat, (n : Int) = pk.toInt := ⟨_, Int.toNat_of_nonneg hpk.1⟩
  obtain ⟨er, hS2, hD2, c, ec1, ec2, eZ, hY⟩ := e_takeOut hS hD hc hk (n := n) (by omega) (by omega) (by omega)
  obtain ⟨-, -, m1, m2, m3, m4⟩ := r_move1 hm hk (n := 24) (by decide) (by omega)
  obtain ⟨-, d1, d2, d3, d4, d5⟩ := r_drop hd hk hn (by omega)
  have hpm := hD.2.2.2.2.1
  have hF1 : FB x pm B A1 pk := ⟨hf, fun i hi => (hF.2 i hi).cg rfl rfl (fun j a b => by rw [m1 j a b, upd_n (by omega)]) (fun c hc => m3 _ (by omega))⟩
  have ec : c = p2 := by rw [ec1, d1, hf]
  subst ec
  have hF2 := hF1.drop (tk := tk) hn (by omega) (by omega) (fun i hi => (hpm i hi).1) d1 d2 eZ d3 d4
  have hj : ∀ j, j < 41 → A2 j = A j := fun j hj => (d5 j (Or.inl hj)).trans (m4 j (Or.inl hj))
  have hZ : ∀ a, ¬ (x + 1 ≤ a ∧ a < x + 55) → Z a = B a := fun a ha => by rw [eZ, uA_n (by omega)]
  have hk26 := hpm k (by omega)
  refine ⟨pm k, hk26.1, er, hD2.1, h.fbw hV hS2 ⟨_, _, hD2, hF2⟩ hZ hj, ?_, hj, d1, d2, hY, hZ⟩
  refine (hF.2 k hkp).cg (by rw [eZ, uA_n (by omega)]) (by rw [eZ, uA_n (by omega)]) (fun j a b => ?_) (fun c hc => ?_)
  · rw [d3 j a b, if_neg (by omega), m1 j a b, upd_s]
  · rw [d4, if_neg (by omega), m2 c hc]
