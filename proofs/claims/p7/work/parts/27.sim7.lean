theorem e_takesQ {x q : Nat} {G : Nat → Nat} {B : AA} {R : RR} {r : Int32} (hS : SHX x R) (hq : q < 4) (h : C_X3_takesRequests G B R (x + 84 + 17 * q) r) : (r.toInt = 0 ∧ ¬ ((B (x + 84 + 17 * q) 2).toInt = 1 ∧ (B (x + 78 + 17 * q) 4).toInt ≠ 4)) ∨ (r.toInt = 1 ∧ (B (x + 84 + 17 * q) 2).toInt = 1 ∧ (B (x + 78 + 17 * q) 4).toInt ≠ 4) := by
  rcases h with ⟨c1, rfl⟩ | ⟨c1, r_7, hisFull, c2, rfl⟩ | ⟨c1, r_7, hisFull, c2, rfl⟩
  · exact Or.inl ⟨by decide, by omega⟩
  · rw [(hS.2.2.1 q hq).2.1, (hS.2.2.2.1 q hq).2.2] at hisFull
    rcases hisFull with ⟨c1a, rfl⟩ | ⟨c1a, rfl⟩
    · exact absurd i_0 c2
    · exact Or.inl ⟨by decide, by omega⟩
  · rw [(hS.2.2.1 q hq).2.1, (hS.2.2.2.1 q hq).2.2] at hisFull
    rcases hisFull with ⟨c1a, rfl⟩ | ⟨c1a, rfl⟩
    · exact Or.inr ⟨by decide, by omega, by omega⟩
    · exact absurd c2 (by decide)
theorem e_takesV {x q : Nat} {G : Nat → Nat} {B : AA} {R : RR} {r : Int32} (hS : SHX x R) (hq : q < 4) (h : C_X3_takesReceives G B R (x + 84 + 17 * q) r) : (r.toInt = 0 ∧ ¬ ((B (x + 84 + 17 * q) 2).toInt ≠ 2 ∧ (B (x + 88 + 17 * q) 4).toInt ≠ 4)) ∨ (r.toInt = 1 ∧ (B (x + 84 + 17 * q) 2).toInt ≠ 2 ∧ (B (x + 88 + 17 * q) 4).toInt ≠ 4) := by
  rcases h with ⟨c1, rfl⟩ | ⟨c1, r_7, hisFull, c2, rfl⟩ | ⟨c1, r_7, hisFull, c2, rfl⟩
  · exact Or.inl ⟨by decide, by omega⟩
  · rw [(hS.2.2.1 q hq).2.2, (hS.2.2.2.2.2.1 q hq).2.2.1] at hisFull
    rcases hisFull with ⟨c1a, rfl⟩ | ⟨c1a, rfl⟩
    · exact absurd i_0 c2
    · exact Or.inl ⟨by decide, by omega⟩
  · rw [(hS.2.2.1 q hq).2.2, (hS.2.2.2.2.2.1 q hq).2.2.1] at hisFull
    rcases hisFull with ⟨c1a, rfl⟩ | ⟨c1a, rfl⟩
    · exact Or.inr ⟨by decide, by omega, by omega⟩
    · exact absurd c2 (by decide)
theorem r_cells {A : AA} {cd pk p0 p1 p2 r : Int32} (h : D_X10_cellsGood A cd pk p0 p1 p2 r) : (r.toInt = 0 ∧ ¬ (0 ≤ p0.toInt ∧ p0.toInt ≤ 3 ∧ 1 ≤ p2.toInt ∧ p2.toInt ≤ 12 ∧ 0 ≤ p1.toInt ∧ p1.toInt ≤ 32 - p2.toInt)) ∨ (r.toInt = 1 ∧ 0 ≤ p0.toInt ∧ p0.toInt ≤ 3 ∧ 1 ≤ p2.toInt ∧ p2.toInt ≤ 12 ∧ 0 ≤ p1.toInt ∧ p1.toInt ≤ 32 - p2.toInt) := by
  have i3 := i_3t
  rcases h with ⟨c1, rfl⟩ | ⟨c1, c2, rfl⟩ | ⟨c1, c2, c3, rfl⟩ | ⟨c1, c2, c3, c4, rfl⟩ | ⟨c1, c2, c3, c4, x_5, ex_5, fx_5, c5, rfl⟩ | ⟨c1, c2, c3, c4, x_5, ex_5, fx_5, c5, rfl⟩
  all_goals first
    | exact Or.inl ⟨by decide, by omega⟩
    | exact Or.inr ⟨by decide, by omega⟩
theorem r_full {A : AA} {cd pk p r : Int32} {n : Nat} (h : D_X10_full A cd pk p r) (hn : (n : Int) = p.toInt) : (r.toInt = 0 ∧ (A 10 n).toInt = 1 ∧ (A 20 n).toInt ≠ 4) ∨ (r.toInt = 1 ∧ ¬ ((A 10 n).toInt = 1 ∧ (A 20 n).toInt ≠ 4)) := by
  rcases h with ⟨n_3, hn_3, c1, rfl⟩ | ⟨n_3, hn_3, c1, c2, rfl⟩ | ⟨n_3, hn_3, c1, c2, rfl⟩
  all_goals
    obtain rfl : n_3 = n := by omega
    first
      | exact Or.inl ⟨by decide, by omega⟩
      | exact Or.inr ⟨by decide, by omega⟩
theorem r_fail {A : AA} {cd pk p : Int32} {Z : AA} {cdz pkz r : Int32} (h : D_X10_fail A cd pk p Z cdz pkz r) : cdz = p := by
  rcases h with ⟨rfl, rfl, rfl, rfl⟩
  rfl
theorem r_send {A : AA} {cd pk p0 p1 p2 : Int32} {A' : AA} {cdz pkz r : Int32} (h : D_X10_send A cd pk p0 p1 p2 A' cdz pkz r) : pkz = pk ∧ ((¬ (0 ≤ p0.toInt ∧ p0.toInt ≤ 3 ∧ 1 ≤ p2.toInt ∧ p2.toInt ≤ 12 ∧ 0 ≤ p1.toInt ∧ p1.toInt ≤ 32 - p2.toInt) ∧ cdz = 1 ∧ A' = A) ∨ ((0 ≤ p0.toInt ∧ p0.toInt ≤ 3 ∧ 1 ≤ p2.toInt ∧ p2.toInt ≤ 12 ∧ 0 ≤ p1.toInt ∧ p1.toInt ≤ 32 - p2.toInt) ∧ ∃ n : Nat, (n : Int) = p0.toInt ∧ ((¬ ((A 10 n).toInt = 1 ∧ (A 20 n).toInt ≠ 4) ∧ cdz = 2 ∧ A' = A) ∨ ((A 10 n).toInt = 1 ∧ (A 20 n).toInt ≠ 4 ∧ cdz = 0 ∧ ((True ∧ D_X10_post A 0 pk p0 0 p1 p2 (-1) (-1) 0 A' 0 pk r)))))) := by
  have i5 := i_5t
  have i31 := i_31t
  have i1 := i_1t
  rcases h with ⟨r_1, hcellsGood, er_1, c1, r_3, hfull, er_3, c2, n_4, hn_4, c3, ur_6, r_6, hpost, c4, c5, c6, rfl, rfl, rfl, rfl⟩ | ⟨r_1, hcellsGood, er_1, c1, r_3, hfull, er_3, c2, n_4, hn_4, c3, ur_7, r_7, hfail, eur_7, rfl, rfl, rfl, rfl⟩ | ⟨r_1, hcellsGood, er_1, c1, ur_8, r_8, hfail, eur_8, rfl, rfl, rfl, rfl⟩
  all_goals
    refine ⟨rfl, ?_⟩
    have kc := r_cells hcellsGood
    first
      | (left; exact ⟨by omega, r_fail hfail, by simp only [uA_ii]⟩)
      | (right
         refine ⟨by omega, n_4, by assumption, ?_⟩
         have kf := r_full hfull (by assumption)
         first
           | (left; exact ⟨by omega, r_fail hfail, by simp only [uA_ii]⟩)
           | (right
              refine ⟨by omega, by omega, rfl, ?_⟩
              first
                | exact ⟨trivial, hpost⟩
                | exact Or.inl ⟨by assumption, hpost⟩
                | exact Or.inr ⟨by assumption, hpost⟩))
theorem s_sendC {x : Nat} {G : Nat → Nat} {t0 t1 t2 : Int32} {B : AA} {R : RR} {A : AA} {pk cd p0 p1 p2 : Int32} (h : SIM x t0 t1 t2 B R A pk) (hV : RIV A pk) {Z : AA} {r : Int32} (hc : C_X9_send G B R x p0 p1 p2 Z r) {A' : AA} {cdz pkz r' : Int32} (hd : D_X10_send A cd pk p0 p1 p2 A' cdz pkz r') : SIM x t0 t1 t2 Z R A' pk ∧ pkz = pk ∧ cdz = 0 ∧ r = r' := by
  have hh := h
  obtain ⟨hS, -, -, -, -, hP⟩ := hh
  obtain ⟨e1, e2⟩ := r_send hd
  have i1 := i_1t
  rcases hc with ⟨c1, c2, n_10, hn_10, r_13, htakesRequests, c3, r_22, U_23, hF, hpost, rfl, rfl⟩
  · have hq : n_10 < 4 := by omega
    rw [hS.1.2.1, (hS.2.2.1 _ hq).1] at htakesRequests hpost
    rw [(hS.2.2.1 _ hq).2.1] at hpost
    have kt := e_takesQ hS hq htakesRequests
    have k1 := congrArg Int32.toInt (hP _ hq).2.1.1
    obtain ⟨_, _, _, k3, _⟩ := (hP _ hq).2.2.1
    have k3 := congrArg Int32.toInt k3
    rcases e2 with ⟨e3, -⟩ | ⟨e3, n, hn, ⟨e4, -⟩ | ⟨e4, e5, e6, e7⟩⟩
    · exact absurd (by omega) e3
    · obtain rfl : n = n_10 := by omega
      exact absurd (by omega) e4
    · obtain rfl : n = n_10 := by omega
      skip
      obtain ⟨a, b, c, d⟩ := s_post h hV hq e4 e5 hn (by omega) (by decide) (by intro _; rfl) hpost e7.2
      exact ⟨a, e1, e6, d⟩
theorem sx_sendC {x : Nat} {G : Nat → Nat} {t0 t1 t2 : Int32} {B : AA} {R : RR} {A : AA} {pk cd p0 p1 p2 : Int32} (h : SIM x t0 t1 t2 B R A pk) {En : String} (hc : X_X9_send G B R x p0 p1 p2 En) {A' : AA} {cdz pkz r' : Int32} (hd : D_X10_send A cd pk p0 p1 p2 A' cdz pkz r') : SIM x t0 t1 t2 B R A' pk ∧ pkz = pk ∧ ((En = IAE ∧ cdz = 1) ∨ (En = ISE ∧ cdz = 2)) := by
  have hh := h
  obtain ⟨hS, -, -, -, -, hP⟩ := hh
  obtain ⟨e1, e2⟩ := r_send hd
  have i1 := i_1t
  rcases hc with ⟨c1, rfl⟩ | ⟨c1, c2, rfl⟩ | ⟨c1, c2, n_10, hn_10, r_13, htakesRequests, c3, rfl⟩
  all_goals first
    | (rcases e2 with ⟨e3, e4, rfl⟩ | ⟨e3, _⟩
       · exact ⟨h, e1, Or.inl ⟨rfl, e4⟩⟩
       · exfalso; omega)
    | (have hq : n_10 < 4 := by omega
       rw [hS.1.2.1, (hS.2.2.1 _ hq).1] at htakesRequests
       have kt := e_takesQ hS hq htakesRequests
       have k1 := congrArg Int32.toInt (hP _ hq).2.1.1
       obtain ⟨_, _, _, k3, _⟩ := (hP _ hq).2.2.1
       have k3 := congrArg Int32.toInt k3
       rcases e2 with ⟨e3, -⟩ | ⟨e3, n, hn, ⟨e4, e5, rfl⟩ | ⟨e4, e5, e6, e7⟩⟩
       · exact absurd (by omega) e3
       · exact ⟨h, e1, Or.inr ⟨rfl, e5⟩⟩
       · obtain rfl : n = n_10 := by omega
         exfalso; omega)
theorem r_move {A : AA} {cd pk p0 p1 p2 p3 p4 p5 : Int32} {A' : AA} {cdz pkz r : Int32} (h : D_X10_move A cd pk p0 p1 p2 p3 p4 p5 A' cdz pkz r) : pkz = pk ∧ ((¬ (0 ≤ p0.toInt ∧ p0.toInt ≤ 3 ∧ 1 ≤ p3.toInt ∧ p3.toInt ≤ 12 ∧ 0 ≤ p2.toInt ∧ p2.toInt ≤ 32 - p3.toInt ∧ 0 ≤ p4.toInt ∧ p4.toInt ≤ 5 ∧ 0 ≤ p5.toInt ∧ p5.toInt ≤ 31) ∧ cdz = 1 ∧ A' = A) ∨ ((0 ≤ p0.toInt ∧ p0.toInt ≤ 3 ∧ 1 ≤ p3.toInt ∧ p3.toInt ≤ 12 ∧ 0 ≤ p2.toInt ∧ p2.toInt ≤ 32 - p3.toInt ∧ 0 ≤ p4.toInt ∧ p4.toInt ≤ 5 ∧ 0 ≤ p5.toInt ∧ p5.toInt ≤ 31) ∧ ∃ n : Nat, (n : Int) = p0.toInt ∧ ((¬ ((A 10 n).toInt = 1 ∧ (A 20 n).toInt ≠ 4) ∧ cdz = 2 ∧ A' = A) ∨ ((A 10 n).toInt = 1 ∧ (A 20 n).toInt ≠ 4 ∧ cdz = 0 ∧ ((p1.toInt = 0 ∧ D_X10_post A 0 pk p0 1 p2 p3 p4 p5 0 A' 0 pk r) ∨ (¬ p1.toInt = 0 ∧ D_X10_post A 0 pk p0 2 p2 p3 p4 p5 0 A' 0 pk r)))))) := by
  have i5 := i_5t
  have i31 := i_31t
  have i1 := i_1t
  rcases h with ⟨r_1, hcellsGood, er_1, c1, ur_3, r_3, hfail, eur_3, rfl, rfl, rfl, rfl⟩ | ⟨r_1, hcellsGood, er_1, c1, c2, ur_5, r_5, hfail, eur_5, rfl, rfl, rfl, rfl⟩ | ⟨r_1, hcellsGood, er_1, c1, c2, c3, r_7, hfull, er_7, c4, n_8, hn_8, c5, c6, ur_11, r_11, hpost, c7, c8, c9, rfl, rfl, rfl, rfl⟩ | ⟨r_1, hcellsGood, er_1, c1, c2, c3, r_7, hfull, er_7, c4, n_8, hn_8, c5, c6, ur_12, r_12, hpost, c7, c8, c9, rfl, rfl, rfl, rfl⟩ | ⟨r_1, hcellsGood, er_1, c1, c2, c3, r_7, hfull, er_7, c4, n_8, hn_8, c5, ur_13, r_13, hfail, eur_13, rfl, rfl, rfl, rfl⟩ | ⟨r_1, hcellsGood, er_1, c1, c2, c3, ur_14, r_14, hfail, eur_14, rfl, rfl, rfl, rfl⟩
  all_goals
    refine ⟨rfl, ?_⟩
    have kc := r_cells hcellsGood
    first
      | (left; exact ⟨by omega, r_fail hfail, by simp only [uA_ii]⟩)
      | (right
         refine ⟨by omega, n_8, by assumption, ?_⟩
         have kf := r_full hfull (by assumption)
         first
           | (left; exact ⟨by omega, r_fail hfail, by simp only [uA_ii]⟩)
           | (right
              refine ⟨by omega, by omega, rfl, ?_⟩
              first
                | exact ⟨trivial, hpost⟩
                | exact Or.inl ⟨by assumption, hpost⟩
                | exact Or.inr ⟨by assumption, hpost⟩))
theorem s_moveC {x : Nat} {G : Nat → Nat} {t0 t1 t2 : Int32} {B : AA} {R : RR} {A : AA} {pk cd p0 p1 p2 p3 p4 p5 : Int32} (h : SIM x t0 t1 t2 B R A pk) (hV : RIV A pk) {Z : AA} {r : Int32} (hc : C_X9_move G B R x p0 p1 p2 p3 p4 p5 Z r) {A' : AA} {cdz pkz r' : Int32} (hd : D_X10_move A cd pk p0 p1 p2 p3 p4 p5 A' cdz pkz r') : SIM x t0 t1 t2 Z R A' pk ∧ pkz = pk ∧ cdz = 0 ∧ r = r' := by
  have hh := h
  obtain ⟨hS, -, -, -, -, hP⟩ := hh
  obtain ⟨e1, e2⟩ := r_move hd
  have i1 := i_1t
  rcases hc with ⟨c1, c2, c3, c4, n_14, hn_14, r_17, htakesRequests, c5, c6, r_27, U_28, hF, hpost, rfl, rfl⟩ | ⟨c1, c2, c3, c4, n_14, hn_14, r_17, htakesRequests, c5, c6, r_32, U_33, hF, hpost, rfl, rfl⟩
  · have hq : n_14 < 4 := by omega
    rw [hS.1.2.1, (hS.2.2.1 _ hq).1] at htakesRequests hpost
    rw [(hS.2.2.1 _ hq).2.1] at hpost
    have kt := e_takesQ hS hq htakesRequests
    have k1 := congrArg Int32.toInt (hP _ hq).2.1.1
    obtain ⟨_, _, _, k3, _⟩ := (hP _ hq).2.2.1
    have k3 := congrArg Int32.toInt k3
    rcases e2 with ⟨e3, -⟩ | ⟨e3, n, hn, ⟨e4, -⟩ | ⟨e4, e5, e6, e7⟩⟩
    · exact absurd (by omega) e3
    · obtain rfl : n = n_14 := by omega
      exact absurd (by omega) e4
    · obtain rfl : n = n_14 := by omega
      have e7 := e7.resolve_right (fun k => by omega)
      obtain ⟨a, b, c, d⟩ := s_post h hV hq e4 e5 hn (by omega) (by decide) (by intro _; rfl) hpost e7.2
      exact ⟨a, e1, e6, d⟩
  · have hq : n_14 < 4 := by omega
    rw [hS.1.2.1, (hS.2.2.1 _ hq).1] at htakesRequests hpost
    rw [(hS.2.2.1 _ hq).2.1] at hpost
    have kt := e_takesQ hS hq htakesRequests
    have k1 := congrArg Int32.toInt (hP _ hq).2.1.1
    obtain ⟨_, _, _, k3, _⟩ := (hP _ hq).2.2.1
    have k3 := congrArg Int32.toInt k3
    rcases e2 with ⟨e3, -⟩ | ⟨e3, n, hn, ⟨e4, -⟩ | ⟨e4, e5, e6, e7⟩⟩
    · exact absurd (by omega) e3
    · obtain rfl : n = n_14 := by omega
      exact absurd (by omega) e4
    · obtain rfl : n = n_14 := by omega
      have e7 := e7.resolve_left (fun k => by omega)
      obtain ⟨a, b, c, d⟩ := s_post h hV hq e4 e5 hn (by omega) (by decide) (by intro _; rfl) hpost e7.2
      exact ⟨a, e1, e6, d⟩
theorem sx_moveC {x : Nat} {G : Nat → Nat} {t0 t1 t2 : Int32} {B : AA} {R : RR} {A : AA} {pk cd p0 p1 p2 p3 p4 p5 : Int32} (h : SIM x t0 t1 t2 B R A pk) {En : String} (hc : X_X9_move G B R x p0 p1 p2 p3 p4 p5 En) {A' : AA} {cdz pkz r' : Int32} (hd : D_X10_move A cd pk p0 p1 p2 p3 p4 p5 A' cdz pkz r') : SIM x t0 t1 t2 B R A' pk ∧ pkz = pk ∧ ((En = IAE ∧ cdz = 1) ∨ (En = ISE ∧ cdz = 2)) := by
  have hh := h
  obtain ⟨hS, -, -, -, -, hP⟩ := hh
  obtain ⟨e1, e2⟩ := r_move hd
  have i1 := i_1t
  rcases hc with ⟨c1, rfl⟩ | ⟨c1, c2, rfl⟩ | ⟨c1, c2, c3, rfl⟩ | ⟨c1, c2, c3, c4, rfl⟩ | ⟨c1, c2, c3, c4, n_14, hn_14, r_17, htakesRequests, c5, rfl⟩
  all_goals first
    | (rcases e2 with ⟨e3, e4, rfl⟩ | ⟨e3, _⟩
       · exact ⟨h, e1, Or.inl ⟨rfl, e4⟩⟩
       · exfalso; omega)
    | (have hq : n_14 < 4 := by omega
       rw [hS.1.2.1, (hS.2.2.1 _ hq).1] at htakesRequests
       have kt := e_takesQ hS hq htakesRequests
       have k1 := congrArg Int32.toInt (hP _ hq).2.1.1
       obtain ⟨_, _, _, k3, _⟩ := (hP _ hq).2.2.1
       have k3 := congrArg Int32.toInt k3
       rcases e2 with ⟨e3, -⟩ | ⟨e3, n, hn, ⟨e4, e5, rfl⟩ | ⟨e4, e5, e6, e7⟩⟩
       · exact absurd (by omega) e3
       · exact ⟨h, e1, Or.inr ⟨rfl, e5⟩⟩
       · obtain rfl : n = n_14 := by omega
         exfalso; omega)
theorem r_add {A : AA} {cd pk p0 p1 p2 p3 p4 : Int32} {A' : AA} {cdz pkz r : Int32} (h : D_X10_add A cd pk p0 p1 p2 p3 p4 A' cdz pkz r) : pkz = pk ∧ ((¬ (0 ≤ p0.toInt ∧ p0.toInt ≤ 3 ∧ 1 ≤ (1 : Int32).toInt ∧ (1 : Int32).toInt ≤ 12 ∧ 0 ≤ p1.toInt ∧ p1.toInt ≤ 32 - (1 : Int32).toInt ∧ 0 ≤ p2.toInt ∧ p2.toInt ≤ 5 ∧ 0 ≤ p3.toInt ∧ p3.toInt ≤ 31) ∧ cdz = 1 ∧ A' = A) ∨ ((0 ≤ p0.toInt ∧ p0.toInt ≤ 3 ∧ 1 ≤ (1 : Int32).toInt ∧ (1 : Int32).toInt ≤ 12 ∧ 0 ≤ p1.toInt ∧ p1.toInt ≤ 32 - (1 : Int32).toInt ∧ 0 ≤ p2.toInt ∧ p2.toInt ≤ 5 ∧ 0 ≤ p3.toInt ∧ p3.toInt ≤ 31) ∧ ∃ n : Nat, (n : Int) = p0.toInt ∧ ((¬ ((A 10 n).toInt = 1 ∧ (A 20 n).toInt ≠ 4) ∧ cdz = 2 ∧ A' = A) ∨ ((A 10 n).toInt = 1 ∧ (A 20 n).toInt ≠ 4 ∧ cdz = 0 ∧ ((True ∧ D_X10_post A 0 pk p0 3 p1 1 p2 p3 p4 A' 0 pk r)))))) := by
  have i5 := i_5t
  have i31 := i_31t
  have i1 := i_1t
  rcases h with ⟨r_1, hcellsGood, er_1, c1, ur_3, r_3, hfail, eur_3, rfl, rfl, rfl, rfl⟩ | ⟨r_1, hcellsGood, er_1, c1, c2, ur_5, r_5, hfail, eur_5, rfl, rfl, rfl, rfl⟩ | ⟨r_1, hcellsGood, er_1, c1, c2, c3, r_7, hfull, er_7, c4, n_8, hn_8, c5, ur_10, r_10, hpost, c6, c7, c8, rfl, rfl, rfl, rfl⟩ | ⟨r_1, hcellsGood, er_1, c1, c2, c3, r_7, hfull, er_7, c4, n_8, hn_8, c5, ur_11, r_11, hfail, eur_11, rfl, rfl, rfl, rfl⟩ | ⟨r_1, hcellsGood, er_1, c1, c2, c3, ur_12, r_12, hfail, eur_12, rfl, rfl, rfl, rfl⟩
  all_goals
    refine ⟨rfl, ?_⟩
    have kc := r_cells hcellsGood
    first
      | (left; exact ⟨by omega, r_fail hfail, by simp only [uA_ii]⟩)
      | (right
         refine ⟨by omega, n_8, by assumption, ?_⟩
         have kf := r_full hfull (by assumption)
         first
           | (left; exact ⟨by omega, r_fail hfail, by simp only [uA_ii]⟩)
           | (right
              refine ⟨by omega, by omega, rfl, ?_⟩
              first
                | exact ⟨trivial, hpost⟩
                | exact Or.inl ⟨by assumption, hpost⟩
                | exact Or.inr ⟨by assumption, hpost⟩))
theorem s_addC {x : Nat} {G : Nat → Nat} {t0 t1 t2 : Int32} {B : AA} {R : RR} {A : AA} {pk cd p0 p1 p2 p3 p4 : Int32} (h : SIM x t0 t1 t2 B R A pk) (hV : RIV A pk) {Z : AA} {r : Int32} (hc : C_X9_add G B R x p0 p1 p2 p3 p4 Z r) {A' : AA} {cdz pkz r' : Int32} (hd : D_X10_add A cd pk p0 p1 p2 p3 p4 A' cdz pkz r') : SIM x t0 t1 t2 Z R A' pk ∧ pkz = pk ∧ cdz = 0 ∧ r = r' := by
  have hh := h
  obtain ⟨hS, -, -, -, -, hP⟩ := hh
  obtain ⟨e1, e2⟩ := r_add hd
  have i1 := i_1t
  rcases hc with ⟨c1, c2, c3, c4, n_14, hn_14, r_17, htakesRequests, c5, r_26, U_27, hF, hpost, rfl, rfl⟩
  · have hq : n_14 < 4 := by omega
    rw [hS.1.2.1, (hS.2.2.1 _ hq).1] at htakesRequests hpost
    rw [(hS.2.2.1 _ hq).2.1] at hpost
    have kt := e_takesQ hS hq htakesRequests
    have k1 := congrArg Int32.toInt (hP _ hq).2.1.1
    obtain ⟨_, _, _, k3, _⟩ := (hP _ hq).2.2.1
    have k3 := congrArg Int32.toInt k3
    rcases e2 with ⟨e3, -⟩ | ⟨e3, n, hn, ⟨e4, -⟩ | ⟨e4, e5, e6, e7⟩⟩
    · exact absurd (by omega) e3
    · obtain rfl : n = n_14 := by omega
      exact absurd (by omega) e4
    · obtain rfl : n = n_14 := by omega
      skip
      obtain ⟨a, b, c, d⟩ := s_post h hV hq e4 e5 hn (by omega) (by decide) (by intro k; exact absurd i_3t k) hpost e7.2
      exact ⟨a, e1, e6, d⟩
theorem sx_addC {x : Nat} {G : Nat → Nat} {t0 t1 t2 : Int32} {B : AA} {R : RR} {A : AA} {pk cd p0 p1 p2 p3 p4 : Int32} (h : SIM x t0 t1 t2 B R A pk) {En : String} (hc : X_X9_add G B R x p0 p1 p2 p3 p4 En) {A' : AA} {cdz pkz r' : Int32} (hd : D_X10_add A cd pk p0 p1 p2 p3 p4 A' cdz pkz r') : SIM x t0 t1 t2 B R A' pk ∧ pkz = pk ∧ ((En = IAE ∧ cdz = 1) ∨ (En = ISE ∧ cdz = 2)) := by
  have hh := h
  obtain ⟨hS, -, -, -, -, hP⟩ := hh
  obtain ⟨e1, e2⟩ := r_add hd
  have i1 := i_1t
  rcases hc with ⟨c1, rfl⟩ | ⟨c1, c2, rfl⟩ | ⟨c1, c2, c3, rfl⟩ | ⟨c1, c2, c3, c4, rfl⟩ | ⟨c1, c2, c3, c4, n_14, hn_14, r_17, htakesRequests, c5, rfl⟩
  all_goals first
    | (rcases e2 with ⟨e3, e4, rfl⟩ | ⟨e3, _⟩
       · exact ⟨h, e1, Or.inl ⟨rfl, e4⟩⟩
       · exfalso; omega)
    | (have hq : n_14 < 4 := by omega
       rw [hS.1.2.1, (hS.2.2.1 _ hq).1] at htakesRequests
       have kt := e_takesQ hS hq htakesRequests
       have k1 := congrArg Int32.toInt (hP _ hq).2.1.1
       obtain ⟨_, _, _, k3, _⟩ := (hP _ hq).2.2.1
       have k3 := congrArg Int32.toInt k3
       rcases e2 with ⟨e3, -⟩ | ⟨e3, n, hn, ⟨e4, e5, rfl⟩ | ⟨e4, e5, e6, e7⟩⟩
       · exact absurd (by omega) e3
       · exact ⟨h, e1, Or.inr ⟨rfl, e5⟩⟩
       · obtain rfl : n = n_14 := by omega
         exfalso; omega)
