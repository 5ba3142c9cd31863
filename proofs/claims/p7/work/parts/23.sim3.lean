/-- i of a queue's rows are completed -/
def STK (x n K h i : Nat) (B A Z A' : AA) : Prop := (∀ m, m < 2 → NS x m Z (A' 8) (A' 9)) ∧ I3 (A' 8) ∧ (∀ a, a ≠ x + 56 + 10 * n → a ≠ x + 59 + 10 * n → a ≠ K → Z a = B a) ∧ (∀ j, j ≠ 8 → j ≠ 9 → A' j = A j) ∧ (Z K 3).toInt = ((h + i) % 4 : Nat) ∧ (Z K 4).toInt = (B K 4).toInt - i ∧ ∀ j, j ≠ 3 → j ≠ 4 → Z K j = B K j
theorem STK.rf {x n K h : Nat} {B A : AA} (hns : ∀ m, m < 2 → NS x m B (A 8) (A 9)) (hI : I3 (A 8)) (hh : (h : Int) = (B K 3).toInt) (h4 : h < 4) : STK x n K h 0 B A B A := ⟨hns, hI, fun _ _ _ _ => rfl, fun _ _ _ => rfl, by omega, by omega, fun _ _ _ => rfl⟩
theorem stepQ {x q h i : Nat} {G : Nat → Nat} {B : AA} {R : RR} {A Y Ay : AA} (hS : SHX x R) (hq : q < 4) {p st cd pk cdz pkz : Int32} {Z A' : AA} (hp : (q : Int) = p.toInt) (hb0 : B (x + 78 + 17 * q) 0 = p) (hT : STK x (q % 2) (x + 78 + 17 * q) h i B A Y Ay) (hw : RWQ (B (x + 80 + 17 * q + (h + i) % 4)) A (4 * q + i)) (hc : C_X5_completeFirst G Y R (x + 78 + 17 * q) st Z) (hd : D_X10_complete Ay cd pk p (A 22 (4 * q + i)) (A 28 (4 * q + i)) st (A 24 (4 * q + i)) A' cdz pkz) : cdz = cd ∧ pkz = pk ∧ STK x (q % 2) (x + 78 + 17 * q) h (i + 1) B A Z A' := by
  obtain ⟨t1, t2, t3, t4, t5, t6, t7⟩ := hT
  rw [← t4 22 (by decide) (by decide), ← t4 28 (by decide) (by decide), ← t4 24 (by decide) (by decide)] at hd
  obtain ⟨a, b, U, hU, h', c', e1, e2, e3, rfl⟩ := s_firstQ hS hq t1 t2 hp ((t7 0 (by decide) (by decide)).trans hb0) (fun h2 hh2 => by
    obtain rfl : h2 = (h + i) % 4 := by omega
    rw [show (h + i) % 4 % 4 = (h + i) % 4 by omega]
    exact hw.cg (t3 _ (by omega) (by omega) (by omega)) (fun j h1 h2 => by rw [t4 j (by omega) (by omega)])) (by omega) hc hd
  refine ⟨a, b, fun m hm => ?_, hU.2.1, fun a h1 h2 h3 => ?_, fun j h1 h2 => (hU.2.2.2 j h1 h2).trans (t4 j h1 h2), ?_, ?_, fun j h1 h2 => ?_⟩
  · exact (hU.1 m hm).cg (uA_n (by omega)) (uA_n (by omega)) rfl (fun _ _ _ => rfl) (hU.2.1 m hm).2
  · rw [uA_n h3, hU.2.2.1 a h1 h2, t3 a h1 h2 h3]
  · rw [uA_s, upd_n (by decide), upd_s]; omega
  · rw [uA_s, upd_s]; omega
  · rw [uA_s, upd_n h2, upd_n h1, t7 j h1 h2]
theorem stepV {x q h i : Nat} {G : Nat → Nat} {B : AA} {R : RR} {A Y Ay : AA} (hS : SHX x R) (hq : q < 4) {p st cd pk cdz pkz : Int32} {Z A' : AA} (hp : (q : Int) = p.toInt) (hb0 : B (x + 88 + 17 * q) 0 = p) (hT : STK x (q % 2) (x + 88 + 17 * q) h i B A Y Ay) (hw : RWV (B (x + 90 + 17 * q + (h + i) % 4)) A (4 * q + i)) (hc : C_X5_completeFirst G Y R (x + 88 + 17 * q) st Z) (hd : D_X10_complete Ay cd pk p 4 (A 34 (4 * q + i)) st (A 35 (4 * q + i)) A' cdz pkz) : cdz = cd ∧ pkz = pk ∧ STK x (q % 2) (x + 88 + 17 * q) h (i + 1) B A Z A' := by
  obtain ⟨t1, t2, t3, t4, t5, t6, t7⟩ := hT
  rw [← t4 34 (by decide) (by decide), ← t4 35 (by decide) (by decide)] at hd
  obtain ⟨a, b, U, hU, h', c', e1, e2, e3, rfl⟩ := s_firstV hS hq t1 t2 hp ((t7 0 (by decide) (by decide)).trans hb0) (fun h2 hh2 => by
    obtain rfl : h2 = (h + i) % 4 := by omega
    rw [show (h + i) % 4 % 4 = (h + i) % 4 by omega]
    exact hw.cg (t3 _ (by omega) (by omega) (by omega)) (fun j h1 h2 => by rw [t4 j (by omega) (by omega)])) (by omega) hc hd
  refine ⟨a, b, fun m hm => ?_, hU.2.1, fun a h1 h2 h3 => ?_, fun j h1 h2 => (hU.2.2.2 j h1 h2).trans (t4 j h1 h2), ?_, ?_, fun j h1 h2 => ?_⟩
  · exact (hU.1 m hm).cg (uA_n (by omega)) (uA_n (by omega)) rfl (fun _ _ _ => rfl) (hU.2.1 m hm).2
  · rw [uA_n h3, hU.2.2.1 a h1 h2, t3 a h1 h2 h3]
  · rw [uA_s, upd_n (by decide), upd_s]; omega
  · rw [uA_s, upd_s]; omega
  · rw [uA_s, upd_n h2, upd_n h1, t7 j h1 h2]
theorem FPQ_s {A : AA} {cd pk q st : Int32} {n i : Nat} {Z : AA} (h : FPQ A cd pk q st n (i + 1) Z) : ∃ Y : AA, FPQ A cd pk q st n i Y ∧ ∃ v : Int32, (v = if i = 0 ∧ 0 < st.toInt then st else 5) ∧ D_X10_complete Y cd pk q (A 22 (4 * n + i)) (A 28 (4 * n + i)) v (A 24 (4 * n + i)) Z cd pk := h
theorem FPV_s {A : AA} {cd pk q st : Int32} {n i : Nat} {Z : AA} (h : FPV A cd pk q st n (i + 1) Z) : ∃ Y : AA, FPV A cd pk q st n i Y ∧ ∃ v : Int32, (v = if i = 0 ∧ (A 36 n).toInt ≠ 0 ∧ 0 < st.toInt then st else 5) ∧ D_X10_complete Y cd pk q 4 (A 34 (4 * n + i)) v (A 35 (4 * n + i)) Z cd pk := h
theorem e_first4 {G : Nat → Nat} {B : AA} {R : RR} {K : Nat} {st : Int32} {Z : AA} (h : C_X5_completeFirst G B R K st Z) : (Z K 4).toInt = (B K 4).toInt - 1 := by
  obtain ⟨r, U, h', c', -, -, -, e2, -, rfl⟩ := e_first h
  rw [uA_s, upd_s]; exact e2
/-- all requests are completed -/
theorem s_allQ {x q b : Nat} {G : Nat → Nat} {B : AA} {R : RR} {A : AA} (hS : SHX x R) (hq : q < 4) (hns : ∀ m, m < 2 → NS x m B (A 8) (A 9)) (hI : I3 (A 8)) {p sc st cd pk : Int32} {Z A' : AA} (hp : (q : Int) = p.toInt) (hb0 : B (x + 78 + 17 * q) 0 = p) (hR : RQ x q B A) (h4 : 0 ≤ (A 20 q).toInt ∧ (A 20 q).toInt ≤ 4) (hsc : sc = if 0 < st.toInt then st else 5) (hc : C_X5_completeAll G B R (x + 78 + 17 * q) sc Z) (hd : FPQ A cd pk p st q b A') (hb : (b : Int) = (A 20 q).toInt) : ∃ h, STK x (q % 2) (x + 78 + 17 * q) h b B A Z A' := by
  obtain ⟨h, g1, g2, g3, g4, g5⟩ := hR
  have T0 := STK.rf (n := q % 2) (K := x + 78 + 17 * q) hns hI g2 g1
  refine ⟨h, ?_⟩
  have g3 := congrArg Int32.toInt g3
  have v0 : ∀ {v : Int32}, (v = if (0 : Nat) = 0 ∧ 0 < st.toInt then st else 5) → v = sc := fun e => by rw [e, hsc]; simp
  have v1 : ∀ {v : Int32} {i : Nat}, (v = if i + 1 = 0 ∧ 0 < st.toInt then st else 5) → v = 5 := fun e => by rw [e, if_neg (by omega)]
  rcases hc with ⟨c1, rfl⟩ | ⟨c1, U_6, hF, hcompleteFirst, c2, rfl⟩ | ⟨c1, U_6, hF, hcompleteFirst, c2, U_12, hF_1, hcompleteFirst_1, c3, rfl⟩ | ⟨c1, U_6, hF, hcompleteFirst, c2, U_12, hF_1, hcompleteFirst_1, c3, U_18, hF_2, hcompleteFirst_2, c4, rfl⟩ | ⟨c1, U_6, hF, hcompleteFirst, c2, U_12, hF_1, hcompleteFirst_1, c3, U_18, hF_2, hcompleteFirst_2, c4, U_24, hF_3, hcompleteFirst_3, rfl⟩
  · obtain rfl : b = 0 := by omega
    have e : A' = A := hd
    subst e
    exact T0
  · have a0 := e_first4 hcompleteFirst
    obtain rfl : b = 1 := by omega
    obtain ⟨Y0, f0, w0, u0, d0⟩ := FPQ_s (i := 0) hd
    have e0 : Y0 = A := f0
    subst e0
    rw [v0 u0] at d0
    have T1 := (stepQ hS hq hp hb0 T0 (g5 0 (by omega)) hcompleteFirst d0).2.2
    exact T1
  · have a0 := e_first4 hcompleteFirst
    have a1 := e_first4 hcompleteFirst_1
    obtain rfl : b = 2 := by omega
    obtain ⟨Y1, f1, w1, u1, d1⟩ := FPQ_s (i := 1) hd
    obtain ⟨Y0, f0, w0, u0, d0⟩ := FPQ_s (i := 0) f1
    have e0 : Y0 = A := f0
    subst e0
    rw [v0 u0] at d0
    rw [v1 u1] at d1
    have T1 := (stepQ hS hq hp hb0 T0 (g5 0 (by omega)) hcompleteFirst d0).2.2
    have T2 := (stepQ hS hq hp hb0 T1 (g5 1 (by omega)) hcompleteFirst_1 d1).2.2
    exact T2
  · have a0 := e_first4 hcompleteFirst
    have a1 := e_first4 hcompleteFirst_1
    have a2 := e_first4 hcompleteFirst_2
    obtain rfl : b = 3 := by omega
    obtain ⟨Y2, f2, w2, u2, d2⟩ := FPQ_s (i := 2) hd
    obtain ⟨Y1, f1, w1, u1, d1⟩ := FPQ_s (i := 1) f2
    obtain ⟨Y0, f0, w0, u0, d0⟩ := FPQ_s (i := 0) f1
    have e0 : Y0 = A := f0
    subst e0
    rw [v0 u0] at d0
    rw [v1 u1] at d1
    rw [v1 u2] at d2
    have T1 := (stepQ hS hq hp hb0 T0 (g5 0 (by omega)) hcompleteFirst d0).2.2
    have T2 := (stepQ hS hq hp hb0 T1 (g5 1 (by omega)) hcompleteFirst_1 d1).2.2
    have T3 := (stepQ hS hq hp hb0 T2 (g5 2 (by omega)) hcompleteFirst_2 d2).2.2
    exact T3
  · have a0 := e_first4 hcompleteFirst
    have a1 := e_first4 hcompleteFirst_1
    have a2 := e_first4 hcompleteFirst_2
    have a3 := e_first4 hcompleteFirst_3
    obtain rfl : b = 4 := by omega
    obtain ⟨Y3, f3, w3, u3, d3⟩ := FPQ_s (i := 3) hd
    obtain ⟨Y2, f2, w2, u2, d2⟩ := FPQ_s (i := 2) f3
    obtain ⟨Y1, f1, w1, u1, d1⟩ := FPQ_s (i := 1) f2
    obtain ⟨Y0, f0, w0, u0, d0⟩ := FPQ_s (i := 0) f1
    have e0 : Y0 = A := f0
    subst e0
    rw [v0 u0] at d0
    rw [v1 u1] at d1
    rw [v1 u2] at d2
    rw [v1 u3] at d3
    have T1 := (stepQ hS hq hp hb0 T0 (g5 0 (by omega)) hcompleteFirst d0).2.2
    have T2 := (stepQ hS hq hp hb0 T1 (g5 1 (by omega)) hcompleteFirst_1 d1).2.2
    have T3 := (stepQ hS hq hp hb0 T2 (g5 2 (by omega)) hcompleteFirst_2 d2).2.2
    have T4 := (stepQ hS hq hp hb0 T3 (g5 3 (by omega)) hcompleteFirst_3 d3).2.2
    exact T4
/-- all receives are completed -/
theorem s_allV {x q b : Nat} {G : Nat → Nat} {B : AA} {R : RR} {A : AA} (hS : SHX x R) (hq : q < 4) (hns : ∀ m, m < 2 → NS x m B (A 8) (A 9)) (hI : I3 (A 8)) {p sc st cd pk : Int32} {Z A' : AA} (hp : (q : Int) = p.toInt) (hb0 : B (x + 88 + 17 * q) 0 = p) (hR : RV x q B A) (h4 : 0 ≤ (A 30 q).toInt ∧ (A 30 q).toInt ≤ 4) (hsc : sc = if (A 36 q).toInt ≠ 0 ∧ 0 < st.toInt then st else 5) (hc : C_X5_completeAll G B R (x + 88 + 17 * q) sc Z) (hd : FPV A cd pk p st q b A') (hb : (b : Int) = (A 30 q).toInt) : ∃ h, STK x (q % 2) (x + 88 + 17 * q) h b B A Z A' := by
  obtain ⟨h, g1, g2, g3, g4, g5⟩ := hR
  have T0 := STK.rf (n := q % 2) (K := x + 88 + 17 * q) hns hI g2 g1
  refine ⟨h, ?_⟩
  have g3 := congrArg Int32.toInt g3
  have v0 : ∀ {v : Int32}, (v = if (0 : Nat) = 0 ∧ (A 36 q).toInt ≠ 0 ∧ 0 < st.toInt then st else 5) → v = sc := fun e => by rw [e, hsc]; simp
  have v1 : ∀ {v : Int32} {i : Nat}, (v = if i + 1 = 0 ∧ (A 36 q).toInt ≠ 0 ∧ 0 < st.toInt then st else 5) → v = 5 := fun e => by rw [e, if_neg (by omega)]
  rcases hc with ⟨c1, rfl⟩ | ⟨c1, U_6, hF, hcompleteFirst, c2, rfl⟩ | ⟨c1, U_6, hF, hcompleteFirst, c2, U_12, hF_1, hcompleteFirst_1, c3, rfl⟩ | ⟨c1, U_6, hF, hcompleteFirst, c2, U_12, hF_1, hcompleteFirst_1, c3, U_18, hF_2, hcompleteFirst_2, c4, rfl⟩ | ⟨c1, U_6, hF, hcompleteFirst, c2, U_12, hF_1, hcompleteFirst_1, c3, U_18, hF_2, hcompleteFirst_2, c4, U_24, hF_3, hcompleteFirst_3, rfl⟩
  · obtain rfl : b = 0 := by omega
    have e : A' = A := hd
    subst e
    exact T0
  · have a0 := e_first4 hcompleteFirst
    obtain rfl : b = 1 := by omega
    obtain ⟨Y0, f0, w0, u0, d0⟩ := FPV_s (i := 0) hd
    have e0 : Y0 = A := f0
    subst e0
    rw [v0 u0] at d0
    have T1 := (stepV hS hq hp hb0 T0 (g5 0 (by omega)) hcompleteFirst d0).2.2
    exact T1
  · have a0 := e_first4 hcompleteFirst
    have a1 := e_first4 hcompleteFirst_1
    obtain rfl : b = 2 := by omega
    obtain ⟨Y1, f1, w1, u1, d1⟩ := FPV_s (i := 1) hd
    obtain ⟨Y0, f0, w0, u0, d0⟩ := FPV_s (i := 0) f1
    have e0 : Y0 = A := f0
    subst e0
    rw [v0 u0] at d0
    rw [v1 u1] at d1
    have T1 := (stepV hS hq hp hb0 T0 (g5 0 (by omega)) hcompleteFirst d0).2.2
    have T2 := (stepV hS hq hp hb0 T1 (g5 1 (by omega)) hcompleteFirst_1 d1).2.2
    exact T2
  · have a0 := e_first4 hcompleteFirst
    have a1 := e_first4 hcompleteFirst_1
    have a2 := e_first4 hcompleteFirst_2
    obtain rfl : b = 3 := by omega
    obtain ⟨Y2, f2, w2, u2, d2⟩ := FPV_s (i := 2) hd
    obtain ⟨Y1, f1, w1, u1, d1⟩ := FPV_s (i := 1) f2
    obtain ⟨Y0, f0, w0, u0, d0⟩ := FPV_s (i := 0) f1
    have e0 : Y0 = A := f0
    subst e0
    rw [v0 u0] at d0
    rw [v1 u1] at d1
    rw [v1 u2] at d2
    have T1 := (stepV hS hq hp hb0 T0 (g5 0 (by omega)) hcompleteFirst d0).2.2
    have T2 := (stepV hS hq hp hb0 T1 (g5 1 (by omega)) hcompleteFirst_1 d1).2.2
    have T3 := (stepV hS hq hp hb0 T2 (g5 2 (by omega)) hcompleteFirst_2 d2).2.2
    exact T3
  · have a0 := e_first4 hcompleteFirst
    have a1 := e_first4 hcompleteFirst_1
    have a2 := e_first4 hcompleteFirst_2
    have a3 := e_first4 hcompleteFirst_3
    obtain rfl : b = 4 := by omega
    obtain ⟨Y3, f3, w3, u3, d3⟩ := FPV_s (i := 3) hd
    obtain ⟨Y2, f2, w2, u2, d2⟩ := FPV_s (i := 2) f3
    obtain ⟨Y1, f1, w1, u1, d1⟩ := FPV_s (i := 1) f2
    obtain ⟨Y0, f0, w0, u0, d0⟩ := FPV_s (i := 0) f1
    have e0 : Y0 = A := f0
    subst e0
    rw [v0 u0] at d0
    rw [v1 u1] at d1
    rw [v1 u2] at d2
    rw [v1 u3] at d3
    have T1 := (stepV hS hq hp hb0 T0 (g5 0 (by omega)) hcompleteFirst d0).2.2
    have T2 := (stepV hS hq hp hb0 T1 (g5 1 (by omega)) hcompleteFirst_1 d1).2.2
    have T3 := (stepV hS hq hp hb0 T2 (g5 2 (by omega)) hcompleteFirst_2 d2).2.2
    have T4 := (stepV hS hq hp hb0 T3 (g5 3 (by omega)) hcompleteFirst_3 d3).2.2
    exact T4
