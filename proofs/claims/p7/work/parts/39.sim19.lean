theorem e_sendNext {x q n h np : Nat} {G : Nat → Nat} {B : AA} {R : RR} {A : AA} (hS : SHX x R) (hq : q < 4) {pm : Nat → Nat} {tk : Nat} (hD : DYN x R pm tk) (hnp : (np : Int) = (B (x + 1) 1).toInt) (h24 : np ≤ 24) (hh : (h : Int) = (B (x + 78 + 17 * q) 3).toInt) (hn : (n : Int) = (B (x + 78 + 17 * q) 4).toInt) (h4 : n ≤ 4) (rows : ∀ i, i < n → RWQ (B (x + 80 + 17 * q + (h + i) % 4)) A (4 * q + i)) (hz : ∀ i, i < n → (1 ≤ (A 24 (4 * q + i)).toInt ∧ (A 24 (4 * q + i)).toInt ≤ 12) ∧ (0 ≤ (A 23 (4 * q + i)).toInt ∧ (A 23 (4 * q + i)).toInt + (A 24 (4 * q + i)).toInt ≤ 32) ∧ (-1 ≤ (A 26 (4 * q + i)).toInt ∧ (A 26 (4 * q + i)).toInt ≤ 31)) (hcu : 0 ≤ (B (x + 77 + 17 * q) 9).toInt ∧ (B (x + 77 + 17 * q) 9).toInt ≤ 63) {Z : AA} {r : Int32} (hc : C_X7_sendNext G B R (x + 77 + 17 * q) Z r) : (Z = B ∧ r = -1 ∧ (¬ (B (x + 77 + 17 * q) 13).toInt = 0 ∨ (∀ i, i < n → NB (A 24) (4 * q + i) ≤ ((B (x + 77 + 17 * q) 9).toInt - (A 29 (4 * q + i)).toInt) % 64) ∨ ∃ i, i < n ∧ OWN A q i (B (x + 77 + 17 * q) 9).toInt ∧ ¬ (((B (x + 77 + 17 * q) 9).toInt - (B (x + 77 + 17 * q) 8).toInt) % 64 + NUM A (4 * q + i) (((B (x + 77 + 17 * q) 9).toInt - (A 29 (4 * q + i)).toInt) % 64) ≤ 8))) ∨ ((B (x + 77 + 17 * q) 13).toInt = 0 ∧ ∃ i, i < n ∧ OWN A q i (B (x + 77 + 17 * q) 9).toInt ∧ (((B (x + 77 + 17 * q) 9).toInt - (B (x + 77 + 17 * q) 8).toInt) % 64 + NUM A (4 * q + i) (((B (x + 77 + 17 * q) 9).toInt - (A 29 (4 * q + i)).toInt) % 64) ≤ 8) ∧ r = B (x + 77 + 17 * q) 9 ∧ ∃ (U : AA) (sz mk pl va cu' : Int32) (f0 : Nat), (f0 : Int) = (A 23 (4 * q + i)).toInt + 4 * (((B (x + 77 + 17 * q) 9).toInt - (A 29 (4 * q + i)).toInt) % 64) ∧ EMC x pm B U (B (x + 77 + 17 * q) 0) (A 22 (4 * q + i)) (B (x + 77 + 17 * q) 9) sz mk pl va (fun c => B (x + 57 + 10 * (q % 2)) (f0 + c)) ∧ PRM A (4 * q + i) (((B (x + 77 + 17 * q) 9).toInt - (A 29 (4 * q + i)).toInt) % 64) sz mk pl va ∧ cu'.toInt = ((B (x + 77 + 17 * q) 9).toInt + NUM A (4 * q + i) (((B (x + 77 + 17 * q) 9).toInt - (A 29 (4 * q + i)).toInt) % 64)) % 64 ∧ Z = uA U (x + 77 + 17 * q) (upd (if (B (x + 77 + 17 * q) 9).toInt = (B (x + 77 + 17 * q) 8).toInt then upd (U (x + 77 + 17 * q)) 10 0 else U (x + 77 + 17 * q)) 9 cu')) := by
  have i1 := i_1t
  rcases hc with ⟨r_2, hownerOf, c1, eZ, rfl⟩ | ⟨r_2, hownerOf, c1, c2, r_8, hat, x_11, ex_11, c3, x_13, ex_13, x_14, ex_14, fx_14, c4, U_17, hF, hsendPart, c5, x_22, ex_22, B_23, rfl, eZ, rfl⟩ | ⟨r_2, hownerOf, c1, c2, r_8, hat, x_11, ex_11, c3, x_13, ex_13, x_14, ex_14, fx_14, c4, U_17, hF, hsendPart, c5, B_24, rfl, x_27, ex_27, B_28, rfl, eZ, rfl⟩ | ⟨r_2, hownerOf, c1, c2, r_8, hat, x_11, ex_11, c3, x_13, ex_13, x_14, ex_14, fx_14, c4, eZ, rfl⟩ | ⟨r_2, hownerOf, c1, c2, r_8, hat, x_11, ex_11, c3, x_29, ex_29, x_30, ex_30, x_31, ex_31, c4, U_34, hF, hsendPart, c5, x_39, ex_39, B_40, rfl, eZ, rfl⟩ | ⟨r_2, hownerOf, c1, c2, r_8, hat, x_11, ex_11, c3, x_29, ex_29, x_30, ex_30, x_31, ex_31, c4, U_34, hF, hsendPart, c5, B_41, rfl, x_44, ex_44, B_45, rfl, eZ, rfl⟩ | ⟨r_2, hownerOf, c1, c2, r_8, hat, x_11, ex_11, c3, x_29, ex_29, x_30, ex_30, x_31, ex_31, c4, eZ, rfl⟩ | ⟨r_2, hownerOf, c1, c2, eZ, rfl⟩
  · exact Or.inl ⟨eZ, rfl, Or.inl c1⟩
  · rcases e_owner hS hq hownerOf hh hn h4 rows with ⟨o1, -⟩ | ⟨i, hi, ei, o3, o4⟩
    · exact absurd o1 c2
    rw [(hS.2.2.2.1 q hq).2.2] at hat
    have er := e_atQ hS hq hat hh (k := i) (by omega)
    have w := rows i hi
    rw [← er] at w
    have z := hz i hi
    have hN := pj_N z.1
    have e11 : x_11.toInt = (((B (x + 77 + 17 * q) 9).toInt - (A 29 (4 * q + i)).toInt) % 64) := by rw [ex_11, w.2.2.2.2.1, dst]
    have w5 := w.2.2.2.2.2.1
    have w0 := congrArg Int32.toInt w.1
    rw [w0] at c3
    have e13 : x_13.toInt = ((B (x + 77 + 17 * q) 9).toInt - (B (x + 77 + 17 * q) 8).toInt) % 64 := by rw [ex_13, dst]
    obtain ⟨sz, mk, pl, va, f0, hf0, hE, hP⟩ := e_sendPart hS hq hD hnp h24 (by omega) w (k := x_11) (by omega) z.1 z.2.1 z.2.2 hsendPart
    rw [e11] at hf0 hP
    have enm : (A 29 (4 * q + i) + x_11) &&& 63 = B (x + 77 + 17 * q) 9 := i32_eq (by rw [aft, e11]; omega)
    rw [enm] at hE
    refine Or.inr ⟨c1, i, hi, ⟨o3, o4⟩, ?_, rfl, U_17, sz, mk, pl, va, x_22, f0, hf0, hE, hP, ?_, ?_⟩
    · unfold NUM; rw [if_neg c3]; omega
    · unfold NUM; rw [if_neg c3, ex_22, aft, i1]
    · rw [eZ, if_neg c5]
  · rcases e_owner hS hq hownerOf hh hn h4 rows with ⟨o1, -⟩ | ⟨i, hi, ei, o3, o4⟩
    · exact absurd o1 c2
    rw [(hS.2.2.2.1 q hq).2.2] at hat
    have er := e_atQ hS hq hat hh (k := i) (by omega)
    have w := rows i hi
    rw [← er] at w
    have z := hz i hi
    have hN := pj_N z.1
    have e11 : x_11.toInt = (((B (x + 77 + 17 * q) 9).toInt - (A 29 (4 * q + i)).toInt) % 64) := by rw [ex_11, w.2.2.2.2.1, dst]
    have w5 := w.2.2.2.2.2.1
    have w0 := congrArg Int32.toInt w.1
    rw [w0] at c3
    have e13 : x_13.toInt = ((B (x + 77 + 17 * q) 9).toInt - (B (x + 77 + 17 * q) 8).toInt) % 64 := by rw [ex_13, dst]
    obtain ⟨sz, mk, pl, va, f0, hf0, hE, hP⟩ := e_sendPart hS hq hD hnp h24 (by omega) w (k := x_11) (by omega) z.1 z.2.1 z.2.2 hsendPart
    rw [e11] at hf0 hP
    have enm : (A 29 (4 * q + i) + x_11) &&& 63 = B (x + 77 + 17 * q) 9 := i32_eq (by rw [aft, e11]; omega)
    rw [enm] at hE
    refine Or.inr ⟨c1, i, hi, ⟨o3, o4⟩, ?_, rfl, U_17, sz, mk, pl, va, x_27, f0, hf0, hE, hP, ?_, ?_⟩
    · unfold NUM; rw [if_neg c3]; omega
    · unfold NUM; rw [if_neg c3, ex_27, aft, i1]
    · rw [eZ, if_pos c5]; simp only [uA_u, uA_s]
  · rcases e_owner hS hq hownerOf hh hn h4 rows with ⟨o1, -⟩ | ⟨i, hi, ei, o3, o4⟩
    · exact absurd o1 c2
    rw [(hS.2.2.2.1 q hq).2.2] at hat
    have er := e_atQ hS hq hat hh (k := i) (by omega)
    have w := rows i hi
    rw [← er] at w
    have z := hz i hi
    have hN := pj_N z.1
    have e11 : x_11.toInt = (((B (x + 77 + 17 * q) 9).toInt - (A 29 (4 * q + i)).toInt) % 64) := by rw [ex_11, w.2.2.2.2.1, dst]
    have w5 := w.2.2.2.2.2.1
    have w0 := congrArg Int32.toInt w.1
    rw [w0] at c3
    have e13 : x_13.toInt = ((B (x + 77 + 17 * q) 9).toInt - (B (x + 77 + 17 * q) 8).toInt) % 64 := by rw [ex_13, dst]
    refine Or.inl ⟨eZ, rfl, Or.inr (Or.inr ⟨i, hi, ⟨o3, o4⟩, ?_⟩)⟩
    unfold NUM; rw [if_neg c3]; omega
  · rcases e_owner hS hq hownerOf hh hn h4 rows with ⟨o1, -⟩ | ⟨i, hi, ei, o3, o4⟩
    · exact absurd o1 c2
    rw [(hS.2.2.2.1 q hq).2.2] at hat
    have er := e_atQ hS hq hat hh (k := i) (by omega)
    have w := rows i hi
    rw [← er] at w
    have z := hz i hi
    have hN := pj_N z.1
    have e11 : x_11.toInt = (((B (x + 77 + 17 * q) 9).toInt - (A 29 (4 * q + i)).toInt) % 64) := by rw [ex_11, w.2.2.2.2.1, dst]
    have w5 := w.2.2.2.2.2.1
    have w0 := congrArg Int32.toInt w.1
    rw [w0] at c3
    have e30 : x_30.toInt = ((B (x + 77 + 17 * q) 9).toInt - (B (x + 77 + 17 * q) 8).toInt) % 64 := by rw [ex_30, dst]
    have e29 : x_29.toInt = NB (A 24) (4 * q + i) - x_11.toInt := by rw [ex_29, s_sub (by omega) (by omega), w5]
    have e31 : x_31.toInt = x_30.toInt + x_29.toInt := by rw [ex_31]; exact add_t (by omega) (by omega)
    obtain ⟨sz, mk, pl, va, f0, hf0, hE, hP⟩ := e_sendPart hS hq hD hnp h24 (by omega) w (k := x_11) (by omega) z.1 z.2.1 z.2.2 hsendPart
    rw [e11] at hf0 hP
    have enm : (A 29 (4 * q + i) + x_11) &&& 63 = B (x + 77 + 17 * q) 9 := i32_eq (by rw [aft, e11]; omega)
    rw [enm] at hE
    refine Or.inr ⟨c1, i, hi, ⟨o3, o4⟩, ?_, rfl, U_34, sz, mk, pl, va, x_39, f0, hf0, hE, hP, ?_, ?_⟩
    · unfold NUM; rw [if_pos c3]; omega
    · unfold NUM; rw [if_pos c3, ex_39, aft, e29, e11]
    · rw [eZ, if_neg c5]
  · rcases e_owner hS hq hownerOf hh hn h4 rows with ⟨o1, -⟩ | ⟨i, hi, ei, o3, o4⟩
    · exact absurd o1 c2
    rw [(hS.2.2.2.1 q hq).2.2] at hat
    have er := e_atQ hS hq hat hh (k := i) (by omega)
    have w := rows i hi
    rw [← er] at w
    have z := hz i hi
    have hN := pj_N z.1
    have e11 : x_11.toInt = (((B (x + 77 + 17 * q) 9).toInt - (A 29 (4 * q + i)).toInt) % 64) := by rw [ex_11, w.2.2.2.2.1, dst]
    have w5 := w.2.2.2.2.2.1
    have w0 := congrArg Int32.toInt w.1
    rw [w0] at c3
    have e30 : x_30.toInt = ((B (x + 77 + 17 * q) 9).toInt - (B (x + 77 + 17 * q) 8).toInt) % 64 := by rw [ex_30, dst]
    have e29 : x_29.toInt = NB (A 24) (4 * q + i) - x_11.toInt := by rw [ex_29, s_sub (by omega) (by omega), w5]
    have e31 : x_31.toInt = x_30.toInt + x_29.toInt := by rw [ex_31]; exact add_t (by omega) (by omega)
    obtain ⟨sz, mk, pl, va, f0, hf0, hE, hP⟩ := e_sendPart hS hq hD hnp h24 (by omega) w (k := x_11) (by omega) z.1 z.2.1 z.2.2 hsendPart
    rw [e11] at hf0 hP
    have enm : (A 29 (4 * q + i) + x_11) &&& 63 = B (x + 77 + 17 * q) 9 := i32_eq (by rw [aft, e11]; omega)
    rw [enm] at hE
    refine Or.inr ⟨c1, i, hi, ⟨o3, o4⟩, ?_, rfl, U_34, sz, mk, pl, va, x_44, f0, hf0, hE, hP, ?_, ?_⟩
    · unfold NUM; rw [if_pos c3]; omega
    · unfold NUM; rw [if_pos c3, ex_44, aft, e29, e11]
    · rw [eZ, if_pos c5]; simp only [uA_u, uA_s]
  · rcases e_owner hS hq hownerOf hh hn h4 rows with ⟨o1, -⟩ | ⟨i, hi, ei, o3, o4⟩
    · exact absurd o1 c2
    rw [(hS.2.2.2.1 q hq).2.2] at hat
    have er := e_atQ hS hq hat hh (k := i) (by omega)
    have w := rows i hi
    rw [← er] at w
    have z := hz i hi
    have hN := pj_N z.1
    have e11 : x_11.toInt = (((B (x + 77 + 17 * q) 9).toInt - (A 29 (4 * q + i)).toInt) % 64) := by rw [ex_11, w.2.2.2.2.1, dst]
    have w5 := w.2.2.2.2.2.1
    have w0 := congrArg Int32.toInt w.1
    rw [w0] at c3
    have e30 : x_30.toInt = ((B (x + 77 + 17 * q) 9).toInt - (B (x + 77 + 17 * q) 8).toInt) % 64 := by rw [ex_30, dst]
    have e29 : x_29.toInt = NB (A 24) (4 * q + i) - x_11.toInt := by rw [ex_29, s_sub (by omega) (by omega), w5]
    have e31 : x_31.toInt = x_30.toInt + x_29.toInt := by rw [ex_31]; exact add_t (by omega) (by omega)
    refine Or.inl ⟨eZ, rfl, Or.inr (Or.inr ⟨i, hi, ⟨o3, o4⟩, ?_⟩)⟩
    unfold NUM; rw [if_pos c3]; omega
  · rcases e_owner hS hq hownerOf hh hn h4 rows with ⟨o1, o2⟩ | ⟨i, hi, ei, -⟩
    · exact Or.inl ⟨eZ, rfl, Or.inr (Or.inl o2)⟩
    · exfalso; omega
