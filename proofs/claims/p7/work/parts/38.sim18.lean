theorem EMC.put {x : Nat} {G : Nat → Nat} {B : AA} {R : RR} (hS : SHX x R) {pm : Nat → Nat} {tk : Nat} (hD : DYN x R pm tk) {to kd nm : Int32} {U : AA} {r n : Nat} (hcar : C_X0_carry G B R (x + 1) to kd nm U r) (hn : (n : Int) = (B (x + 1) 1).toInt) (h24 : n ≤ 24) {f : Nat → Int32} (e0 : f 0 = to) (e1 : f 1 = kd) (e2 : f 2 = nm) {c : Nat → Int32} (hk : (kd.toInt = 0 ∨ kd.toInt = 1 ∨ kd.toInt = 4) → (f 3).toInt ≤ 0) : EMC x pm B (uA U r f) to kd nm (f 3) (f 4) (f 5) (f 6) c := by
  obtain ⟨b1, b2, b3, b4, b5⟩ := e_carry2 hS hD hcar hn h24
  exact b5 (by rw [uA_s]; exact e0) (by rw [uA_s]; exact e1) (by rw [uA_s]; exact e2) (by rw [uA_s]) (by rw [uA_s]) (by rw [uA_s]) (by rw [uA_s]) (fun h k k1 k2 => by have := hk h; omega) (fun a h1 h2 => uA_n h1)
theorem EMC.load {x nd : Nat} {G : Nat → Nat} {B : AA} {R : RR} (hS : SHX x R) (hnd : nd < 2) {pm : Nat → Nat} {tk : Nat} (hD : DYN x R pm tk) {to kd nm : Int32} {U : AA} {r n : Nat} (hcar : C_X0_carry G B R (x + 1) to kd nm U r) (hn : (n : Int) = (B (x + 1) 1).toInt) (h24 : n ≤ 24) {f : Nat → Int32} (e0 : f 0 = to) (e1 : f 1 = kd) (e2 : f 2 = nm) {s s2 : Int32} {f0 : Nat} {Z : AA} (hl : C_X2_load G (uA U r f) R r (x + 56 + 10 * nd) s s2 Z) (hf : (f0 : Int) = s.toInt) (h0 : 0 ≤ s2.toInt) (h32 : s.toInt + s2.toInt ≤ 32) : ∃ sz : Int32, (sz.toInt = if 4 < s2.toInt then 4 else s2.toInt) ∧ EMC x pm B Z to kd nm sz (f 4) (f 5) (f 6) (fun c => B (x + 57 + 10 * nd) (f0 + c)) := by
  obtain ⟨b1, b2, b3, b4, b5⟩ := e_carry2 hS hD hcar hn h24
  obtain ⟨c, w, ec, ect, hw, eZ⟩ := e_load hl b2 (hS.2.1 nd hnd).2.1 (by omega) (by omega) hf h32 h0 (by omega)
  refine ⟨c, ect, ?_⟩
  have zr : Z r = upd f 3 c := by rw [eZ, uA_n (show r ≠ r + 1 by omega), uA_s, uA_s]
  refine b5 (by rw [zr]; exact e0) (by rw [zr]; exact e1) (by rw [zr]; exact e2) (by rw [zr]; exact upd_s) (by rw [zr]; rfl) (by rw [zr]; rfl) (by rw [zr]; rfl) (fun h k k1 k2 => ?_) (fun a h1 h2 => ?_)
  · rw [eZ, uA_s]
    unfold cpy
    rw [if_pos (by omega), uA_n (by omega), b4 _ (by omega) (by omega)]
    show B _ (f0 + (k - 0)) = B _ (f0 + k)
    rw [Nat.sub_zero]
  · rw [eZ, uA_n h2, uA_n h1, uA_n h1]
theorem mul4 {k : Int32} (h : 0 ≤ k.toInt ∧ k.toInt ≤ 64) : (4 * k).toInt = 4 * k.toInt := by
  have i4 : (4 : Int32).toInt = 4 := by decide
  simp only [Int32.toInt_mul, Int.bmod, i4]
  omega
theorem e_cellsOf {G : Nat → Nat} {B : AA} {R : RR} {row : Nat} {k r : Int32} (h : C_X4_cellsOf G B R row k r) (hk : 0 ≤ k.toInt ∧ k.toInt ≤ 2) (hs : 4 * k.toInt < (B row 3).toInt ∧ (B row 3).toInt ≤ 12) : r.toInt = if 4 ≤ (B row 3).toInt - 4 * k.toInt then 4 else (B row 3).toInt - 4 * k.toInt := by
  rcases h with ⟨x_3, ex_3, x_4, ex_4, x_5, ex_5, rfl⟩
  have e3 : x_3.toInt = 4 * k.toInt := by rw [ex_3]; exact mul4 (by omega)
  have e4 : x_4.toInt = (B row 3).toInt - x_3.toInt := by rw [ex_4]; exact s_sub (by omega) (by omega)
  by_cases e : x_4 < 4
  · have e2 := e
    rw [lt_I, i_4] at e2
    rw [ex_5, if_pos e, if_neg (by omega)]; omega
  · have e2 := e
    rw [lt_I, i_4] at e2
    rw [ex_5, if_neg e, if_pos (by omega)]; exact i_4
theorem e_lastN {G : Nat → Nat} {B : AA} {R : RR} {row : Nat} {k r : Int32} (h : C_X4_isLastNumber G B R row k r) (h5 : 1 ≤ (B row 5).toInt ∧ (B row 5).toInt ≤ 3) : (r.toInt = 0 ∧ ¬ k.toInt = (B row 5).toInt - 1) ∨ (r.toInt = 1 ∧ k.toInt = (B row 5).toInt - 1) := by
  rcases h with ⟨x_2, ex_2, c1, rfl⟩ | ⟨x_2, ex_2, c1, rfl⟩
  all_goals
    have e2 : x_2.toInt = (B row 5).toInt - 1 := by
      rw [ex_2, ← i_1t]; exact s_sub (by rw [i_1t]; omega) (by rw [i_1t]; omega)
  · exact Or.inl ⟨by decide, by omega⟩
  · exact Or.inr ⟨by decide, by omega⟩
/-- what a part of a request's packet holds -/
def PRM (A : AA) (m : Nat) (kk : Int) (sz mk pl va : Int32) : Prop := ((A 22 m).toInt = 0 → mk.toInt = (if kk = 0 then 1 else 0) + (if kk = NB (A 24) m - 1 then 2 else 0) ∧ pl = -1) ∧ (¬ (A 22 m).toInt = 0 → mk = A 25 m ∧ pl.toInt = (A 26 m).toInt + 4 * kk) ∧ ((A 22 m).toInt = 3 → va = A 27 m ∧ sz = 0) ∧ (¬ (A 22 m).toInt = 3 → va = 0) ∧ ((A 22 m).toInt = 2 → sz.toInt = (A 24 m).toInt - 4 * kk) ∧ (¬ (A 22 m).toInt = 2 → ¬ (A 22 m).toInt = 3 → sz.toInt = if 4 ≤ (A 24 m).toInt - 4 * kk then 4 else (A 24 m).toInt - 4 * kk)
theorem PRM.uniq {A : AA} {m : Nat} {kk : Int} {sz mk pl va sz' mk' pl' va' : Int32} (h : PRM A m kk sz mk pl va) (g : PRM A m kk sz' mk' pl' va') : sz = sz' ∧ mk = mk' ∧ pl = pl' ∧ va = va' := by
  obtain ⟨h1, h2, h3, h4, h5, h6⟩ := h
  obtain ⟨g1, g2, g3, g4, g5, g6⟩ := g
  refine ⟨?_, ?_, ?_, ?_⟩
  · by_cases e3 : (A 22 m).toInt = 3
    · rw [(h3 e3).2, (g3 e3).2]
    · by_cases e2 : (A 22 m).toInt = 2
      · exact i32_eq (by rw [h5 e2, g5 e2])
      · exact i32_eq (by rw [h6 e2 e3, g6 e2 e3])
  · by_cases e0 : (A 22 m).toInt = 0
    · exact i32_eq (by rw [(h1 e0).1, (g1 e0).1])
    · rw [(h2 e0).1, (g2 e0).1]
  · by_cases e0 : (A 22 m).toInt = 0
    · rw [(h1 e0).2, (g1 e0).2]
    · exact i32_eq (by rw [(h2 e0).2, (g2 e0).2])
  · by_cases e3 : (A 22 m).toInt = 3
    · rw [(h3 e3).1, (g3 e3).1]
    · rw [h4 e3, g4 e3]
theorem PRM.pkv {A : AA} {m : Nat} {kk : Int} {nm sz mk pl va : Int32} (h : PRM A m kk sz mk pl va) (hk : 0 ≤ (A 22 m).toInt ∧ (A 22 m).toInt ≤ 3) (hz : (A 24 m).toInt ≤ 12) (h0 : 0 ≤ kk ∧ kk < NB (A 24) m) (hn : 0 ≤ nm.toInt ∧ nm.toInt ≤ 63) : PKV (A 22 m) nm sz mk := by
  obtain ⟨h1, h2, h3, h4, h5, h6⟩ := h
  unfold NB at h0
  refine ⟨hn, by omega, fun e => ?_, fun e => by omega, fun e => ?_, fun e => ?_⟩
  · rw [(h1 e).1]
    constructor <;> (split <;> split <;> omega)
  · rw [h6 (by omega) (by omega)]
    constructor <;> (split <;> omega)
  · rw [h5 e]; omega
def OWN (A : AA) (q i : Nat) (cu : Int) : Prop := (∀ j, j < i → NB (A 24) (4 * q + j) ≤ (cu - (A 29 (4 * q + j)).toInt) % 64) ∧ (cu - (A 29 (4 * q + i)).toInt) % 64 < NB (A 24) (4 * q + i)
theorem OWN.uniq {A : AA} {q i i' : Nat} {cu : Int} (h : OWN A q i cu) (g : OWN A q i' cu) : i = i' := by
  by_cases e : i < i'
  · have a := g.1 i e
    have b := h.2
    omega
  by_cases e2 : i' < i
  · have a := h.1 i' e2
    have b := g.2
    omega
  omega
def NUM (A : AA) (m : Nat) (kk : Int) : Int := if (A 22 m).toInt = 2 then NB (A 24) m - kk else 1
theorem e_sendPart {x q m n : Nat} {G : Nat → Nat} {B : AA} {R : RR} {A : AA} (hS : SHX x R) (hq : q < 4) {pm : Nat → Nat} {tk : Nat} (hD : DYN x R pm tk) (hn : (n : Int) = (B (x + 1) 1).toInt) (h24 : n ≤ 24) {row : Nat} (hr : x + 76 < row) (hw : RWQ (B row) A m) {k : Int32} (hk : 0 ≤ k.toInt ∧ k.toInt < NB (A 24) m) (hs : 1 ≤ (A 24 m).toInt ∧ (A 24 m).toInt ≤ 12) (hh : 0 ≤ (A 23 m).toInt ∧ (A 23 m).toInt + (A 24 m).toInt ≤ 32) (hpl : -1 ≤ (A 26 m).toInt ∧ (A 26 m).toInt ≤ 31) {Z : AA} (hc : C_X7_sendPart G B R (x + 77 + 17 * q) row k Z) : ∃ (sz mk pl va : Int32) (f0 : Nat), (f0 : Int) = (A 23 m).toInt + 4 * k.toInt ∧ EMC x pm B Z (B (x + 77 + 17 * q) 0) (A 22 m) ((A 29 m + k) &&& 63) sz mk pl va (fun c => B (x + 57 + 10 * (q % 2)) (f0 + c)) ∧ PRM A m k.toInt sz mk pl va := by
  obtain ⟨w0, w1, w2, w3, w4, w5, w6, w7, w8, w9, w10⟩ := hw
  have hNB : NB (A 24) m = ((A 24 m).toInt + 3) / 4 := rfl
  obtain ⟨f0, hf0⟩ : ∃ f0 : Nat, (f0 : Int) = (A 23 m).toInt + 4 * k.toInt := ⟨_, Int.toNat_of_nonneg (by omega)⟩
  have w3i := congrArg Int32.toInt w3
  rcases hc with ⟨x_5, ex_5, r_7, U_8, hF, hcarry, x_9, ex_9, fx_9, c1, B_15, rfl, x_18, ex_18, B_20, rfl, c2, c3, x_28, ex_28, r_29, hcellsOf, U_32, hF_1, hload, rfl⟩ | ⟨x_5, ex_5, r_7, U_8, hF, hcarry, x_9, ex_9, fx_9, c1, B_15, rfl, x_18, ex_18, B_20, rfl, c2, c3, B_35, rfl, rfl⟩ | ⟨x_5, ex_5, r_7, U_8, hF, hcarry, x_9, ex_9, fx_9, c1, B_15, rfl, x_18, ex_18, B_20, rfl, c2, x_38, ex_38, fx_38, B_41, rfl, rfl⟩ | ⟨x_5, ex_5, r_7, U_8, hF, hcarry, x_9, ex_9, fx_9, c1, c2, r_43, hisLastNumber, c3, B_46, rfl, x_54, ex_54, r_55, hcellsOf, U_58, hF_1, hload, rfl⟩ | ⟨x_5, ex_5, r_7, U_8, hF, hcarry, x_9, ex_9, fx_9, c1, c2, r_43, hisLastNumber, c3, B_60, rfl, x_68, ex_68, r_69, hcellsOf, U_72, hF_1, hload, rfl⟩ | ⟨x_5, ex_5, r_7, U_8, hF, hcarry, x_9, ex_9, fx_9, c1, c2, r_73, hisLastNumber, c3, B_76, rfl, x_84, ex_84, r_85, hcellsOf, U_88, hF_1, hload, rfl⟩ | ⟨x_5, ex_5, r_7, U_8, hF, hcarry, x_9, ex_9, fx_9, c1, c2, r_73, hisLastNumber, c3, B_90, rfl, x_98, ex_98, r_99, hcellsOf, U_102, hF_1, hload, rfl⟩
  all_goals
    rw [(hS.2.2.2.1 q hq).2.1, w0] at hcarry
    rw [w0] at c1
    rw [ex_5, w4] at hcarry
    obtain ⟨b1, b2, b3, b4, b5⟩ := e_carry2 hS hD hcarry hn h24
    have eR : U_8 row = B row := b4 row (by omega) (by omega)
    have hne : row ≠ r_7 := by omega
  · rw [w0] at c2 c3
    rw [w6] at hload hcellsOf
    rw [w2] at ex_28
    have eX : x_28.toInt = (A 23 m).toInt + x_9.toInt := by rw [ex_28]; exact add_t (by omega) (by omega)
    rw [(hS.2.2.2.1 q hq).1] at hload
    try simp only [uA_u, uA_s] at hload hcellsOf
    have eC := e_cellsOf hcellsOf (by omega) (by rw [uA_n hne, eR]; omega)
    rw [uA_n hne, eR, w3i] at eC
    have eC1 : r_29.toInt ≤ 4 ∧ 0 ≤ r_29.toInt ∧ r_29.toInt ≤ (A 24 m).toInt - 4 * k.toInt := by rw [eC]; split <;> omega
    obtain ⟨sz, es, hE⟩ := EMC.load hS (by omega) hD hcarry hn h24 (f := upd (upd (U_8 r_7) 4 (A 25 m)) 5 x_18) (by rw [b1]; rfl) (by rw [b1]; rfl) (by rw [b1]; rfl) hload (f0 := f0) (by omega) (by omega) (by omega)
    rw [if_neg (by omega), eC] at es
    rw [w7] at ex_18
    refine ⟨sz, _, _, _, f0, hf0, hE, fun e => absurd e c1, fun _ => ⟨rfl, ?_⟩, fun e => absurd e c3, fun _ => ?_, fun e => absurd e c2, fun _ _ => es⟩
    · show x_18.toInt = _
      rw [ex_18, add_t (by omega) (by omega), fx_9]
    · rw [b1]; rfl
  · rw [w0] at c2 c3
    rw [w7] at ex_18
    rw [w6, w8]
    simp only [uA_u, uA_s]
    have hE := EMC.put hS hD hcarry hn h24 (f := upd (upd (upd (U_8 r_7) 4 (A 25 m)) 5 x_18) 6 (A 27 m)) (by rw [b1]; rfl) (by rw [b1]; rfl) (by rw [b1]; rfl) (c := fun c => B (x + 57 + 10 * (q % 2)) (f0 + c)) (fun h => by omega)
    refine ⟨_, _, _, _, f0, hf0, hE, fun e => absurd e c1, fun _ => ⟨rfl, ?_⟩, fun e => ⟨rfl, ?_⟩, fun e => absurd c3 e, fun e => absurd e c2, fun _ e => absurd c3 e⟩
    · show x_18.toInt = _
      rw [ex_18, add_t (by omega) (by omega), fx_9]
    · rw [b1]; rfl
  · rw [w0] at c2
    rw [w7] at ex_18
    rw [w3] at ex_38 fx_38
    rw [w6]
    simp only [uA_u, uA_s]
    have hE := EMC.put hS hD hcarry hn h24 (f := upd (upd (upd (U_8 r_7) 4 (A 25 m)) 5 x_18) 3 x_38) (by rw [b1]; rfl) (by rw [b1]; rfl) (by rw [b1]; rfl) (c := fun c => B (x + 57 + 10 * (q % 2)) (f0 + c)) (fun h => by omega)
    refine ⟨_, _, _, _, f0, hf0, hE, fun e => absurd e c1, fun _ => ⟨rfl, ?_⟩, fun e => by omega, fun _ => ?_, fun e => ?_, fun e _ => absurd c2 e⟩
    · show x_18.toInt = _
      rw [ex_18, add_t (by omega) (by omega), fx_9]
    · rw [b1]; rfl
    · show x_38.toInt = _
      rw [fx_38, fx_9]
  · have kl := e_lastN hisLastNumber (by rw [eR, w5]; omega)
    rw [eR, w5] at kl
    rw [w2] at ex_54
    have eX : x_54.toInt = (A 23 m).toInt + x_9.toInt := by rw [ex_54]; exact add_t (by omega) (by omega)
    rw [(hS.2.2.2.1 q hq).1] at hload
    try simp only [uA_u, uA_s] at hload hcellsOf
    have eC := e_cellsOf hcellsOf (by omega) (by rw [uA_n hne, eR]; omega)
    rw [uA_n hne, eR, w3i] at eC
    have eC1 : r_55.toInt ≤ 4 ∧ 0 ≤ r_55.toInt ∧ r_55.toInt ≤ (A 24 m).toInt - 4 * k.toInt := by rw [eC]; split <;> omega
    obtain ⟨sz, es, hE⟩ := EMC.load hS (by omega) hD hcarry hn h24 (f := upd (U_8 r_7) 4 0) (by rw [b1]; rfl) (by rw [b1]; rfl) (by rw [b1]; rfl) hload (f0 := f0) (by omega) (by omega) (by omega)
    rw [if_neg (by omega), eC] at es
    refine ⟨sz, _, _, _, f0, hf0, hE, fun e => ⟨?_, ?_⟩, fun e => absurd c1 e, fun e => by omega, fun _ => ?_, fun e => by omega, fun _ _ => es⟩
    · show (0 : Int32).toInt = _
      rw [if_neg c2, if_neg (by omega)]
      decide
    · rw [b1]; rfl
    · rw [b1]; rfl
  · have kl := e_lastN hisLastNumber (by rw [eR, w5]; omega)
    rw [eR, w5] at kl
    rw [w2] at ex_68
    have eX : x_68.toInt = (A 23 m).toInt + x_9.toInt := by rw [ex_68]; exact add_t (by omega) (by omega)
    rw [(hS.2.2.2.1 q hq).1] at hload
    try simp only [uA_u, uA_s] at hload hcellsOf
    have eC := e_cellsOf hcellsOf (by omega) (by rw [uA_n hne, eR]; omega)
    rw [uA_n hne, eR, w3i] at eC
    have eC1 : r_69.toInt ≤ 4 ∧ 0 ≤ r_69.toInt ∧ r_69.toInt ≤ (A 24 m).toInt - 4 * k.toInt := by rw [eC]; split <;> omega
    obtain ⟨sz, es, hE⟩ := EMC.load hS (by omega) hD hcarry hn h24 (f := upd (U_8 r_7) 4 2) (by rw [b1]; rfl) (by rw [b1]; rfl) (by rw [b1]; rfl) hload (f0 := f0) (by omega) (by omega) (by omega)
    rw [if_neg (by omega), eC] at es
    refine ⟨sz, _, _, _, f0, hf0, hE, fun e => ⟨?_, ?_⟩, fun e => absurd c1 e, fun e => by omega, fun _ => ?_, fun e => by omega, fun _ _ => es⟩
    · show (2 : Int32).toInt = _
      rw [if_neg c2, if_pos (by omega)]
      decide
    · rw [b1]; rfl
    · rw [b1]; rfl
  · have kl := e_lastN hisLastNumber (by rw [eR, w5]; omega)
    rw [eR, w5] at kl
    rw [w2] at ex_84
    have eX : x_84.toInt = (A 23 m).toInt + x_9.toInt := by rw [ex_84]; exact add_t (by omega) (by omega)
    rw [(hS.2.2.2.1 q hq).1] at hload
    try simp only [uA_u, uA_s] at hload hcellsOf
    have eC := e_cellsOf hcellsOf (by omega) (by rw [uA_n hne, eR]; omega)
    rw [uA_n hne, eR, w3i] at eC
    have eC1 : r_85.toInt ≤ 4 ∧ 0 ≤ r_85.toInt ∧ r_85.toInt ≤ (A 24 m).toInt - 4 * k.toInt := by rw [eC]; split <;> omega
    obtain ⟨sz, es, hE⟩ := EMC.load hS (by omega) hD hcarry hn h24 (f := upd (U_8 r_7) 4 1) (by rw [b1]; rfl) (by rw [b1]; rfl) (by rw [b1]; rfl) hload (f0 := f0) (by omega) (by omega) (by omega)
    rw [if_neg (by omega), eC] at es
    refine ⟨sz, _, _, _, f0, hf0, hE, fun e => ⟨?_, ?_⟩, fun e => absurd c1 e, fun e => by omega, fun _ => ?_, fun e => by omega, fun _ _ => es⟩
    · show (1 : Int32).toInt = _
      rw [if_pos c2, if_neg (by omega)]
      decide
    · rw [b1]; rfl
    · rw [b1]; rfl
  · have kl := e_lastN hisLastNumber (by rw [eR, w5]; omega)
    rw [eR, w5] at kl
    rw [w2] at ex_98
    have eX : x_98.toInt = (A 23 m).toInt + x_9.toInt := by rw [ex_98]; exact add_t (by omega) (by omega)
    rw [(hS.2.2.2.1 q hq).1] at hload
    try simp only [uA_u, uA_s] at hload hcellsOf
    have eC := e_cellsOf hcellsOf (by omega) (by rw [uA_n hne, eR]; omega)
    rw [uA_n hne, eR, w3i] at eC
    have eC1 : r_99.toInt ≤ 4 ∧ 0 ≤ r_99.toInt ∧ r_99.toInt ≤ (A 24 m).toInt - 4 * k.toInt := by rw [eC]; split <;> omega
    obtain ⟨sz, es, hE⟩ := EMC.load hS (by omega) hD hcarry hn h24 (f := upd (U_8 r_7) 4 3) (by rw [b1]; rfl) (by rw [b1]; rfl) (by rw [b1]; rfl) hload (f0 := f0) (by omega) (by omega) (by omega)
    rw [if_neg (by omega), eC] at es
    refine ⟨sz, _, _, _, f0, hf0, hE, fun e => ⟨?_, ?_⟩, fun e => absurd c1 e, fun e => by omega, fun _ => ?_, fun e => by omega, fun _ _ => es⟩
    · show (3 : Int32).toInt = _
      rw [if_pos c2, if_pos (by omega)]
      decide
    · rw [b1]; rfl
    · rw [b1]; rfl

