/-- a request's row, a receive's row -/
def RWQ (b : Nat → Int32) (A : AA) (k : Nat) : Prop := b 0 = A 22 k ∧ b 1 = A 28 k ∧ b 2 = A 23 k ∧ b 3 = A 24 k ∧ b 4 = A 29 k ∧ (b 5).toInt = NB (A 24) k ∧ b 6 = A 25 k ∧ b 7 = A 26 k ∧ b 8 = A 27 k ∧ ((A 22 k).toInt ≠ 3 → A 27 k = 0) ∧ (0 ≤ (A 22 k).toInt ∧ (A 22 k).toInt ≤ 3)
def RQ (x q : Nat) (B A : AA) : Prop := ∃ h : Nat, h < 4 ∧ (h : Int) = (B (x + 78 + 17 * q) 3).toInt ∧ B (x + 78 + 17 * q) 4 = A 20 q ∧ B (x + 78 + 17 * q) 5 = A 21 q ∧ ∀ i : Nat, (i : Int) < (A 20 q).toInt → RWQ (B (x + 80 + 17 * q + (h + i) % 4)) A (4 * q + i)
def RWV (b : Nat → Int32) (A : AA) (k : Nat) : Prop := b 0 = 4 ∧ b 1 = A 34 k ∧ b 2 = A 32 k ∧ b 3 = A 33 k ∧ b 9 = A 35 k
def RV (x q : Nat) (B A : AA) : Prop := ∃ h : Nat, h < 4 ∧ (h : Int) = (B (x + 88 + 17 * q) 3).toInt ∧ B (x + 88 + 17 * q) 4 = A 30 q ∧ B (x + 88 + 17 * q) 5 = A 31 q ∧ ∀ i : Nat, (i : Int) < (A 30 q).toInt → RWV (B (x + 90 + 17 * q + (h + i) % 4)) A (4 * q + i)
theorem RWQ.cg {b b' : Nat → Int32} {A A' : AA} {k k' : Nat} (h : RWQ b A k) (e : b' = b) (hj : ∀ j, 22 ≤ j → j ≤ 29 → A' j k' = A j k) : RWQ b' A' k' := by
  subst e
  obtain ⟨h0, h1, h2, h3, h4, h5, h6, h7, h8, h9, h10⟩ := h
  have hz : NB (A' 24) k' = NB (A 24) k := by unfold NB; rw [hj 24 (by decide) (by decide)]
  have a := hj 22 (by decide) (by decide)
  have b := hj 27 (by decide) (by decide)
  exact ⟨by rw [a]; exact h0, by rw [hj 28 (by decide) (by decide)]; exact h1, by rw [hj 23 (by decide) (by decide)]; exact h2, by rw [hj 24 (by decide) (by decide)]; exact h3, by rw [hj 29 (by decide) (by decide)]; exact h4, by rw [hz]; exact h5, by rw [hj 25 (by decide) (by decide)]; exact h6, by rw [hj 26 (by decide) (by decide)]; exact h7, by rw [b]; exact h8, by rw [a, b]; exact h9, by rw [a]; exact h10⟩
theorem RWV.cg {b b' : Nat → Int32} {A A' : AA} {k k' : Nat} (h : RWV b A k) (e : b' = b) (hj : ∀ j, 32 ≤ j → j ≤ 35 → A' j k' = A j k) : RWV b' A' k' := by
  subst e
  obtain ⟨h0, h1, h2, h3, h4⟩ := h
  exact ⟨h0, by rw [hj 34 (by decide) (by decide)]; exact h1, by rw [hj 32 (by decide) (by decide)]; exact h2, by rw [hj 33 (by decide) (by decide)]; exact h3, by rw [hj 35 (by decide) (by decide)]; exact h4⟩
theorem RQ.cg {x q : Nat} {B Z A A' : AA} (h : RQ x q B A) (hK : Z (x + 78 + 17 * q) = B (x + 78 + 17 * q)) (hr : ∀ i, i < 4 → Z (x + 80 + 17 * q + i) = B (x + 80 + 17 * q + i)) (h20 : A' 20 q = A 20 q) (h21 : A' 21 q = A 21 q) (hj : ∀ j, 22 ≤ j → j ≤ 29 → ∀ i, i < 4 → A' j (4 * q + i) = A j (4 * q + i)) (h4 : (A 20 q).toInt ≤ 4) : RQ x q Z A' := by
  obtain ⟨a, b1, b2, b3, b4, b5⟩ := h
  refine ⟨a, b1, by rw [hK]; exact b2, by rw [hK, h20]; exact b3, by rw [hK, h21]; exact b4, fun i hi => ?_⟩
  rw [h20] at hi
  exact (b5 i hi).cg (hr _ (by omega)) (fun j h1 h2 => hj j h1 h2 i (by omega))
theorem RV.cg {x q : Nat} {B Z A A' : AA} (h : RV x q B A) (hK : Z (x + 88 + 17 * q) = B (x + 88 + 17 * q)) (hr : ∀ i, i < 4 → Z (x + 90 + 17 * q + i) = B (x + 90 + 17 * q + i)) (h20 : A' 30 q = A 30 q) (h21 : A' 31 q = A 31 q) (hj : ∀ j, 32 ≤ j → j ≤ 35 → ∀ i, i < 4 → A' j (4 * q + i) = A j (4 * q + i)) (h4 : (A 30 q).toInt ≤ 4) : RV x q Z A' := by
  obtain ⟨a, b1, b2, b3, b4, b5⟩ := h
  refine ⟨a, b1, by rw [hK]; exact b2, by rw [hK, h20]; exact b3, by rw [hK, h21]; exact b4, fun i hi => ?_⟩
  rw [h20] at hi
  exact (b5 i hi).cg (hr _ (by omega)) (fun j h1 h2 => hj j h1 h2 i (by omega))
/-- where a queue's row lies -/
theorem e_atQ {x q : Nat} {G : Nat → Nat} {B : AA} {R : RR} (hS : SHX x R) (hq : q < 4) {i : Int32} {r h k : Nat} (hc : C_X5_at G B R (x + 78 + 17 * q) i r) (hh : (h : Int) = (B (x + 78 + 17 * q) 3).toInt) (hk : (k : Int) = i.toInt) : r = x + 80 + 17 * q + (h + k) % 4 := by
  rcases hc with ⟨x_4, ex_4, fx_4, x_5, ex_5, fx_5, n_8, hn_8, rfl⟩
  have h1 := (hS.2.2.2.2.1 q hq)
  rw [h1.2.1, h1.2.2 n_8 (by omega)]
  omega
theorem e_atV {x q : Nat} {G : Nat → Nat} {B : AA} {R : RR} (hS : SHX x R) (hq : q < 4) {i : Int32} {r h k : Nat} (hc : C_X5_at G B R (x + 88 + 17 * q) i r) (hh : (h : Int) = (B (x + 88 + 17 * q) 3).toInt) (hk : (k : Int) = i.toInt) : r = x + 90 + 17 * q + (h + k) % 4 := by
  rcases hc with ⟨x_4, ex_4, fx_4, x_5, ex_5, fx_5, n_8, hn_8, rfl⟩
  have h1 := (hS.2.2.2.2.2.2.1 q hq)
  rw [h1.2.1, h1.2.2 n_8 (by omega)]
  omega
theorem e_first {G : Nat → Nat} {B : AA} {R : RR} {K : Nat} {st : Int32} {Z : AA} (h : C_X5_completeFirst G B R K st Z) : ∃ (r : Nat) (U : AA) (h' c' : Int32), C_X5_at G B R K 0 r ∧ C_X1_complete G B R (R K 1) (B K 0) r st U ∧ h'.toInt = ((B K 3).toInt + 1) % 4 ∧ c'.toInt = (B K 4).toInt - 1 ∧ c' = B K 4 - 1 ∧ Z = uA U K (upd (upd (U K) 3 h') 4 c') := by
  rcases h with ⟨r_3, hat, U_6, hF, hcomplete, x_10, ex_10, fx_10, x_11, ex_11, fx_11, B_13, rfl, x_17, ex_17, fx_17, B_19, rfl, rfl⟩
  refine ⟨r_3, U_6, x_11, x_17, hat, hcomplete, by omega, fx_17, ex_17, ?_⟩
  simp only [uA_s, uA_u]
theorem nd2 {q : Nat} {p : Int32} (hp : (q : Int) = p.toInt) : ((q % 2 : Nat) : Int) = p.toInt % 2 := by omega
/-- the first request is completed: what is left of the class's queue is the reference's from the next row on -/
theorem s_firstQ {x q : Nat} {G : Nat → Nat} {B : AA} {R : RR} {A : AA} (hS : SHX x R) (hq : q < 4) (hns : ∀ m, m < 2 → NS x m B (A 8) (A 9)) (hI : I3 (A 8)) {k : Nat} {p st cd pk cdz pkz : Int32} {Z A' : AA} (hp : (q : Int) = p.toInt) (hb0 : B (x + 78 + 17 * q) 0 = p) (hrow : ∀ h : Nat, (h : Int) = (B (x + 78 + 17 * q) 3).toInt → RWQ (B (x + 80 + 17 * q + h % 4)) A k) (h3 : 0 ≤ (B (x + 78 + 17 * q) 3).toInt ∧ (B (x + 78 + 17 * q) 3).toInt ≤ 3) (hc : C_X5_completeFirst G B R (x + 78 + 17 * q) st Z) (hd : D_X10_complete A cd pk p (A 22 k) (A 28 k) st (A 24 k) A' cdz pkz) : cdz = cd ∧ pkz = pk ∧ ∃ U : AA, CMP x (q % 2) B U A A' ∧ ∃ h' c' : Int32, h'.toInt = ((B (x + 78 + 17 * q) 3).toInt + 1) % 4 ∧ c'.toInt = (B (x + 78 + 17 * q) 4).toInt - 1 ∧ c' = B (x + 78 + 17 * q) 4 - 1 ∧ Z = uA U (x + 78 + 17 * q) (upd (upd (B (x + 78 + 17 * q)) 3 h') 4 c') := by
  obtain ⟨r, U, h', c', hat, hco, e1, e2, e3, rfl⟩ := e_first hc
  obtain ⟨h, hh⟩ : ∃ h : Nat, (h : Int) = (B (x + 78 + 17 * q) 3).toInt := ⟨_, Int.toNat_of_nonneg h3.1⟩
  have er := e_atQ hS hq hat hh (k := 0) (by decide)
  have hw := hrow h hh
  have h4 : r = x + 80 + 17 * q + h % 4 := by rw [er]; rfl
  rw [← h4] at hw
  rw [hb0, (hS.2.2.2.2.1 q hq).1] at hco
  obtain ⟨a, b, c⟩ := s_complete hS (by omega) hns hI (nd2 hp) hco hd hw.1 hw.2.1 (by rw [if_neg (by have := hw.2.2.2.2.2.2.2.2.2.2; omega)]; exact hw.2.2.2.1)
  refine ⟨a, b, U, c, h', c', e1, e2, e3, ?_⟩
  rw [c.2.2.1 (x + 78 + 17 * q) (by omega) (by omega)]
theorem s_firstV {x q : Nat} {G : Nat → Nat} {B : AA} {R : RR} {A : AA} (hS : SHX x R) (hq : q < 4) (hns : ∀ m, m < 2 → NS x m B (A 8) (A 9)) (hI : I3 (A 8)) {k : Nat} {p st cd pk cdz pkz : Int32} {Z A' : AA} (hp : (q : Int) = p.toInt) (hb0 : B (x + 88 + 17 * q) 0 = p) (hrow : ∀ h : Nat, (h : Int) = (B (x + 88 + 17 * q) 3).toInt → RWV (B (x + 90 + 17 * q + h % 4)) A k) (h3 : 0 ≤ (B (x + 88 + 17 * q) 3).toInt ∧ (B (x + 88 + 17 * q) 3).toInt ≤ 3) (hc : C_X5_completeFirst G B R (x + 88 + 17 * q) st Z) (hd : D_X10_complete A cd pk p 4 (A 34 k) st (A 35 k) A' cdz pkz) : cdz = cd ∧ pkz = pk ∧ ∃ U : AA, CMP x (q % 2) B U A A' ∧ ∃ h' c' : Int32, h'.toInt = ((B (x + 88 + 17 * q) 3).toInt + 1) % 4 ∧ c'.toInt = (B (x + 88 + 17 * q) 4).toInt - 1 ∧ c' = B (x + 88 + 17 * q) 4 - 1 ∧ Z = uA U (x + 88 + 17 * q) (upd (upd (B (x + 88 + 17 * q)) 3 h') 4 c') := by
  obtain ⟨r, U, h', c', hat, hco, e1, e2, e3, rfl⟩ := e_first hc
  obtain ⟨h, hh⟩ : ∃ h : Nat, (h : Int) = (B (x + 88 + 17 * q) 3).toInt := ⟨_, Int.toNat_of_nonneg h3.1⟩
  have er := e_atV hS hq hat hh (k := 0) (by decide)
  have hw := hrow h hh
  have h4 : r = x + 90 + 17 * q + h % 4 := by rw [er]; rfl
  rw [← h4] at hw
  rw [hb0, (hS.2.2.2.2.2.2.1 q hq).1] at hco
  obtain ⟨a, b, c⟩ := s_complete hS (by omega) hns hI (nd2 hp) hco hd hw.1 hw.2.1 (by rw [if_pos (by decide)]; exact hw.2.2.2.2)
  refine ⟨a, b, U, c, h', c', e1, e2, e3, ?_⟩
  rw [c.2.2.1 (x + 88 + 17 * q) (by omega) (by omega)]
