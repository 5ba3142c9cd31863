abbrev RR : Type := Nat → Nat → Nat
def uR (A : RR) (j : Nat) (g : Nat → Nat) : RR := fun k => if k = j then g else A k
theorem uR_s {A : RR} {j : Nat} {g : Nat → Nat} : uR A j g j = g := if_pos rfl
theorem uR_n {A : RR} {j k : Nat} {g : Nat → Nat} (h : k ≠ j) : uR A j g k = A k := if_neg h
def updN (f : Nat → Nat) (k x : Nat) : Nat → Nat := fun j => if j = k then x else f j
theorem updN_s {f : Nat → Nat} {n : Nat} {v : Nat} : updN f n v n = v := by simp [updN]
theorem updN_n {f : Nat → Nat} {n k : Nat} {v : Nat} (h : k ≠ n) : updN f n v k = f k := by simp [updN, h]
/-- what lies at an address of a group -/
def ctx (E : EE) (g : Nat) (b : Nat → Int32) (r : Nat → Nat) : va_E := match g with
  | 1 => .inr (9, [.ref (r 0), .ref (r 1), .ref (r 2)])
  | 2 => .inl (E.2.2 3, 2, .inr (.inr (.inr (.inr (fun i => some (r i))))))
  | 3 => .inl (E.2.2 5, 4, .inr (.inr (.inr (.inr (fun i => some (r i))))))
  | 4 => .inr (0, [.ref (r 0), .int (b 1), .ref (r 2), .ref (r 3)])
  | 5 => .inr (1, [.ref (r 0), .ref (r 1), .ref (r 2), .int (b 3), .int (b 4)])
  | 6 => .inl (E.2.2 4, 6, .inr (.inr (.inr (.inr (fun i => some (r i))))))
  | 7 => .inr (6, [.int (b 0), .int (b 1), .int (b 2)])
  | 8 => .inr (3, [.ref (r 0), .ref (r 1), .int (b 2)])
  | 9 => .inr (7, [.int (b 0), .ref (r 1), .ref (r 2), .int (b 3), .int (b 4), .int (b 5), .ref (r 6), .int (b 7), .int (b 8), .int (b 9), .int (b 10), .int (b 11), .int (b 12), .int (b 13)])
  | 10 => .inr (8, [.int (b 0), .ref (r 1), .ref (r 2), .ref (r 3), .int (b 4), .int (b 5), .int (b 6), .ref (r 7), .ref (r 8)])
  | 11 => .inr (5, [.int (b 0), .ref (r 1), .ref (r 2), .int (b 3), .int (b 4), .int (b 5)])
  | 12 => .inl (E.2.2 6, 4, .inr (.inr (.inr (.inr (fun i => some (r i))))))
  | 13 => .inr (4, [.int (b 0), .int (b 1), .int (b 2), .int (b 3), .int (b 4), .int (b 5), .int (b 6), .int (b 7), .int (b 8), .int (b 9)])
  | 14 => .inl (E.2.2 0, 32, .inl (b))
  | 15 => .inl (E.2.2 0, 80, .inl (b))
  | 16 => .inl (E.2.2 0, 2, .inl (b))
  | 17 => .inl (E.2.2 0, 2, .inl (b))
  | 30 => .inl (E.2.2 7, 24, .inr (.inr (.inr (.inr (fun i => some (r i))))))
  | 31 => .inr (2, [.int (b 0), .int (b 1), .int (b 2), .int (b 3), .int (b 4), .int (b 5), .int (b 6), .ref (r 7)])
  | 32 => .inl (E.2.2 0, 4, .inl (b))
  | _ => .inl (E.2.2 0, 0, .inl b)
/-- the ranges and the groups -/
def tw (G : Nat → Nat) (g : Nat) (b : Nat → Int32) (r : Nat → Nat) : Prop := match g with
  | 1 => G (r 0) = 2 ∧ G (r 1) = 3 ∧ G (r 2) = 4
  | 2 => (∀ i, i < 2 → G (r i) = 5)
  | 3 => (∀ i, i < 4 → G (r i) = 8)
  | 4 => G (r 0) = 30 ∧ (0 ≤ (b 1).toInt ∧ (b 1).toInt ≤ 24) ∧ G (r 2) = 31 ∧ G (r 3) = 31
  | 5 => G (r 0) = 14 ∧ G (r 1) = 6 ∧ G (r 2) = 15 ∧ (0 ≤ (b 3).toInt ∧ (b 3).toInt ≤ 15) ∧ (0 ≤ (b 4).toInt ∧ (b 4).toInt ≤ 16)
  | 6 => (∀ i, i < 6 → G (r i) = 7)
  | 8 => G (r 0) = 9 ∧ G (r 1) = 10
  | 9 => (0 ≤ (b 0).toInt ∧ (b 0).toInt ≤ 3) ∧ G (r 1) = 5 ∧ G (r 2) = 4 ∧ G (r 6) = 11
  | 10 => (0 ≤ (b 0).toInt ∧ (b 0).toInt ≤ 3) ∧ G (r 1) = 5 ∧ G (r 2) = 4 ∧ G (r 3) = 11 ∧ G (r 7) = 16 ∧ G (r 8) = 17
  | 11 => G (r 1) = 5 ∧ G (r 2) = 12 ∧ (0 ≤ (b 3).toInt ∧ (b 3).toInt ≤ 3) ∧ (0 ≤ (b 4).toInt ∧ (b 4).toInt ≤ 4)
  | 12 => (∀ i, i < 4 → G (r i) = 13)
  | 13 => (0 ≤ (b 3).toInt ∧ (b 3).toInt ≤ 12)
  | 30 => (∀ i, i < 24 → G (r i) = 31)
  | 31 => (0 ≤ (b 0).toInt ∧ (b 0).toInt ≤ 3) ∧ (b 3).toInt ≤ 12 ∧ G (r 7) = 32
  | _ => True
def TX (E : EE) (G : Nat → Nat) (B : AA) (R : RR) (H : Heap) : Prop := ∀ a, G a ≠ 0 → va_at (DG E) vwCl (a, ctx E (G a) (B a) (R a)) H
def TW (G : Nat → Nat) (B : AA) (R : RR) : Prop := ∀ a, tw G (G a) (B a) (R a)
def Fr (G : Nat → Nat) (L : List Nat) (B Z : AA) : Prop := ∀ a, G a ∉ L → Z a = B a
def FrR (G : Nat → Nat) (L : List Nat) (R Z : RR) : Prop := ∀ a, G a ∉ L → Z a = R a
section TXS
variable {E : EE} {G : Nat → Nat} {B Z : AA} {R : RR} {H H1 : Heap} {a g : Nat} {L L2 : List Nat}
theorem TX.kept (h : TX E G B R H) (hk : ∀ q, q < H.size → H1[q]? = H[q]?) : TX E G B R H1 := fun a ha => (h a ha).kept (hk _ (h a ha).lt)
theorem TX.w (h : TX E G B R H) {f : Nat → Int32} (hn : va_at (DG E) vwCl (a, ctx E (G a) f (R a)) H1) (ho : ∀ q, q ≠ a → H1[q]? = H[q]?) : TX E G (uA B a f) R H1 := fun b hb => by
  by_cases e : b = a
  · subst e; rw [uA_s]; exact hn
  · rw [uA_n e]; exact (h b hb).kept (ho _ e)
theorem TX.wr (h : TX E G B R H) {f : Nat → Nat} (hn : va_at (DG E) vwCl (a, ctx E (G a) (B a) f) H1) (ho : ∀ q, q ≠ a → H1[q]? = H[q]?) : TX E G B (uR R a f) H1 := fun b hb => by
  by_cases e : b = a
  · subst e; rw [uR_s]; exact hn
  · rw [uR_n e]; exact (h b hb).kept (ho _ e)
theorem TW.w (h : TW G B R) {f : Nat → Int32} (hb : tw G (G a) f (R a)) : TW G (uA B a f) R := fun b => by
  by_cases e : b = a
  · subst e; rw [uA_s]; exact hb
  · rw [uA_n e]; exact h b
theorem TW.wr (h : TW G B R) {f : Nat → Nat} (hb : tw G (G a) (B a) f) : TW G B (uR R a f) := fun b => by
  by_cases e : b = a
  · subst e; rw [uR_s]; exact hb
  · rw [uR_n e]; exact h b
theorem Fr.rf : Fr G L B B := fun _ _ => rfl
theorem Fr.w (h : Fr G L B Z) (hg : G a = g) (hL : g ∈ L) {f : Nat → Int32} {Y : AA} (e : Y = uA Z a f) : Fr G L B Y := fun b hb => by
  rw [e, uA_n (fun q => hb (by rw [q, hg]; exact hL))]; exact h b hb
theorem Fr.c (h : Fr G L B Z) {Y : AA} (h2 : Fr G L2 Z Y) (hs : ∀ g ∈ L2, g ∈ L) : Fr G L B Y := fun b hb => (h2 b (fun q => hb (hs _ q))).trans (h b hb)
theorem FrR.rf : FrR G L R R := fun _ _ => rfl
theorem FrR.w {Z : RR} (h : FrR G L R Z) (hg : G a = g) (hL : g ∈ L) {f : Nat → Nat} {Y : RR} (e : Y = uR Z a f) : FrR G L R Y := fun b hb => by
  rw [e, uR_n (fun q => hb (by rw [q, hg]; exact hL))]; exact h b hb
theorem FrR.c {Z : RR} (h : FrR G L R Z) {Y : RR} (h2 : FrR G L2 Z Y) (hs : ∀ g ∈ L2, g ∈ L) : FrR G L R Y := fun b hb => (h2 b (fun q => hb (hs _ q))).trans (h b hb)
theorem x_nat {x : Int32} (h : 0 ≤ x.toInt) : ∃ n : Nat, (n : Int) = x.toInt ∧ x.toNatClampNeg = n := by
  obtain ⟨j, hj, rfl⟩ := s_pos h
  exact ⟨j, (nI_toInt hj).symm, nI_clamp hj⟩
theorem tx_1 (h : TX E G B R H) (hg : G a = 1) : va_at (DG E) vwCl (a, .inr (9, [.ref (R a 0), .ref (R a 1), .ref (R a 2)])) H := by
  have h1 := h a (by rw [hg]; decide)
  rw [hg] at h1
  exact h1
theorem tw_1 (h : TW G B R) (hg : G a = 1) : G (R a 0) = 2 ∧ G (R a 1) = 3 ∧ G (R a 2) = 4 := by
  have h1 := h a
  rw [hg] at h1
  exact h1
theorem tx_2 (h : TX E G B R H) (hg : G a = 2) : va_at (DG E) vwCl (a, .inl (E.2.2 3, 2, .inr (.inr (.inr (.inr (fun i => some (R a i))))))) H := by
  have h1 := h a (by rw [hg]; decide)
  rw [hg] at h1
  exact h1
theorem tw_2 (h : TW G B R) (hg : G a = 2) : (∀ i, i < 2 → G (R a i) = 5) := by
  have h1 := h a
  rw [hg] at h1
  exact h1
theorem tx_3 (h : TX E G B R H) (hg : G a = 3) : va_at (DG E) vwCl (a, .inl (E.2.2 5, 4, .inr (.inr (.inr (.inr (fun i => some (R a i))))))) H := by
  have h1 := h a (by rw [hg]; decide)
  rw [hg] at h1
  exact h1
theorem tw_3 (h : TW G B R) (hg : G a = 3) : (∀ i, i < 4 → G (R a i) = 8) := by
  have h1 := h a
  rw [hg] at h1
  exact h1
theorem tx_4 (h : TX E G B R H) (hg : G a = 4) : va_at (DG E) vwCl (a, .inr (0, [.ref (R a 0), .int (B a 1), .ref (R a 2), .ref (R a 3)])) H := by
  have h1 := h a (by rw [hg]; decide)
  rw [hg] at h1
  exact h1
theorem tw_4 (h : TW G B R) (hg : G a = 4) : G (R a 0) = 30 ∧ (0 ≤ (B a 1).toInt ∧ (B a 1).toInt ≤ 24) ∧ G (R a 2) = 31 ∧ G (R a 3) = 31 := by
  have h1 := h a
  rw [hg] at h1
  exact h1
theorem tx_5 (h : TX E G B R H) (hg : G a = 5) : va_at (DG E) vwCl (a, .inr (1, [.ref (R a 0), .ref (R a 1), .ref (R a 2), .int (B a 3), .int (B a 4)])) H := by
  have h1 := h a (by rw [hg]; decide)
  rw [hg] at h1
  exact h1
theorem tw_5 (h : TW G B R) (hg : G a = 5) : G (R a 0) = 14 ∧ G (R a 1) = 6 ∧ G (R a 2) = 15 ∧ (0 ≤ (B a 3).toInt ∧ (B a 3).toInt ≤ 15) ∧ (0 ≤ (B a 4).toInt ∧ (B a 4).toInt ≤ 16) := by
  have h1 := h a
  rw [hg] at h1
  exact h1
theorem tx_6 (h : TX E G B R H) (hg : G a = 6) : va_at (DG E) vwCl (a, .inl (E.2.2 4, 6, .inr (.inr (.inr (.inr (fun i => some (R a i))))))) H := by
  have h1 := h a (by rw [hg]; decide)
  rw [hg] at h1
  exact h1
theorem tw_6 (h : TW G B R) (hg : G a = 6) : (∀ i, i < 6 → G (R a i) = 7) := by
  have h1 := h a
  rw [hg] at h1
  exact h1
theorem tx_7 (h : TX E G B R H) (hg : G a = 7) : va_at (DG E) vwCl (a, .inr (6, [.int (B a 0), .int (B a 1), .int (B a 2)])) H := by
  have h1 := h a (by rw [hg]; decide)
  rw [hg] at h1
  exact h1
theorem tx_8 (h : TX E G B R H) (hg : G a = 8) : va_at (DG E) vwCl (a, .inr (3, [.ref (R a 0), .ref (R a 1), .int (B a 2)])) H := by
  have h1 := h a (by rw [hg]; decide)
  rw [hg] at h1
  exact h1
theorem tw_8 (h : TW G B R) (hg : G a = 8) : G (R a 0) = 9 ∧ G (R a 1) = 10 := by
  have h1 := h a
  rw [hg] at h1
  exact h1
theorem tx_9 (h : TX E G B R H) (hg : G a = 9) : va_at (DG E) vwCl (a, .inr (7, [.int (B a 0), .ref (R a 1), .ref (R a 2), .int (B a 3), .int (B a 4), .int (B a 5), .ref (R a 6), .int (B a 7), .int (B a 8), .int (B a 9), .int (B a 10), .int (B a 11), .int (B a 12), .int (B a 13)])) H := by
  have h1 := h a (by rw [hg]; decide)
  rw [hg] at h1
  exact h1
theorem tw_9 (h : TW G B R) (hg : G a = 9) : (0 ≤ (B a 0).toInt ∧ (B a 0).toInt ≤ 3) ∧ G (R a 1) = 5 ∧ G (R a 2) = 4 ∧ G (R a 6) = 11 := by
  have h1 := h a
  rw [hg] at h1
  exact h1
theorem tx_10 (h : TX E G B R H) (hg : G a = 10) : va_at (DG E) vwCl (a, .inr (8, [.int (B a 0), .ref (R a 1), .ref (R a 2), .ref (R a 3), .int (B a 4), .int (B a 5), .int (B a 6), .ref (R a 7), .ref (R a 8)])) H := by
  have h1 := h a (by rw [hg]; decide)
  rw [hg] at h1
  exact h1
theorem tw_10 (h : TW G B R) (hg : G a = 10) : (0 ≤ (B a 0).toInt ∧ (B a 0).toInt ≤ 3) ∧ G (R a 1) = 5 ∧ G (R a 2) = 4 ∧ G (R a 3) = 11 ∧ G (R a 7) = 16 ∧ G (R a 8) = 17 := by
  have h1 := h a
  rw [hg] at h1
  exact h1
theorem tx_11 (h : TX E G B R H) (hg : G a = 11) : va_at (DG E) vwCl (a, .inr (5, [.int (B a 0), .ref (R a 1), .ref (R a 2), .int (B a 3), .int (B a 4), .int (B a 5)])) H := by
  have h1 := h a (by rw [hg]; decide)
  rw [hg] at h1
  exact h1
theorem tw_11 (h : TW G B R) (hg : G a = 11) : G (R a 1) = 5 ∧ G (R a 2) = 12 ∧ (0 ≤ (B a 3).toInt ∧ (B a 3).toInt ≤ 3) ∧ (0 ≤ (B a 4).toInt ∧ (B a 4).toInt ≤ 4) := by
  have h1 := h a
  rw [hg] at h1
  exact h1
theorem tx_12 (h : TX E G B R H) (hg : G a = 12) : va_at (DG E) vwCl (a, .inl (E.2.2 6, 4, .inr (.inr (.inr (.inr (fun i => some (R a i))))))) H := by
  have h1 := h a (by rw [hg]; decide)
  rw [hg] at h1
  exact h1
theorem tw_12 (h : TW G B R) (hg : G a = 12) : (∀ i, i < 4 → G (R a i) = 13) := by
  have h1 := h a
  rw [hg] at h1
  exact h1
theorem tx_13 (h : TX E G B R H) (hg : G a = 13) : va_at (DG E) vwCl (a, .inr (4, [.int (B a 0), .int (B a 1), .int (B a 2), .int (B a 3), .int (B a 4), .int (B a 5), .int (B a 6), .int (B a 7), .int (B a 8), .int (B a 9)])) H := by
  have h1 := h a (by rw [hg]; decide)
  rw [hg] at h1
  exact h1
theorem tw_13 (h : TW G B R) (hg : G a = 13) : (0 ≤ (B a 3).toInt ∧ (B a 3).toInt ≤ 12) := by
  have h1 := h a
  rw [hg] at h1
  exact h1
theorem tx_14 (h : TX E G B R H) (hg : G a = 14) : va_at (DG E) vwCl (a, .inl (E.2.2 0, 32, .inl (B a))) H := by
  have h1 := h a (by rw [hg]; decide)
  rw [hg] at h1
  exact h1
theorem tx_15 (h : TX E G B R H) (hg : G a = 15) : va_at (DG E) vwCl (a, .inl (E.2.2 0, 80, .inl (B a))) H := by
  have h1 := h a (by rw [hg]; decide)
  rw [hg] at h1
  exact h1
theorem tx_16 (h : TX E G B R H) (hg : G a = 16) : va_at (DG E) vwCl (a, .inl (E.2.2 0, 2, .inl (B a))) H := by
  have h1 := h a (by rw [hg]; decide)
  rw [hg] at h1
  exact h1
theorem tx_17 (h : TX E G B R H) (hg : G a = 17) : va_at (DG E) vwCl (a, .inl (E.2.2 0, 2, .inl (B a))) H := by
  have h1 := h a (by rw [hg]; decide)
  rw [hg] at h1
  exact h1
theorem tx_30 (h : TX E G B R H) (hg : G a = 30) : va_at (DG E) vwCl (a, .inl (E.2.2 7, 24, .inr (.inr (.inr (.inr (fun i => some (R a i))))))) H := by
  have h1 := h a (by rw [hg]; decide)
  rw [hg] at h1
  exact h1
theorem tw_30 (h : TW G B R) (hg : G a = 30) : (∀ i, i < 24 → G (R a i) = 31) := by
  have h1 := h a
  rw [hg] at h1
  exact h1
theorem tx_31 (h : TX E G B R H) (hg : G a = 31) : va_at (DG E) vwCl (a, .inr (2, [.int (B a 0), .int (B a 1), .int (B a 2), .int (B a 3), .int (B a 4), .int (B a 5), .int (B a 6), .ref (R a 7)])) H := by
  have h1 := h a (by rw [hg]; decide)
  rw [hg] at h1
  exact h1
theorem tw_31 (h : TW G B R) (hg : G a = 31) : (0 ≤ (B a 0).toInt ∧ (B a 0).toInt ≤ 3) ∧ (B a 3).toInt ≤ 12 ∧ G (R a 7) = 32 := by
  have h1 := h a
  rw [hg] at h1
  exact h1
theorem tx_32 (h : TX E G B R H) (hg : G a = 32) : va_at (DG E) vwCl (a, .inl (E.2.2 0, 4, .inl (B a))) H := by
  have h1 := h a (by rw [hg]; decide)
  rw [hg] at h1
  exact h1
theorem rr_up {n k v : Nat} {c : ClassId} {f : Nat → Nat} (h : va_at (DG E) vwCl (a, .inl (c, n, .inr (.inr (.inr (.inr (va_up (fun i => some (f i)) k (some v))))))) H) : va_at (DG E) vwCl (a, .inl (c, n, .inr (.inr (.inr (.inr (fun i => some (updN f k v i))))))) H := by
  have e : va_up (fun i => some (f i)) k (some v) = fun i => some (updN f k v i) := by
    funext i
    by_cases e : i = k
    · subst e; rw [va_up_self, updN_s]
    · rw [va_up_ne _ _ e, updN_n e]
  rw [e] at h
  exact h
theorem rr_upG {f : Nat → Nat} {j k v : Nat} (h : G (f j) = g) (hv : G v = g) : G (updN f k v j) = g := by
  by_cases e : j = k
  · subst e; rw [updN_s]; exact hv
  · rw [updN_n e]; exact h
def ShN (f : Nat → Nat) (lo hi : Nat) : Nat → Nat := fun j => if lo ≤ j ∧ j < hi then f (j + 1) else f j
theorem shN_z {k n : Nat} (h : n ≤ k) : R = uR R a (ShN (R a) k n) := by
  funext b
  by_cases e : b = a
  · subst e; rw [uR_s]; funext j; unfold ShN; rw [if_neg (by omega)]
  · rw [uR_n e]
theorem shN_s {R9 : RR} {a9 k n m : Nat} (e : R9 = uR R a (ShN (R a) k n)) (ea : a9 = a) (hk : k ≤ n) (hm : m = n + 1) {v : Nat} (hv : v = R9 a9 m) : uR R9 a9 (updN (R9 a9) n v) = uR R a (ShN (R a) k m) := by
  subst ea hm
  have e9 : R9 a9 = ShN (R a9) k n := by rw [e, uR_s]
  funext b
  by_cases h : b = a9
  · subst h
    rw [uR_s, uR_s, hv, e9]
    funext j
    by_cases h1 : j = n
    · subst h1; rw [updN_s]; unfold ShN; rw [if_neg (by omega), if_pos (by omega)]
    · rw [updN_n h1]; unfold ShN
      by_cases h2 : k ≤ j ∧ j < n
      · rw [if_pos h2, if_pos (by omega)]
      · rw [if_neg h2, if_neg (by omega)]
  · rw [uR_n h, uR_n h, e, uR_n h]
end TXS
