section
def T1 (E : EE) (G : Nat → Nat) (g : Nat) (e : va_E) : Prop := match g with
  | 1 => ∃ (v0 : Nat) (v1 : Nat) (v2 : Nat), e = .inr (9, [.ref v0, .ref v1, .ref v2]) ∧ G v0 = 2 ∧ G v1 = 3 ∧ G v2 = 4
  | 2 => ∃ f : Nat → Option Nat, e = .inl (E.2.2 3, 2, .inr (.inr (.inr (.inr f)))) ∧ ∀ i, i < 2 → ∃ b, f i = some b ∧ G b = 5
  | 3 => ∃ f : Nat → Option Nat, e = .inl (E.2.2 5, 4, .inr (.inr (.inr (.inr f)))) ∧ ∀ i, i < 4 → ∃ b, f i = some b ∧ G b = 8
  | 4 => ∃ (v0 : Nat) (v1 : Int32) (v2 : Nat) (v3 : Nat), e = .inr (0, [.ref v0, .int v1, .ref v2, .ref v3]) ∧ G v0 = 30 ∧ (0 ≤ v1.toInt ∧ v1.toInt ≤ 24) ∧ G v2 = 31 ∧ G v3 = 31
  | 5 => ∃ (v0 : Nat) (v1 : Nat) (v2 : Nat) (v3 : Int32) (v4 : Int32), e = .inr (1, [.ref v0, .ref v1, .ref v2, .int v3, .int v4]) ∧ G v0 = 14 ∧ G v1 = 6 ∧ G v2 = 15 ∧ (0 ≤ v3.toInt ∧ v3.toInt ≤ 15) ∧ (0 ≤ v4.toInt ∧ v4.toInt ≤ 16)
  | 6 => ∃ f : Nat → Option Nat, e = .inl (E.2.2 4, 6, .inr (.inr (.inr (.inr f)))) ∧ ∀ i, i < 6 → ∃ b, f i = some b ∧ G b = 7
  | 7 => ∃ (v0 : Int32) (v1 : Int32) (v2 : Int32), e = .inr (6, [.int v0, .int v1, .int v2])
  | 8 => ∃ (v0 : Nat) (v1 : Nat) (v2 : Int32), e = .inr (3, [.ref v0, .ref v1, .int v2]) ∧ G v0 = 9 ∧ G v1 = 10
  | 9 => ∃ (v0 : Int32) (v1 : Nat) (v2 : Nat) (v3 : Int32) (v4 : Int32) (v5 : Int32) (v6 : Nat) (v7 : Int32) (v8 : Int32) (v9 : Int32) (v10 : Int32) (v11 : Int32) (v12 : Int32) (v13 : Int32), e = .inr (7, [.int v0, .ref v1, .ref v2, .int v3, .int v4, .int v5, .ref v6, .int v7, .int v8, .int v9, .int v10, .int v11, .int v12, .int v13]) ∧ (0 ≤ v0.toInt ∧ v0.toInt ≤ 3) ∧ G v1 = 5 ∧ G v2 = 4 ∧ G v6 = 11
  | 10 => ∃ (v0 : Int32) (v1 : Nat) (v2 : Nat) (v3 : Nat) (v4 : Int32) (v5 : Int32) (v6 : Int32) (v7 : Nat) (v8 : Nat), e = .inr (8, [.int v0, .ref v1, .ref v2, .ref v3, .int v4, .int v5, .int v6, .ref v7, .ref v8]) ∧ (0 ≤ v0.toInt ∧ v0.toInt ≤ 3) ∧ G v1 = 5 ∧ G v2 = 4 ∧ G v3 = 11 ∧ G v7 = 16 ∧ G v8 = 17
  | 11 => ∃ (v0 : Int32) (v1 : Nat) (v2 : Nat) (v3 : Int32) (v4 : Int32) (v5 : Int32), e = .inr (5, [.int v0, .ref v1, .ref v2, .int v3, .int v4, .int v5]) ∧ G v1 = 5 ∧ G v2 = 12 ∧ (0 ≤ v3.toInt ∧ v3.toInt ≤ 3) ∧ (0 ≤ v4.toInt ∧ v4.toInt ≤ 4)
  | 12 => ∃ f : Nat → Option Nat, e = .inl (E.2.2 6, 4, .inr (.inr (.inr (.inr f)))) ∧ ∀ i, i < 4 → ∃ b, f i = some b ∧ G b = 13
  | 13 => ∃ (v0 : Int32) (v1 : Int32) (v2 : Int32) (v3 : Int32) (v4 : Int32) (v5 : Int32) (v6 : Int32) (v7 : Int32) (v8 : Int32) (v9 : Int32), e = .inr (4, [.int v0, .int v1, .int v2, .int v3, .int v4, .int v5, .int v6, .int v7, .int v8, .int v9]) ∧ (0 ≤ v3.toInt ∧ v3.toInt ≤ 12)
  | 14 => ∃ f : Nat → Int32, e = .inl (E.2.2 0, 32, .inl f)
  | 15 => ∃ f : Nat → Int32, e = .inl (E.2.2 0, 80, .inl f)
  | 16 => ∃ f : Nat → Int32, e = .inl (E.2.2 0, 2, .inl f)
  | 17 => ∃ f : Nat → Int32, e = .inl (E.2.2 0, 2, .inl f)
  | 30 => ∃ f : Nat → Option Nat, e = .inl (E.2.2 7, 24, .inr (.inr (.inr (.inr f)))) ∧ ∀ i, i < 24 → ∃ b, f i = some b ∧ G b = 31
  | 31 => ∃ (v0 : Int32) (v1 : Int32) (v2 : Int32) (v3 : Int32) (v4 : Int32) (v5 : Int32) (v6 : Int32) (v7 : Nat), e = .inr (2, [.int v0, .int v1, .int v2, .int v3, .int v4, .int v5, .int v6, .ref v7]) ∧ (0 ≤ v0.toInt ∧ v0.toInt ≤ 3) ∧ v3.toInt ≤ 12 ∧ G v7 = 32
  | 32 => ∃ f : Nat → Int32, e = .inl (E.2.2 0, 4, .inl f)
  | g => T0 E G g e
theorem tr_1 {E : EE} {G : Nat → Nat} {H : Heap} {a : Nat} (h : TH E (T1 E) G [] H) (hg : G a = 1) : ∃ (v0 : Nat) (v1 : Nat) (v2 : Nat), va_at (DG E) vwCl (a, .inr (9, [.ref v0, .ref v1, .ref v2])) H ∧ G v0 = 2 ∧ G v1 = 3 ∧ G v2 = 4 := by
  obtain ⟨e, he, hat⟩ := h.at hg (by decide)
  obtain ⟨v0, v1, v2, rfl, h0, h1, h2⟩ := (show T1 E G 1 e from he)
  exact ⟨v0, v1, v2, hat, h0, h1, h2⟩
theorem tr_2 {E : EE} {G : Nat → Nat} {H : Heap} {a : Nat} (h : TH E (T1 E) G [] H) (hg : G a = 2) : ∃ f : Nat → Option Nat, va_at (DG E) vwCl (a, .inl (E.2.2 3, 2, .inr (.inr (.inr (.inr f))))) H ∧ ∀ i, i < 2 → ∃ b, f i = some b ∧ G b = 5 := by
  obtain ⟨e, he, hat⟩ := h.at hg (by decide)
  obtain ⟨f, rfl, h0⟩ := (show T1 E G 2 e from he)
  exact ⟨f, hat, h0⟩
theorem tr_3 {E : EE} {G : Nat → Nat} {H : Heap} {a : Nat} (h : TH E (T1 E) G [] H) (hg : G a = 3) : ∃ f : Nat → Option Nat, va_at (DG E) vwCl (a, .inl (E.2.2 5, 4, .inr (.inr (.inr (.inr f))))) H ∧ ∀ i, i < 4 → ∃ b, f i = some b ∧ G b = 8 := by
  obtain ⟨e, he, hat⟩ := h.at hg (by decide)
  obtain ⟨f, rfl, h0⟩ := (show T1 E G 3 e from he)
  exact ⟨f, hat, h0⟩
theorem tr_4 {E : EE} {G : Nat → Nat} {H : Heap} {a : Nat} (h : TH E (T1 E) G [] H) (hg : G a = 4) : ∃ (v0 : Nat) (v1 : Int32) (v2 : Nat) (v3 : Nat), va_at (DG E) vwCl (a, .inr (0, [.ref v0, .int v1, .ref v2, .ref v3])) H ∧ G v0 = 30 ∧ (0 ≤ v1.toInt ∧ v1.toInt ≤ 24) ∧ G v2 = 31 ∧ G v3 = 31 := by
  obtain ⟨e, he, hat⟩ := h.at hg (by decide)
  obtain ⟨v0, v1, v2, v3, rfl, h0, h1, h2, h3⟩ := (show T1 E G 4 e from he)
  exact ⟨v0, v1, v2, v3, hat, h0, h1, h2, h3⟩
theorem tr_5 {E : EE} {G : Nat → Nat} {H : Heap} {a : Nat} (h : TH E (T1 E) G [] H) (hg : G a = 5) : ∃ (v0 : Nat) (v1 : Nat) (v2 : Nat) (v3 : Int32) (v4 : Int32), va_at (DG E) vwCl (a, .inr (1, [.ref v0, .ref v1, .ref v2, .int v3, .int v4])) H ∧ G v0 = 14 ∧ G v1 = 6 ∧ G v2 = 15 ∧ (0 ≤ v3.toInt ∧ v3.toInt ≤ 15) ∧ (0 ≤ v4.toInt ∧ v4.toInt ≤ 16) := by
  obtain ⟨e, he, hat⟩ := h.at hg (by decide)
  obtain ⟨v0, v1, v2, v3, v4, rfl, h0, h1, h2, h3, h4⟩ := (show T1 E G 5 e from he)
  exact ⟨v0, v1, v2, v3, v4, hat, h0, h1, h2, h3, h4⟩
theorem tr_6 {E : EE} {G : Nat → Nat} {H : Heap} {a : Nat} (h : TH E (T1 E) G [] H) (hg : G a = 6) : ∃ f : Nat → Option Nat, va_at (DG E) vwCl (a, .inl (E.2.2 4, 6, .inr (.inr (.inr (.inr f))))) H ∧ ∀ i, i < 6 → ∃ b, f i = some b ∧ G b = 7 := by
  obtain ⟨e, he, hat⟩ := h.at hg (by decide)
  obtain ⟨f, rfl, h0⟩ := (show T1 E G 6 e from he)
  exact ⟨f, hat, h0⟩
theorem tr_7 {E : EE} {G : Nat → Nat} {H : Heap} {a : Nat} (h : TH E (T1 E) G [] H) (hg : G a = 7) : ∃ (v0 : Int32) (v1 : Int32) (v2 : Int32), va_at (DG E) vwCl (a, .inr (6, [.int v0, .int v1, .int v2])) H := by
  obtain ⟨e, he, hat⟩ := h.at hg (by decide)
  obtain ⟨v0, v1, v2, rfl⟩ := (show T1 E G 7 e from he)
  exact ⟨v0, v1, v2, hat⟩
theorem tr_8 {E : EE} {G : Nat → Nat} {H : Heap} {a : Nat} (h : TH E (T1 E) G [] H) (hg : G a = 8) : ∃ (v0 : Nat) (v1 : Nat) (v2 : Int32), va_at (DG E) vwCl (a, .inr (3, [.ref v0, .ref v1, .int v2])) H ∧ G v0 = 9 ∧ G v1 = 10 := by
  obtain ⟨e, he, hat⟩ := h.at hg (by decide)
  obtain ⟨v0, v1, v2, rfl, h0, h1⟩ := (show T1 E G 8 e from he)
  exact ⟨v0, v1, v2, hat, h0, h1⟩
theorem tr_9 {E : EE} {G : Nat → Nat} {H : Heap} {a : Nat} (h : TH E (T1 E) G [] H) (hg : G a = 9) : ∃ (v0 : Int32) (v1 : Nat) (v2 : Nat) (v3 : Int32) (v4 : Int32) (v5 : Int32) (v6 : Nat) (v7 : Int32) (v8 : Int32) (v9 : Int32) (v10 : Int32) (v11 : Int32) (v12 : Int32) (v13 : Int32), va_at (DG E) vwCl (a, .inr (7, [.int v0, .ref v1, .ref v2, .int v3, .int v4, .int v5, .ref v6, .int v7, .int v8, .int v9, .int v10, .int v11, .int v12, .int v13])) H ∧ (0 ≤ v0.toInt ∧ v0.toInt ≤ 3) ∧ G v1 = 5 ∧ G v2 = 4 ∧ G v6 = 11 := by
  obtain ⟨e, he, hat⟩ := h.at hg (by decide)
  obtain ⟨v0, v1, v2, v3, v4, v5, v6, v7, v8, v9, v10, v11, v12, v13, rfl, h0, h1, h2, h3⟩ := (show T1 E G 9 e from he)
  exact ⟨v0, v1, v2, v3, v4, v5, v6, v7, v8, v9, v10, v11, v12, v13, hat, h0, h1, h2, h3⟩
theorem tr_10 {E : EE} {G : Nat → Nat} {H : Heap} {a : Nat} (h : TH E (T1 E) G [] H) (hg : G a = 10) : ∃ (v0 : Int32) (v1 : Nat) (v2 : Nat) (v3 : Nat) (v4 : Int32) (v5 : Int32) (v6 : Int32) (v7 : Nat) (v8 : Nat), va_at (DG E) vwCl (a, .inr (8, [.int v0, .ref v1, .ref v2, .ref v3, .int v4, .int v5, .int v6, .ref v7, .ref v8])) H ∧ (0 ≤ v0.toInt ∧ v0.toInt ≤ 3) ∧ G v1 = 5 ∧ G v2 = 4 ∧ G v3 = 11 ∧ G v7 = 16 ∧ G v8 = 17 := by
  obtain ⟨e, he, hat⟩ := h.at hg (by decide)
  obtain ⟨v0, v1, v2, v3, v4, v5, v6, v7, v8, rfl, h0, h1, h2, h3, h4, h5⟩ := (show T1 E G 10 e from he)
  exact ⟨v0, v1, v2, v3, v4, v5, v6, v7, v8, hat, h0, h1, h2, h3, h4, h5⟩
theorem tr_11 {E : EE} {G : Nat → Nat} {H : Heap} {a : Nat} (h : TH E (T1 E) G [] H) (hg : G a = 11) : ∃ (v0 : Int32) (v1 : Nat) (v2 : Nat) (v3 : Int32) (v4 : Int32) (v5 : Int32), va_at (DG E) vwCl (a, .inr (5, [.int v0, .ref v1, .ref v2, .int v3, .int v4, .int v5])) H ∧ G v1 = 5 ∧ G v2 = 12 ∧ (0 ≤ v3.toInt ∧ v3.toInt ≤ 3) ∧ (0 ≤ v4.toInt ∧ v4.toInt ≤ 4) := by
  obtain ⟨e, he, hat⟩ := h.at hg (by decide)
  obtain ⟨v0, v1, v2, v3, v4, v5, rfl, h0, h1, h2, h3⟩ := (show T1 E G 11 e from he)
  exact ⟨v0, v1, v2, v3, v4, v5, hat, h0, h1, h2, h3⟩
theorem tr_12 {E : EE} {G : Nat → Nat} {H : Heap} {a : Nat} (h : TH E (T1 E) G [] H) (hg : G a = 12) : ∃ f : Nat → Option Nat, va_at (DG E) vwCl (a, .inl (E.2.2 6, 4, .inr (.inr (.inr (.inr f))))) H ∧ ∀ i, i < 4 → ∃ b, f i = some b ∧ G b = 13 := by
  obtain ⟨e, he, hat⟩ := h.at hg (by decide)
  obtain ⟨f, rfl, h0⟩ := (show T1 E G 12 e from he)
  exact ⟨f, hat, h0⟩
theorem tr_13 {E : EE} {G : Nat → Nat} {H : Heap} {a : Nat} (h : TH E (T1 E) G [] H) (hg : G a = 13) : ∃ (v0 : Int32) (v1 : Int32) (v2 : Int32) (v3 : Int32) (v4 : Int32) (v5 : Int32) (v6 : Int32) (v7 : Int32) (v8 : Int32) (v9 : Int32), va_at (DG E) vwCl (a, .inr (4, [.int v0, .int v1, .int v2, .int v3, .int v4, .int v5, .int v6, .int v7, .int v8, .int v9])) H ∧ (0 ≤ v3.toInt ∧ v3.toInt ≤ 12) := by
  obtain ⟨e, he, hat⟩ := h.at hg (by decide)
  obtain ⟨v0, v1, v2, v3, v4, v5, v6, v7, v8, v9, rfl, h0⟩ := (show T1 E G 13 e from he)
  exact ⟨v0, v1, v2, v3, v4, v5, v6, v7, v8, v9, hat, h0⟩
theorem tr_14 {E : EE} {G : Nat → Nat} {H : Heap} {a : Nat} (h : TH E (T1 E) G [] H) (hg : G a = 14) : ∃ f : Nat → Int32, va_at (DG E) vwCl (a, .inl (E.2.2 0, 32, .inl f)) H := by
  obtain ⟨e, he, hat⟩ := h.at hg (by decide)
  obtain ⟨f, rfl⟩ := (show T1 E G 14 e from he)
  exact ⟨f, hat⟩
theorem tr_15 {E : EE} {G : Nat → Nat} {H : Heap} {a : Nat} (h : TH E (T1 E) G [] H) (hg : G a = 15) : ∃ f : Nat → Int32, va_at (DG E) vwCl (a, .inl (E.2.2 0, 80, .inl f)) H := by
  obtain ⟨e, he, hat⟩ := h.at hg (by decide)
  obtain ⟨f, rfl⟩ := (show T1 E G 15 e from he)
  exact ⟨f, hat⟩
theorem tr_16 {E : EE} {G : Nat → Nat} {H : Heap} {a : Nat} (h : TH E (T1 E) G [] H) (hg : G a = 16) : ∃ f : Nat → Int32, va_at (DG E) vwCl (a, .inl (E.2.2 0, 2, .inl f)) H := by
  obtain ⟨e, he, hat⟩ := h.at hg (by decide)
  obtain ⟨f, rfl⟩ := (show T1 E G 16 e from he)
  exact ⟨f, hat⟩
theorem tr_17 {E : EE} {G : Nat → Nat} {H : Heap} {a : Nat} (h : TH E (T1 E) G [] H) (hg : G a = 17) : ∃ f : Nat → Int32, va_at (DG E) vwCl (a, .inl (E.2.2 0, 2, .inl f)) H := by
  obtain ⟨e, he, hat⟩ := h.at hg (by decide)
  obtain ⟨f, rfl⟩ := (show T1 E G 17 e from he)
  exact ⟨f, hat⟩
theorem tr_30 {E : EE} {G : Nat → Nat} {H : Heap} {a : Nat} (h : TH E (T1 E) G [] H) (hg : G a = 30) : ∃ f : Nat → Option Nat, va_at (DG E) vwCl (a, .inl (E.2.2 7, 24, .inr (.inr (.inr (.inr f))))) H ∧ ∀ i, i < 24 → ∃ b, f i = some b ∧ G b = 31 := by
  obtain ⟨e, he, hat⟩ := h.at hg (by decide)
  obtain ⟨f, rfl, h0⟩ := (show T1 E G 30 e from he)
  exact ⟨f, hat, h0⟩
theorem tr_31 {E : EE} {G : Nat → Nat} {H : Heap} {a : Nat} (h : TH E (T1 E) G [] H) (hg : G a = 31) : ∃ (v0 : Int32) (v1 : Int32) (v2 : Int32) (v3 : Int32) (v4 : Int32) (v5 : Int32) (v6 : Int32) (v7 : Nat), va_at (DG E) vwCl (a, .inr (2, [.int v0, .int v1, .int v2, .int v3, .int v4, .int v5, .int v6, .ref v7])) H ∧ (0 ≤ v0.toInt ∧ v0.toInt ≤ 3) ∧ v3.toInt ≤ 12 ∧ G v7 = 32 := by
  obtain ⟨e, he, hat⟩ := h.at hg (by decide)
  obtain ⟨v0, v1, v2, v3, v4, v5, v6, v7, rfl, h0, h1, h2⟩ := (show T1 E G 31 e from he)
  exact ⟨v0, v1, v2, v3, v4, v5, v6, v7, hat, h0, h1, h2⟩
theorem tr_32 {E : EE} {G : Nat → Nat} {H : Heap} {a : Nat} (h : TH E (T1 E) G [] H) (hg : G a = 32) : ∃ f : Nat → Int32, va_at (DG E) vwCl (a, .inl (E.2.2 0, 4, .inl f)) H := by
  obtain ⟨e, he, hat⟩ := h.at hg (by decide)
  obtain ⟨f, rfl⟩ := (show T1 E G 32 e from he)
  exact ⟨f, hat⟩
theorem T0_T1 {E : EE} {G : Nat → Nat} {g : Nat} {e : va_E} (h : T0 E G g e) : T1 E G g e := by
  unfold T1
  split
  · obtain ⟨n, p, f, rfl, h1, h2, h3⟩ := (show T0 E G 1 e from h); exact ⟨n, p, f, rfl, h1, h2, h3⟩
  · exact h
  · exact h
  · obtain ⟨n, p, f, rfl, h1, h2, h3⟩ := (show T0 E G 4 e from h); exact ⟨n, 0, p, f, rfl, h1, by decide, h2, h3⟩
  · obtain ⟨n, p, f, rfl, h1, h2, h3⟩ := (show T0 E G 5 e from h); exact ⟨n, p, f, 0, 0, rfl, h1, h2, h3, by decide, by decide⟩
  · exact h
  · cases (show T0 E G 7 e from h); exact ⟨0, 0, 0, rfl⟩
  · obtain ⟨n, p, rfl, h1, h2⟩ := (show T0 E G 8 e from h); exact ⟨n, p, 0, rfl, h1, h2⟩
  · obtain ⟨a, b, c, d, x, y, z, rfl, h1, h2, h3, h4⟩ := (show T0 E G 9 e from h); exact ⟨a, b, c, d, x, y, z, 0, 0, 0, 0, 0, 0, 0, rfl, h4, h1, h2, h3⟩
  · obtain ⟨a, b, c, d, x, y, rfl, h1, h2, h3, h4, h5, h6⟩ := (show T0 E G 10 e from h); exact ⟨a, b, c, d, 0, 0, 0, x, y, rfl, h6, h1, h2, h3, h4, h5⟩
  · obtain ⟨a, b, c, rfl, h1, h2⟩ := (show T0 E G 11 e from h); exact ⟨a, b, c, 0, 0, 0, rfl, h1, h2, by decide, by decide⟩
  · exact h
  · cases (show T0 E G 13 e from h); exact ⟨0, 0, 0, 0, 0, 0, 0, 0, 0, 0, rfl, by decide⟩
  · cases (show T0 E G 14 e from h); exact ⟨_, rfl⟩
  · cases (show T0 E G 15 e from h); exact ⟨_, rfl⟩
  · exact h
  · exact h
  · exact h
  · obtain ⟨c, rfl, h1⟩ := (show T0 E G 31 e from h); exact ⟨0, 0, 0, 0, 0, 0, 0, c, rfl, by decide, by decide, h1⟩
  · cases (show T0 E G 32 e from h); exact ⟨_, rfl⟩
  · exact h
theorem TH.t1 {E : EE} {G : Nat → Nat} {H : Heap} (h : TH E (T0 E) G [] H) : TH E (T1 E) G [] H := fun a ha hx => by
  obtain ⟨e, h1, h2⟩ := h a ha hx
  exact ⟨e, T0_T1 h1, h2⟩
theorem s_and63 (x : Int32) : 0 ≤ (x &&& 63).toInt ∧ (x &&& 63).toInt ≤ 63 := by
  rw [pk_and x 6 (by decide)]
  have h := Nat.mod_lt x.toBitVec.toNat (show 0 < 2 ^ 6 by decide)
  rw [nI_toInt (by omega)]
  omega
theorem s_mulR {x k : Int32} {K : Int} (hk : k.toInt = K) (h1 : -2147483648 ≤ x.toInt * K) (h2 : x.toInt * K < 2147483648) : (x * k).toInt = x.toInt * K := by
  subst hk
  simp only [Int32.toInt_mul, Int.bmod]
  generalize x.toInt * k.toInt = z at *
  omega
theorem s_pos {x : Int32} (h : 0 ≤ x.toInt) : ∃ n : Nat, n < 2 ^ 31 ∧ x = nI n := nI_of (by rw [lt_I, i_0]; omega)
theorem s_rem {x : Int32} (d : Nat) (h0 : 0 < d) (hd : d < 2 ^ 31) (h : 0 ≤ x.toInt) : (x - x / nI d * nI d).toInt = x.toInt % (d : Int) := by
  obtain ⟨n, hn, rfl⟩ := s_pos h
  rw [pk_rem hn h0 hd, nI_toInt (Nat.lt_of_lt_of_le (Nat.mod_lt _ h0) (by omega)), nI_toInt hn]
  rfl
theorem s_div {x : Int32} (d : Nat) (h0 : 0 < d) (hd : d < 2 ^ 31) (h : 0 ≤ x.toInt) : (x / nI d).toInt = x.toInt / (d : Int) := by
  obtain ⟨n, hn, rfl⟩ := s_pos h
  rw [pk_div hn h0 hd, nI_toInt (Nat.lt_of_le_of_lt (Nat.div_le_self _ _) hn), nI_toInt hn]
  rfl
theorem af_upd {G : Nat → Nat} {n k q g : Nat} {f : Nat → Option Nat} (hf : ∀ j, j < n → ∃ b, f j = some b ∧ G b = g) (hq : G q = g) : ∀ j, j < n → ∃ b, va_up f k (some q) j = some b ∧ G b = g := fun j hj => by
  by_cases e : j = k
  · subst e
    exact ⟨q, va_up_self _ _ _, hq⟩
  · obtain ⟨b, h1, h2⟩ := hf j hj
    exact ⟨b, by rw [va_up_ne _ _ e]; exact h1, h2⟩
theorem SS_mono {A B : Nat → Prop} {H0 H : Heap} {locs : List Loc} (h : va_S A H0 H locs) (hA : ∀ q, A q → B q) : va_S B H0 H locs := ⟨h.1, fun q h1 h2 => h.2.1 q h1 (fun z => h2 (hA q z)), fun l hl => hA _ (h.2.2 l hl)⟩
theorem SS_F {A : Nat → Prop} {s t : State} {H : Heap} {locs : List Loc} (h : va_S A s.heap H locs) (hz : H.size ≤ t.heap.size) (hk : ∀ q : Nat, q < H.size → t.heap[q]? = H[q]?) : va_F A s t := ⟨Nat.le_trans h.1 hz, fun q hq hA => (hk q (Nat.lt_of_lt_of_le hq h.1)).trans (h.2.1 q hq hA)⟩
theorem mL {G : Nat → Nat} {L L' : List Nat} {q : Nat} (h : ∀ g ∈ L', g ∈ L) (hq : G q ∈ L') : G q ∈ L := h _ hq
theorem nL {G : Nat → Nat} {L : List Nat} {b g : Nat} (hb : G b = g) (h : g ∉ L) : ¬ G b ∈ L := fun q => h (by rw [← hb]; exact q)
theorem zL {G : Nat → Nat} {z0 : Nat} (hGz : ∀ q, G q ≠ 0 → z0 ≤ q) {L : List Nat} (h : 0 ∉ L) : ∀ q, G q ∈ L → z0 ≤ q := fun q hq => hGz q (fun e => h (by rw [← e]; exact hq))
theorem s_min {x y v : Int32} (h : v = if y < x then y else x) : v.toInt ≤ x.toInt ∧ v.toInt ≤ y.toInt ∧ (v.toInt = x.toInt ∨ v.toInt = y.toInt) := by
  by_cases c : y < x
  · rw [if_pos c] at h
    subst h
    rw [lt_I] at c
    omega
  · rw [if_neg c] at h
    subst h
    rw [lt_I] at c
    omega
theorem s_rng {x : Int32} (h : x = 0 ∨ x = 1) : 0 ≤ x.toInt ∧ x.toInt ≤ 1 := by rcases h with rfl | rfl <;> decide
section LP
variable {p : Program} {l : Launch} {e : Env} {R : Room} {s : State} {m : MethodId} {args : Array Value} {below : List Frame} {meth : Method} {c : Code} {cells slots pc : Nat} {Q : State → Prop}
theorem lp_nat (I : Nat → Heap → List Loc → Array Slot → Prop) (step : ∀ n H locs ls, (∀ k, k < n → ∀ H locs ls, I k H locs ls → W p l e R s m args below meth c H locs cells slots Q (F0 m pc ls [])) → I n H locs ls → W p l e R s m args below meth c H locs cells slots Q (F0 m pc ls [])) : ∀ {n : Nat} {H : Heap} {locs : List Loc} {ls : Array Slot}, I n H locs ls → W p l e R s m args below meth c H locs cells slots Q (F0 m pc ls []) := by
  have key : ∀ n k, k ≤ n → ∀ H locs ls, I k H locs ls → W p l e R s m args below meth c H locs cells slots Q (F0 m pc ls []) := by
    intro n
    induction n with
    | zero => intro k hk H locs ls h; exact step k H locs ls (fun j hj => absurd hj (by omega)) h
    | succ n ih => intro k hk H locs ls h; exact step k H locs ls (fun j hj => ih j (by omega)) h
  intro n H locs ls h
  exact key n n (Nat.le_refl n) H locs ls h
end LP
section RN1
variable {p : Program} {l : Launch} {e : Env} {R : Room} {s : State} {m : MethodId} {args : Array Value} {below : List Frame} {meth : Method} {c : Code} {H : Heap} {locs : List Loc} {cells slots : Nat}
variable {y : MethodName} {bytes cc : ByteArray} {maxL nL mc ms n index : Nat} {ret : Option FieldType} {ws : List Cond} {rm : Room} {Qc : Array Value → State → Outcome → State → Prop} {free : Addr → Prop} {Ts : List Cond} {own host : String} {As rest : List Value} {g : JFrame} {E : EE} {z0 : Nat}
theorem rnSK (P : Heap → Prop) (S : CallFix p m c cc nL s args Ts own) (hM : Met l y ws rm (va_Pc As (fun U => P U.heap ∧ KS E z0 U)) Qc mc ms free) (cw : va_CN R s args own index y host bytes maxL ret ws rm mc ms n ∧ (Cond.static y).before args s = true ∧ True) (hP : P H) (hKg : ∀ U : State, U.heap = H → s.WarmedH U.vm → KS E z0 U)
    (hg : g.method = m) (hn : As.length = n) (hsize : g.locals.size = nL) (hstack : g.stack = As.reverse ++ rest) (hW : 2 * g.monitorRoom + (rest.map fun v => v.category).sum ≤ 8) (hdg : decode cc g.pc = .ok (.invokestatic index, 3)) (hf : cells + mc ≤ R.cells ∧ slots + ms ≤ R.slots) :
    va_Run p l e R s m args below meth c H locs cells slots mc ms g rest (Qc As.toArray) free :=
  va_runSN S hM cw ⟨fun a U g mk q => ⟨q.1, q.2.1, KS.calling q.2.2⟩, fun U hU hW => ⟨rfl, by rw [hU]; exact hP, hKg U hU hW⟩⟩ hg hn hsize hstack hW hdg hf
end RN1
end
section
/-- a fact kept out of omega's sight -/
def HID (P : Prop) : Prop := P
abbrev AA : Type := Nat → Nat → Int32
/-- the reference's arrays, one of them changed -/
def uA (A : AA) (j : Nat) (g : Nat → Int32) : AA := fun k => if k = j then g else A k
theorem uA_s {A : AA} {j : Nat} {g : Nat → Int32} : uA A j g j = g := if_pos rfl
theorem uA_n {A : AA} {j k : Nat} {g : Nat → Int32} (h : k ≠ j) : uA A j g k = A k := if_neg h
theorem uA_i {A : AA} {j : Nat} {g : Nat → Int32} (h : g = A j) : uA A j g = A := by
  subst h
  funext k
  by_cases e : k = j
  · subst e; exact uA_s
  · exact uA_n e
theorem uA_ii {A : AA} {j : Nat} : uA A j (A j) = A := uA_i rfl
theorem uu_89 (A : AA) (a b c d : Nat → Int32) : uA (uA (uA (uA A 8 a) 9 b) 8 c) 9 d = uA (uA A 8 c) 9 d := by
  funext k
  by_cases h1 : k = 9
  · subst h1; rfl
  by_cases h2 : k = 8
  · subst h2; rfl
  rw [uA_n h1, uA_n h2, uA_n h1, uA_n h2, uA_n h1, uA_n h2]
theorem uu_id {A : AA} : uA (uA A 8 (A 8)) 9 (A 9) = A := by rw [uA_i (A := A) (j := 8) rfl, uA_i rfl]
def MG (G : Nat → Nat) (h0 : Nat) (r : Nat → Nat) : Prop := G h0 = 20 ∧ ∀ j, 4 ≤ j → j < 49 → j ≠ 40 → G (r j) = 100 + j
/-- the reference's object: what lies in its arrays, its code and its number of packets -/
def MH (E : EE) (h0 : Nat) (r : Nat → Nat) (t0 t1 t2 : Int32) (A : AA) (cd pk : Int32) (H : Heap) : Prop := va_at (DG E) vwCl (h0, .inr (10, mfs t0 t1 t2 cd r pk)) H ∧ ∀ j, 4 ≤ j → j < 49 → j ≠ 40 → va_at (DG E) vwCl (r j, .inl (E.2.2 (mkd j), mlen j, .inl (A j))) H
section MHS
variable {E : EE} {h0 : Nat} {r : Nat → Nat} {t0 t1 t2 cd pk : Int32} {A : AA} {H H1 : Heap} {G : Nat → Nat}
theorem MH.kept (h : MH E h0 r t0 t1 t2 A cd pk H) (hk : ∀ q, q < H.size → H1[q]? = H[q]?) : MH E h0 r t0 t1 t2 A cd pk H1 := ⟨h.1.kept (hk _ h.1.lt), fun j a b c => (h.2 j a b c).kept (hk _ (h.2 j a b c).lt)⟩
theorem MH.away (hR : MG G h0 r) (h : MH E h0 r t0 t1 t2 A cd pk H) (hk : ∀ q, q < H.size → G q ≠ 0 → H1[q]? = H[q]?) : MH E h0 r t0 t1 t2 A cd pk H1 := ⟨h.1.kept (hk _ h.1.lt (by rw [hR.1]; decide)), fun j a b c => (h.2 j a b c).kept (hk _ (h.2 j a b c).lt (by rw [hR.2 j a b c]; omega))⟩
theorem MH.w (hR : MG G h0 r) (h : MH E h0 r t0 t1 t2 A cd pk H) (j : Nat) (h4 : 4 ≤ j) (h49 : j < 49) (h40 : j ≠ 40) {g : Nat → Int32} (hn : va_at (DG E) vwCl (r j, .inl (E.2.2 (mkd j), mlen j, .inl g)) H1) (ho : ∀ q, q ≠ r j → H1[q]? = H[q]?) : MH E h0 r t0 t1 t2 (uA A j g) cd pk H1 := by
  refine ⟨h.1.kept (ho _ (fun e => ?_)), fun k a b c => ?_⟩
  · have h1 := hR.1
    have e : h0 = r j := e
    rw [e, hR.2 j h4 h49 h40] at h1
    omega
  · by_cases e : k = j
    · subst e
      rw [uA_s]
      exact hn
    · rw [uA_n e]
      refine (h.2 k a b c).kept (ho _ (fun q => e ?_))
      have h1 := hR.2 k a b c
      have q : r k = r j := q
      rw [q, hR.2 j h4 h49 h40] at h1
      omega
theorem MH.sc (hR : MG G h0 r) (h : MH E h0 r t0 t1 t2 A cd pk H) {cd' pk' : Int32} (hn : va_at (DG E) vwCl (h0, .inr (10, mfs t0 t1 t2 cd' r pk')) H1) (ho : ∀ q, q ≠ h0 → H1[q]? = H[q]?) : MH E h0 r t0 t1 t2 A cd' pk' H1 := by
  refine ⟨hn, fun k a b c => (h.2 k a b c).kept (ho _ (fun q => ?_))⟩
  have h1 := hR.2 k a b c
  have q : r k = h0 := q
  rw [q, hR.1] at h1
  omega
theorem MH.cg {A' : AA} (h : MH E h0 r t0 t1 t2 A cd pk H) (e : ∀ j, A j = A' j) : MH E h0 r t0 t1 t2 A' cd pk H := by
  have : A = A' := funext e
  rw [← this]
  exact h
end MHS
theorem s_nat {x : Int32} (h : 0 ≤ x.toInt) : ∃ n : Nat, (n : Int) = x.toInt ∧ x.toNatClampNeg = n := by
  obtain ⟨j, hj, rfl⟩ := s_pos h
  exact ⟨j, (nI_toInt hj).symm, nI_clamp hj⟩
theorem upd_s {f : Nat → Int32} {n : Nat} {v : Int32} : upd f n v n = v := by simp [upd]
theorem upd_n {f : Nat → Int32} {n k : Nat} {v : Int32} (h : k ≠ n) : upd f n v k = f k := by simp [upd, h]
def I2 (b s : Nat → Int32) : Prop := ∀ n, n < 12 → 0 ≤ (b n).toInt ∧ 0 ≤ (s n).toInt ∧ (b n).toInt + (s n).toInt ≤ 32
def I3 (d : Nat → Int32) : Prop := ∀ n, n < 2 → 0 ≤ (d n).toInt ∧ (d n).toInt ≤ 16
def I5 (h s c : Nat → Int32) : Prop := ∀ n, n < 16 → 0 ≤ (h n).toInt ∧ 0 ≤ (c n).toInt ∧ (c n).toInt ≤ (s n).toInt ∧ (h n).toInt + (s n).toInt ≤ 32
def I6 (k h s g p : Nat → Int32) : Prop := ∀ n, n < 16 → 0 ≤ (k n).toInt ∧ (k n).toInt ≤ 3 ∧ 0 ≤ (h n).toInt ∧ 0 ≤ (s n).toInt ∧ (s n).toInt ≤ 12 ∧ (h n).toInt + (s n).toInt ≤ 32 ∧ ((k n).toInt = 0 ∨ (0 ≤ (g n).toInt ∧ (g n).toInt ≤ 5)) ∧ -1 ≤ (p n).toInt ∧ (p n).toInt ≤ 31
def I7 (o k s m p : Nat → Int32) : Prop := ∀ n, n < 25 → 0 ≤ (o n).toInt ∧ (o n).toInt ≤ 3 ∧ 0 ≤ (s n).toInt ∧ (s n).toInt ≤ 12 ∧ ((k n).toInt ≠ 0 ∧ (k n).toInt ≠ 1 ∧ (k n).toInt ≠ 4 ∨ (s n).toInt ≤ 4) ∧ ((k n).toInt < 1 ∨ 3 < (k n).toInt ∨ (0 ≤ (m n).toInt ∧ (m n).toInt ≤ 5)) ∧ -1 ≤ (p n).toInt ∧ (p n).toInt ≤ 60 ∧ 0 ≤ (k n).toInt
def I8 (q v a b : Nat → Int32) : Prop := ∀ n, n < 4 → 0 ≤ (q n).toInt ∧ (q n).toInt ≤ 4 ∧ 0 ≤ (v n).toInt ∧ (v n).toInt ≤ 4 ∧ 0 ≤ (a n).toInt ∧ (a n).toInt ≤ 2 ∧ ((b n).toInt = 0 ∨ 1 ≤ (v n).toInt)
theorem i_9 : (9 : Int32).toInt = 9 := by decide
theorem i_11 : (11 : Int32).toInt = 11 := by decide
theorem i_13 : (13 : Int32).toInt = 13 := by decide
theorem i_25 : (25 : Int32).toInt = 25 := by decide
theorem i_60 : (60 : Int32).toInt = 60 := by decide
theorem i_75 : (75 : Int32).toInt = 75 := by decide
theorem i_79 : (79 : Int32).toInt = 79 := by decide
theorem i_80 : (80 : Int32).toInt = 80 := by decide
theorem i_96 : (96 : Int32).toInt = 96 := by decide
theorem i_100 : (100 : Int32).toInt = 100 := by decide
theorem mfs_set40 {t0 t1 t2 c p v : Int32} {r : Nat → Nat} : (mfs t0 t1 t2 c r p).set 40 (.int v) = mfs t0 t1 t2 c r v := by
  simp only [List.set_cons_succ, List.set_cons_zero]
theorem MH.cge {E : EE} {h0 : Nat} {r : Nat → Nat} {t0 t1 t2 cd pk : Int32} {A A' : AA} {H : Heap} (h : MH E h0 r t0 t1 t2 A cd pk H) (e : A = A') : MH E h0 r t0 t1 t2 A' cd pk H := e ▸ h
theorem cgj {X Y : AA} (j k : Nat) (h1 : X k = Y k) (h2 : j ≠ k → X j = Y j) : X j = Y j := by
  by_cases e : j = k
  · rw [e]; exact h1
  · exact h2 e
theorem MH.cg9 {E : EE} {h0 : Nat} {r : Nat → Nat} {t0 t1 t2 cd pk : Int32} {A A' : AA} {H : Heap} (h : MH E h0 r t0 t1 t2 A cd pk H) (e4 : A 4 = A' 4) (e5 : A 5 = A' 5) (e6 : A 6 = A' 6) (e7 : A 7 = A' 7) (e8 : A 8 = A' 8) (e9 : A 9 = A' 9) (e10 : A 10 = A' 10) (e11 : A 11 = A' 11) (e12 : A 12 = A' 12) (e13 : A 13 = A' 13) (e14 : A 14 = A' 14) (e15 : A 15 = A' 15) (e16 : A 16 = A' 16) (e17 : A 17 = A' 17) (e18 : A 18 = A' 18) (e19 : A 19 = A' 19) (e20 : A 20 = A' 20) (e21 : A 21 = A' 21) (e22 : A 22 = A' 22) (e23 : A 23 = A' 23) (e24 : A 24 = A' 24) (e25 : A 25 = A' 25) (e26 : A 26 = A' 26) (e27 : A 27 = A' 27) (e28 : A 28 = A' 28) (e29 : A 29 = A' 29) (e30 : A 30 = A' 30) (e31 : A 31 = A' 31) (e32 : A 32 = A' 32) (e33 : A 33 = A' 33) (e34 : A 34 = A' 34) (e35 : A 35 = A' 35) (e36 : A 36 = A' 36) (e37 : A 37 = A' 37) (e38 : A 38 = A' 38) (e39 : A 39 = A' 39) (e41 : A 41 = A' 41) (e42 : A 42 = A' 42) (e43 : A 43 = A' 43) (e44 : A 44 = A' 44) (e45 : A 45 = A' 45) (e46 : A 46 = A' 46) (e47 : A 47 = A' 47) (e48 : A 48 = A' 48) : MH E h0 r t0 t1 t2 A' cd pk H := ⟨h.1, fun j a b c => by
  have hh := h.2 j a b c
  have e : A j = A' j := by
    rcases (show j = 4 ∨ j = 5 ∨ j = 6 ∨ j = 7 ∨ j = 8 ∨ j = 9 ∨ j = 10 ∨ j = 11 ∨ j = 12 ∨ j = 13 ∨ j = 14 ∨ j = 15 ∨ j = 16 ∨ j = 17 ∨ j = 18 ∨ j = 19 ∨ j = 20 ∨ j = 21 ∨ j = 22 ∨ j = 23 ∨ j = 24 ∨ j = 25 ∨ j = 26 ∨ j = 27 ∨ j = 28 ∨ j = 29 ∨ j = 30 ∨ j = 31 ∨ j = 32 ∨ j = 33 ∨ j = 34 ∨ j = 35 ∨ j = 36 ∨ j = 37 ∨ j = 38 ∨ j = 39 ∨ j = 41 ∨ j = 42 ∨ j = 43 ∨ j = 44 ∨ j = 45 ∨ j = 46 ∨ j = 47 ∨ j = 48 by omega) with rfl | rfl | rfl | rfl | rfl | rfl | rfl | rfl | rfl | rfl | rfl | rfl | rfl | rfl | rfl | rfl | rfl | rfl | rfl | rfl | rfl | rfl | rfl | rfl | rfl | rfl | rfl | rfl | rfl | rfl | rfl | rfl | rfl | rfl | rfl | rfl | rfl | rfl | rfl | rfl | rfl | rfl | rfl | rfl <;> assumption
  rw [← e]
  exact hh⟩
section JN
variable {p : Program} {l : Launch} {e : Env} {R : Room} {s : State} {m : MethodId} {args : Array Value} {below : List Frame} {meth : Method} {c : Code} {H : Heap} {locs : List Loc} {cells slots : Nat} {Q : State → Prop} {g : JFrame}
theorem W.jv (P : Int32 → Prop) (f : Int32 → JFrame) (h1 : ∀ v, P v → W p l e R s m args below meth c H locs cells slots Q (f v)) (h2 : (∀ v, P v → W p l e R s m args below meth c H locs cells slots Q (f v)) → W p l e R s m args below meth c H locs cells slots Q g) : W p l e R s m args below meth c H locs cells slots Q g := h2 h1
theorem W.jh {σ : Type} (P : σ → Heap → List Loc → Prop) (f : JFrame) (h1 : ∀ x H locs, P x H locs → W p l e R s m args below meth c H locs cells slots Q f) (h2 : (∀ x H locs, P x H locs → W p l e R s m args below meth c H locs cells slots Q f) → W p l e R s m args below meth c H locs cells slots Q g) : W p l e R s m args below meth c H locs cells slots Q g := h2 h1
end JN
end
section
abbrev RR : Type := Nat → Nat → Nat
def uR (A : RR) (j : Nat) (g : Nat → Nat) : RR := fun k => if k = j then g else A k
theorem uR_s {A : RR} {j : Nat} {g : Nat → Nat} : uR A j g j = g := if_pos rfl
theorem uR_n {A : RR} {j k : Nat} {g : Nat → Nat} (h : k ≠ j) : uR A j g k = A k := if_neg h
def updN (f : Nat → Nat) (k x : Nat) : Nat → Nat := fun j => if j = k then x else f j
theorem updN_s {f : Nat → Nat} {n : Nat} {v : Nat} : updN f n v n = v := by simp [updN]
theorem updN_n {f : Nat → Nat} {n k : Nat} {v : Nat} (h : k ≠ n) : updN f n v k = f k := by simp [updN, h]
/-- what lies at an address of a group -/
def ctx (E : EE) (g : Nat) (b : Nat → Int32) (r : Nat → Nat) : va_E := match g with
  | 1 => .inr (9, [.ref (r 0), .ref (r 1), .ref (r 2)])
  | 2 => .inl (E.2.2 3, 2, .inr (.inr (.inr (.inr (fun i => some (r i))))))
  | 3 => .inl (E.2.2 5, 4, .inr (.inr (.inr (.inr (fun i => some (r i))))))
  | 4 => .inr (0, [.ref (r 0), .int (b 1), .ref (r 2), .ref (r 3)])
  | 5 => .inr (1, [.ref (r 0), .ref (r 1), .ref (r 2), .int (b 3), .int (b 4)])
  | 6 => .inl (E.2.2 4, 6, .inr (.inr (.inr (.inr (fun i => some (r i))))))
  | 7 => .inr (6, [.int (b 0), .int (b 1), .int (b 2)])
  | 8 => .inr (3, [.ref (r 0), .ref (r 1), .int (b 2)])
  | 9 => .inr (7, [.int (b 0), .ref (r 1), .ref (r 2), .int (b 3), .int (b 4), .int (b 5), .ref (r 6), .int (b 7), .int (b 8), .int (b 9), .int (b 10), .int (b 11), .int (b 12), .int (b 13)])
  | 10 => .inr (8, [.int (b 0), .ref (r 1), .ref (r 2), .ref (r 3), .int (b 4), .int (b 5), .int (b 6), .ref (r 7), .ref (r 8)])
  | 11 => .inr (5, [.int (b 0), .ref (r 1), .ref (r 2), .int (b 3), .int (b 4), .int (b 5)])
  | 12 => .inl (E.2.2 6, 4, .inr (.inr (.inr (.inr (fun i => some (r i))))))
  | 13 => .inr (4, [.int (b 0), .int (b 1), .int (b 2), .int (b 3), .int (b 4), .int (b 5), .int (b 6), .int (b 7), .int (b 8), .int (b 9)])
  | 14 => .inl (E.2.2 0, 32, .inl (b))
  | 15 => .inl (E.2.2 0, 80, .inl (b))
  | 16 => .inl (E.2.2 0, 2, .inl (b))
  | 17 => .inl (E.2.2 0, 2, .inl (b))
  | 30 => .inl (E.2.2 7, 24, .inr (.inr (.inr (.inr (fun i => some (r i))))))
  | 31 => .inr (2, [.int (b 0), .int (b 1), .int (b 2), .int (b 3), .int (b 4), .int (b 5), .int (b 6), .ref (r 7)])
  | 32 => .inl (E.2.2 0, 4, .inl (b))
  | _ => .inl (E.2.2 0, 0, .inl b)
/-- the ranges and the groups -/
def tw (G : Nat → Nat) (g : Nat) (b : Nat → Int32) (r : Nat → Nat) : Prop := match g with
  | 1 => G (r 0) = 2 ∧ G (r 1) = 3 ∧ G (r 2) = 4
  | 2 => (∀ i, i < 2 → G (r i) = 5)
  | 3 => (∀ i, i < 4 → G (r i) = 8)
  | 4 => G (r 0) = 30 ∧ (0 ≤ (b 1).toInt ∧ (b 1).toInt ≤ 24) ∧ G (r 2) = 31 ∧ G (r 3) = 31
  | 5 => G (r 0) = 14 ∧ G (r 1) = 6 ∧ G (r 2) = 15 ∧ (0 ≤ (b 3).toInt ∧ (b 3).toInt ≤ 15) ∧ (0 ≤ (b 4).toInt ∧ (b 4).toInt ≤ 16)
  | 6 => (∀ i, i < 6 → G (r i) = 7)
  | 8 => G (r 0) = 9 ∧ G (r 1) = 10
  | 9 => (0 ≤ (b 0).toInt ∧ (b 0).toInt ≤ 3) ∧ G (r 1) = 5 ∧ G (r 2) = 4 ∧ G (r 6) = 11
  | 10 => (0 ≤ (b 0).toInt ∧ (b 0).toInt ≤ 3) ∧ G (r 1) = 5 ∧ G (r 2) = 4 ∧ G (r 3) = 11 ∧ G (r 7) = 16 ∧ G (r 8) = 17
  | 11 => G (r 1) = 5 ∧ G (r 2) = 12 ∧ (0 ≤ (b 3).toInt ∧ (b 3).toInt ≤ 3) ∧ (0 ≤ (b 4).toInt ∧ (b 4).toInt ≤ 4)
  | 12 => (∀ i, i < 4 → G (r i) = 13)
  | 13 => (0 ≤ (b 3).toInt ∧ (b 3).toInt ≤ 12)
  | 30 => (∀ i, i < 24 → G (r i) = 31)
  | 31 => (0 ≤ (b 0).toInt ∧ (b 0).toInt ≤ 3) ∧ (b 3).toInt ≤ 12 ∧ G (r 7) = 32
  | _ => True
def TX (E : EE) (G : Nat → Nat) (B : AA) (R : RR) (H : Heap) : Prop := ∀ a, G a ≠ 0 → va_at (DG E) vwCl (a, ctx E (G a) (B a) (R a)) H
def TW (G : Nat → Nat) (B : AA) (R : RR) : Prop := ∀ a, tw G (G a) (B a) (R a)
def Fr (G : Nat → Nat) (L : List Nat) (B Z : AA) : Prop := ∀ a, G a ∉ L → Z a = B a
def FrR (G : Nat → Nat) (L : List Nat) (R Z : RR) : Prop := ∀ a, G a ∉ L → Z a = R a
section TXS
variable {E : EE} {G : Nat → Nat} {B Z : AA} {R : RR} {H H1 : Heap} {a g : Nat} {L L2 : List Nat}
theorem TX.kept (h : TX E G B R H) (hk : ∀ q, q < H.size → H1[q]? = H[q]?) : TX E G B R H1 := fun a ha => (h a ha).kept (hk _ (h a ha).lt)
theorem TX.w (h : TX E G B R H) {f : Nat → Int32} (hn : va_at (DG E) vwCl (a, ctx E (G a) f (R a)) H1) (ho : ∀ q, q ≠ a → H1[q]? = H[q]?) : TX E G (uA B a f) R H1 := fun b hb => by
  by_cases e : b = a
  · subst e; rw [uA_s]; exact hn
  · rw [uA_n e]; exact (h b hb).kept (ho _ e)
theorem TX.wr (h : TX E G B R H) {f : Nat → Nat} (hn : va_at (DG E) vwCl (a, ctx E (G a) (B a) f) H1) (ho : ∀ q, q ≠ a → H1[q]? = H[q]?) : TX E G B (uR R a f) H1 := fun b hb => by
  by_cases e : b = a
  · subst e; rw [uR_s]; exact hn
  · rw [uR_n e]; exact (h b hb).kept (ho _ e)
theorem TW.w (h : TW G B R) {f : Nat → Int32} (hb : tw G (G a) f (R a)) : TW G (uA B a f) R := fun b => by
  by_cases e : b = a
  · subst e; rw [uA_s]; exact hb
  · rw [uA_n e]; exact h b
theorem TW.wr (h : TW G B R) {f : Nat → Nat} (hb : tw G (G a) (B a) f) : TW G B (uR R a f) := fun b => by
  by_cases e : b = a
  · subst e; rw [uR_s]; exact hb
  · rw [uR_n e]; exact h b
theorem Fr.rf : Fr G L B B := fun _ _ => rfl
theorem Fr.w (h : Fr G L B Z) (hg : G a = g) (hL : g ∈ L) {f : Nat → Int32} {Y : AA} (e : Y = uA Z a f) : Fr G L B Y := fun b hb => by
  rw [e, uA_n (fun q => hb (by rw [q, hg]; exact hL))]; exact h b hb
theorem Fr.c (h : Fr G L B Z) {Y : AA} (h2 : Fr G L2 Z Y) (hs : ∀ g ∈ L2, g ∈ L) : Fr G L B Y := fun b hb => (h2 b (fun q => hb (hs _ q))).trans (h b hb)
theorem FrR.rf : FrR G L R R := fun _ _ => rfl
theorem FrR.w {Z : RR} (h : FrR G L R Z) (hg : G a = g) (hL : g ∈ L) {f : Nat → Nat} {Y : RR} (e : Y = uR Z a f) : FrR G L R Y := fun b hb => by
  rw [e, uR_n (fun q => hb (by rw [q, hg]; exact hL))]; exact h b hb
theorem FrR.c {Z : RR} (h : FrR G L R Z) {Y : RR} (h2 : FrR G L2 Z Y) (hs : ∀ g ∈ L2, g ∈ L) : FrR G L R Y := fun b hb => (h2 b (fun q => hb (hs _ q))).trans (h b hb)
theorem x_nat {x : Int32} (h : 0 ≤ x.toInt) : ∃ n : Nat, (n : Int) = x.toInt ∧ x.toNatClampNeg = n := by
  obtain ⟨j, hj, rfl⟩ := s_pos h
  exact ⟨j, (nI_toInt hj).symm, nI_clamp hj⟩
theorem tx_1 (h : TX E G B R H) (hg : G a = 1) : va_at (DG E) vwCl (a, .inr (9, [.ref (R a 0), .ref (R a 1), .ref (R a 2)])) H := by
  have h1 := h a (by rw [hg]; decide)
  rw [hg] at h1
  exact h1
theorem tw_1 (h : TW G B R) (hg : G a = 1) : G (R a 0) = 2 ∧ G (R a 1) = 3 ∧ G (R a 2) = 4 := by
  have h1 := h a
  rw [hg] at h1
  exact h1
theorem tx_2 (h : TX E G B R H) (hg : G a = 2) : va_at (DG E) vwCl (a, .inl (E.2.2 3, 2, .inr (.inr (.inr (.inr (fun i => some (R a i))))))) H := by
  have h1 := h a (by rw [hg]; decide)
  rw [hg] at h1
  exact h1
theorem tw_2 (h : TW G B R) (hg : G a = 2) : (∀ i, i < 2 → G (R a i) = 5) := by
  have h1 := h a
  rw [hg] at h1
  exact h1
theorem tx_3 (h : TX E G B R H) (hg : G a = 3) : va_at (DG E) vwCl (a, .inl (E.2.2 5, 4, .inr (.inr (.inr (.inr (fun i => some (R a i))))))) H := by
  have h1 := h a (by rw [hg]; decide)
  rw [hg] at h1
  exact h1
theorem tw_3 (h : TW G B R) (hg : G a = 3) : (∀ i, i < 4 → G (R a i) = 8) := by
  have h1 := h a
  rw [hg] at h1
  exact h1
theorem tx_4 (h : TX E G B R H) (hg : G a = 4) : va_at (DG E) vwCl (a, .inr (0, [.ref (R a 0), .int (B a 1), .ref (R a 2), .ref (R a 3)])) H := by
  have h1 := h a (by rw [hg]; decide)
  rw [hg] at h1
  exact h1
theorem tw_4 (h : TW G B R) (hg : G a = 4) : G (R a 0) = 30 ∧ (0 ≤ (B a 1).toInt ∧ (B a 1).toInt ≤ 24) ∧ G (R a 2) = 31 ∧ G (R a 3) = 31 := by
  have h1 := h a
  rw [hg] at h1
  exact h1
theorem tx_5 (h : TX E G B R H) (hg : G a = 5) : va_at (DG E) vwCl (a, .inr (1, [.ref (R a 0), .ref (R a 1), .ref (R a 2), .int (B a 3), .int (B a 4)])) H := by
  have h1 := h a (by rw [hg]; decide)
  rw [hg] at h1
  exact h1
theorem tw_5 (h : TW G B R) (hg : G a = 5) : G (R a 0) = 14 ∧ G (R a 1) = 6 ∧ G (R a 2) = 15 ∧ (0 ≤ (B a 3).toInt ∧ (B a 3).toInt ≤ 15) ∧ (0 ≤ (B a 4).toInt ∧ (B a 4).toInt ≤ 16) := by
  have h1 := h a
  rw [hg] at h1
  exact h1
theorem tx_6 (h : TX E G B R H) (hg : G a = 6) : va_at (DG E) vwCl (a, .inl (E.2.2 4, 6, .inr (.inr (.inr (.inr (fun i => some (R a i))))))) H := by
  have h1 := h a (by rw [hg]; decide)
  rw [hg] at h1
  exact h1
theorem tw_6 (h : TW G B R) (hg : G a = 6) : (∀ i, i < 6 → G (R a i) = 7) := by
  have h1 := h a
  rw [hg] at h1
  exact h1
theorem tx_7 (h : TX E G B R H) (hg : G a = 7) : va_at (DG E) vwCl (a, .inr (6, [.int (B a 0), .int (B a 1), .int (B a 2)])) H := by
  have h1 := h a (by rw [hg]; decide)
  rw [hg] at h1
  exact h1
theorem tx_8 (h : TX E G B R H) (hg : G a = 8) : va_at (DG E) vwCl (a, .inr (3, [.ref (R a 0), .ref (R a 1), .int (B a 2)])) H := by
  have h1 := h a (by rw [hg]; decide)
  rw [hg] at h1
  exact h1
theorem tw_8 (h : TW G B R) (hg : G a = 8) : G (R a 0) = 9 ∧ G (R a 1) = 10 := by
  have h1 := h a
  rw [hg] at h1
  exact h1
theorem tx_9 (h : TX E G B R H) (hg : G a = 9) : va_at (DG E) vwCl (a, .inr (7, [.int (B a 0), .ref (R a 1), .ref (R a 2), .int (B a 3), .int (B a 4), .int (B a 5), .ref (R a 6), .int (B a 7), .int (B a 8), .int (B a 9), .int (B a 10), .int (B a 11), .int (B a 12), .int (B a 13)])) H := by
  have h1 := h a (by rw [hg]; decide)
  rw [hg] at h1
  exact h1
theorem tw_9 (h : TW G B R) (hg : G a = 9) : (0 ≤ (B a 0).toInt ∧ (B a 0).toInt ≤ 3) ∧ G (R a 1) = 5 ∧ G (R a 2) = 4 ∧ G (R a 6) = 11 := by
  have h1 := h a
  rw [hg] at h1
  exact h1
theorem tx_10 (h : TX E G B R H) (hg : G a = 10) : va_at (DG E) vwCl (a, .inr (8, [.int (B a 0), .ref (R a 1), .ref (R a 2), .ref (R a 3), .int (B a 4), .int (B a 5), .int (B a 6), .ref (R a 7), .ref (R a 8)])) H := by
  have h1 := h a (by rw [hg]; decide)
  rw [hg] at h1
  exact h1
theorem tw_10 (h : TW G B R) (hg : G a = 10) : (0 ≤ (B a 0).toInt ∧ (B a 0).toInt ≤ 3) ∧ G (R a 1) = 5 ∧ G (R a 2) = 4 ∧ G (R a 3) = 11 ∧ G (R a 7) = 16 ∧ G (R a 8) = 17 := by
  have h1 := h a
  rw [hg] at h1
  exact h1
theorem tx_11 (h : TX E G B R H) (hg : G a = 11) : va_at (DG E) vwCl (a, .inr (5, [.int (B a 0), .ref (R a 1), .ref (R a 2), .int (B a 3), .int (B a 4), .int (B a 5)])) H := by
  have h1 := h a (by rw [hg]; decide)
  rw [hg] at h1
  exact h1
theorem tw_11 (h : TW G B R) (hg : G a = 11) : G (R a 1) = 5 ∧ G (R a 2) = 12 ∧ (0 ≤ (B a 3).toInt ∧ (B a 3).toInt ≤ 3) ∧ (0 ≤ (B a 4).toInt ∧ (B a 4).toInt ≤ 4) := by
  have h1 := h a
  rw [hg] at h1
  exact h1
theorem tx_12 (h : TX E G B R H) (hg : G a = 12) : va_at (DG E) vwCl (a, .inl (E.2.2 6, 4, .inr (.inr (.inr (.inr (fun i => some (R a i))))))) H := by
  have h1 := h a (by rw [hg]; decide)
  rw [hg] at h1
  exact h1
theorem tw_12 (h : TW G B R) (hg : G a = 12) : (∀ i, i < 4 → G (R a i) = 13) := by
  have h1 := h a
  rw [hg] at h1
  exact h1
theorem tx_13 (h : TX E G B R H) (hg : G a = 13) : va_at (DG E) vwCl (a, .inr (4, [.int (B a 0), .int (B a 1), .int (B a 2), .int (B a 3), .int (B a 4), .int (B a 5), .int (B a 6), .int (B a 7), .int (B a 8), .int (B a 9)])) H := by
  have h1 := h a (by rw [hg]; decide)
  rw [hg] at h1
  exact h1
theorem tw_13 (h : TW G B R) (hg : G a = 13) : (0 ≤ (B a 3).toInt ∧ (B a 3).toInt ≤ 12) := by
  have h1 := h a
  rw [hg] at h1
  exact h1
theorem tx_14 (h : TX E G B R H) (hg : G a = 14) : va_at (DG E) vwCl (a, .inl (E.2.2 0, 32, .inl (B a))) H := by
  have h1 := h a (by rw [hg]; decide)
  rw [hg] at h1
  exact h1
theorem tx_15 (h : TX E G B R H) (hg : G a = 15) : va_at (DG E) vwCl (a, .inl (E.2.2 0, 80, .inl (B a))) H := by
  have h1 := h a (by rw [hg]; decide)
  rw [hg] at h1
  exact h1
theorem tx_16 (h : TX E G B R H) (hg : G a = 16) : va_at (DG E) vwCl (a, .inl (E.2.2 0, 2, .inl (B a))) H := by
  have h1 := h a (by rw [hg]; decide)
  rw [hg] at h1
  exact h1
theorem tx_17 (h : TX E G B R H) (hg : G a = 17) : va_at (DG E) vwCl (a, .inl (E.2.2 0, 2, .inl (B a))) H := by
  have h1 := h a (by rw [hg]; decide)
  rw [hg] at h1
  exact h1
theorem tx_30 (h : TX E G B R H) (hg : G a = 30) : va_at (DG E) vwCl (a, .inl (E.2.2 7, 24, .inr (.inr (.inr (.inr (fun i => some (R a i))))))) H := by
  have h1 := h a (by rw [hg]; decide)
  rw [hg] at h1
  exact h1
theorem tw_30 (h : TW G B R) (hg : G a = 30) : (∀ i, i < 24 → G (R a i) = 31) := by
  have h1 := h a
  rw [hg] at h1
  exact h1
theorem tx_31 (h : TX E G B R H) (hg : G a = 31) : va_at (DG E) vwCl (a, .inr (2, [.int (B a 0), .int (B a 1), .int (B a 2), .int (B a 3), .int (B a 4), .int (B a 5), .int (B a 6), .ref (R a 7)])) H := by
  have h1 := h a (by rw [hg]; decide)
  rw [hg] at h1
  exact h1
theorem tw_31 (h : TW G B R) (hg : G a = 31) : (0 ≤ (B a 0).toInt ∧ (B a 0).toInt ≤ 3) ∧ (B a 3).toInt ≤ 12 ∧ G (R a 7) = 32 := by
  have h1 := h a
  rw [hg] at h1
  exact h1
theorem tx_32 (h : TX E G B R H) (hg : G a = 32) : va_at (DG E) vwCl (a, .inl (E.2.2 0, 4, .inl (B a))) H := by
  have h1 := h a (by rw [hg]; decide)
  rw [hg] at h1
  exact h1
theorem rr_up {n k v : Nat} {c : ClassId} {f : Nat → Nat} (h : va_at (DG E) vwCl (a, .inl (c, n, .inr (.inr (.inr (.inr (va_up (fun i => some (f i)) k (some v))))))) H) : va_at (DG E) vwCl (a, .inl (c, n, .inr (.inr (.inr (.inr (fun i => some (updN f k v i))))))) H := by
  have e : va_up (fun i => some (f i)) k (some v) = fun i => some (updN f k v i) := by
    funext i
    by_cases e : i = k
    · subst e; rw [va_up_self, updN_s]
    · rw [va_up_ne _ _ e, updN_n e]
  rw [e] at h
  exact h
theorem rr_upG {f : Nat → Nat} {j k v : Nat} (h : G (f j) = g) (hv : G v = g) : G (updN f k v j) = g := by
  by_cases e : j = k
  · subst e; rw [updN_s]; exact hv
  · rw [updN_n e]; exact h
def ShN (f : Nat → Nat) (lo hi : Nat) : Nat → Nat := fun j => if lo ≤ j ∧ j < hi then f (j + 1) else f j
theorem shN_z {k n : Nat} (h : n ≤ k) : R = uR R a (ShN (R a) k n) := by
  funext b
  by_cases e : b = a
  · subst e; rw [uR_s]; funext j; unfold ShN; rw [if_neg (by omega)]
  · rw [uR_n e]
theorem shN_s {R9 : RR} {a9 k n m : Nat} (e : R9 = uR R a (ShN (R a) k n)) (ea : a9 = a) (hk : k ≤ n) (hm : m = n + 1) {v : Nat} (hv : v = R9 a9 m) : uR R9 a9 (updN (R9 a9) n v) = uR R a (ShN (R a) k m) := by
  subst ea hm
  have e9 : R9 a9 = ShN (R a9) k n := by rw [e, uR_s]
  funext b
  by_cases h : b = a9
  · subst h
    rw [uR_s, uR_s, hv, e9]
    funext j
    by_cases h1 : j = n
    · subst h1; rw [updN_s]; unfold ShN; rw [if_neg (by omega), if_pos (by omega)]
    · rw [updN_n h1]; unfold ShN
      by_cases h2 : k ≤ j ∧ j < n
      · rw [if_pos h2, if_pos (by omega)]
      · rw [if_neg h2, if_neg (by omega)]
  · rw [uR_n h, uR_n h, e, uR_n h]
end TXS
end
section
def C_X6_become (G : Nat → Nat) (B : AA) (R : RR) (h0 : Nat) (p0 : Int32) (p1 : Int32) (p2 : Int32) (Z : AA) : Prop :=
  (∃ B_2 : AA, (B_2 = uA B h0 (upd (B h0) 0 p0)) ∧ ∃ B_4 : AA, (B_4 = uA B_2 h0 (upd (B_2 h0) 1 p1)) ∧ ∃ B_6 : AA, (B_6 = uA B_4 h0 (upd (B_4 h0) 2 p2)) ∧ Z = B_6)
def C_X6_allows (G : Nat → Nat) (B : AA) (R : RR) (h0 : Nat) (p0 : Int32) (p1 : Int32) (p2 : Int32) (r : Int32) : Prop :=
  (((B h0 1).toInt ≤ 0) ∧ r = 0)
  ∨ ((¬ (B h0 1).toInt ≤ 0) ∧ (p0.toInt < (B h0 0).toInt) ∧ r = 0)
  ∨ ((¬ (B h0 1).toInt ≤ 0) ∧ (¬ p0.toInt < (B h0 0).toInt) ∧ ∃ x_4 : Int32, (x_4 = p0 + p1) ∧ ∃ x_5 : Int32, (x_5 = (B h0 0) + (B h0 1)) ∧ (x_5.toInt < x_4.toInt) ∧ r = 0)
  ∨ ((¬ (B h0 1).toInt ≤ 0) ∧ (¬ p0.toInt < (B h0 0).toInt) ∧ ∃ x_4 : Int32, (x_4 = p0 + p1) ∧ ∃ x_5 : Int32, (x_5 = (B h0 0) + (B h0 1)) ∧ (¬ x_5.toInt < x_4.toInt) ∧ ∃ x_7 : Int32, (x_7 = (B h0 2) &&& p2) ∧ (x_7.toInt = 0) ∧ r = 0)
  ∨ ((¬ (B h0 1).toInt ≤ 0) ∧ (¬ p0.toInt < (B h0 0).toInt) ∧ ∃ x_4 : Int32, (x_4 = p0 + p1) ∧ ∃ x_5 : Int32, (x_5 = (B h0 0) + (B h0 1)) ∧ (¬ x_5.toInt < x_4.toInt) ∧ ∃ x_7 : Int32, (x_7 = (B h0 2) &&& p2) ∧ (¬ x_7.toInt = 0) ∧ r = 1)
def C_X1_at (G : Nat → Nat) (B : AA) (R : RR) (h0 : Nat) (p0 : Int32) (r : Int32) : Prop :=
  ((¬ (0 ≤ p0.toInt ∧ p0.toInt < 32)) ∧ r = 0)
  ∨ ((0 ≤ p0.toInt ∧ p0.toInt < 32) ∧ ∃ n_6 : Nat, ((n_6 : Int) = p0.toInt) ∧ r = (B (R h0 0) n_6))
def C_X1_put (G : Nat → Nat) (B : AA) (R : RR) (h0 : Nat) (p0 : Int32) (p1 : Int32) (Z : AA) : Prop :=
  ((¬ (0 ≤ p0.toInt ∧ p0.toInt < 32)) ∧ Z = B)
  ∨ ((0 ≤ p0.toInt ∧ p0.toInt < 32) ∧ ∃ n_6 : Nat, ((n_6 : Int) = p0.toInt) ∧ ∃ B_7 : AA, (B_7 = uA B (R h0 0) (upd (B (R h0 0)) n_6 p1)) ∧ Z = B_7)
def C_X1_allows (G : Nat → Nat) (B : AA) (R : RR) (h0 : Nat) (p0 : Int32) (p1 : Int32) (p2 : Int32) (p3 : Int32) (r : Int32) : Prop :=
  ((¬ (0 ≤ p0.toInt ∧ p0.toInt < 6)) ∧ r = 0)
  ∨ ((0 ≤ p0.toInt ∧ p0.toInt < 6) ∧ ∃ n_6 : Nat, ((n_6 : Int) = p0.toInt) ∧ ∃ r_9 : Int32, (C_X6_allows G B R (R (R h0 1) n_6) p1 p2 p3 r_9) ∧ (r_9.toInt = 0) ∧ r = 0)
  ∨ ((0 ≤ p0.toInt ∧ p0.toInt < 6) ∧ ∃ n_6 : Nat, ((n_6 : Int) = p0.toInt) ∧ ∃ r_9 : Int32, (C_X6_allows G B R (R (R h0 1) n_6) p1 p2 p3 r_9) ∧ (¬ r_9.toInt = 0) ∧ r = 1)
def C_X1_complete (G : Nat → Nat) (B : AA) (R : RR) (h0 : Nat) (p0 : Int32) (p1 : Nat) (p2 : Int32) (Z : AA) : Prop :=
  ((¬ (B h0 4).toInt = 16) ∧ ∃ x_5 : Int32, (x_5 = (B h0 3) + (B h0 4)) ∧ (x_5.toInt = (B h0 3).toInt + (B h0 4).toInt) ∧ ∃ x_6 : Int32, (x_6 = x_5 - x_5 / 16 * 16) ∧ (x_6.toInt = x_5.toInt % 16) ∧ ∃ x_7 : Int32, (x_7 = x_6 * 5) ∧ (x_7.toInt = x_6.toInt * 5) ∧ ∃ n_11 : Nat, ((n_11 : Int) = x_7.toInt) ∧ ∃ B_12 : AA, (B_12 = uA B (R h0 2) (upd (B (R h0 2)) n_11 p0)) ∧ ∃ x_14 : Int32, (x_14 = x_7 + 1) ∧ (x_14.toInt = x_7.toInt + 1) ∧ ∃ n_19 : Nat, ((n_19 : Int) = x_14.toInt) ∧ ∃ B_20 : AA, (B_20 = uA B_12 (R h0 2) (upd (B_12 (R h0 2)) n_19 (B p1 0))) ∧ ∃ x_22 : Int32, (x_22 = x_7 + 2) ∧ (x_22.toInt = x_7.toInt + 2) ∧ ∃ n_27 : Nat, ((n_27 : Int) = x_22.toInt) ∧ ∃ B_28 : AA, (B_28 = uA B_20 (R h0 2) (upd (B_20 (R h0 2)) n_27 (B p1 1))) ∧ ∃ x_30 : Int32, (x_30 = x_7 + 3) ∧ (x_30.toInt = x_7.toInt + 3) ∧ ∃ n_33 : Nat, ((n_33 : Int) = x_30.toInt) ∧ ∃ B_34 : AA, (B_34 = uA B_28 (R h0 2) (upd (B_28 (R h0 2)) n_33 p2)) ∧ ∃ x_36 : Int32, (x_36 = x_7 + 4) ∧ (x_36.toInt = x_7.toInt + 4) ∧ (¬ (B p1 0).toInt = 4) ∧ ∃ n_44 : Nat, ((n_44 : Int) = x_36.toInt) ∧ ∃ B_45 : AA, (B_45 = uA B_34 (R h0 2) (upd (B_34 (R h0 2)) n_44 (B p1 3))) ∧ ∃ x_48 : Int32, (x_48 = (B h0 4) + 1) ∧ (x_48.toInt = (B h0 4).toInt + 1) ∧ ∃ B_50 : AA, (B_50 = uA B_45 h0 (upd (B_45 h0) 4 x_48)) ∧ Z = B_50)
  ∨ ((¬ (B h0 4).toInt = 16) ∧ ∃ x_5 : Int32, (x_5 = (B h0 3) + (B h0 4)) ∧ (x_5.toInt = (B h0 3).toInt + (B h0 4).toInt) ∧ ∃ x_6 : Int32, (x_6 = x_5 - x_5 / 16 * 16) ∧ (x_6.toInt = x_5.toInt % 16) ∧ ∃ x_7 : Int32, (x_7 = x_6 * 5) ∧ (x_7.toInt = x_6.toInt * 5) ∧ ∃ n_11 : Nat, ((n_11 : Int) = x_7.toInt) ∧ ∃ B_12 : AA, (B_12 = uA B (R h0 2) (upd (B (R h0 2)) n_11 p0)) ∧ ∃ x_14 : Int32, (x_14 = x_7 + 1) ∧ (x_14.toInt = x_7.toInt + 1) ∧ ∃ n_19 : Nat, ((n_19 : Int) = x_14.toInt) ∧ ∃ B_20 : AA, (B_20 = uA B_12 (R h0 2) (upd (B_12 (R h0 2)) n_19 (B p1 0))) ∧ ∃ x_22 : Int32, (x_22 = x_7 + 2) ∧ (x_22.toInt = x_7.toInt + 2) ∧ ∃ n_27 : Nat, ((n_27 : Int) = x_22.toInt) ∧ ∃ B_28 : AA, (B_28 = uA B_20 (R h0 2) (upd (B_20 (R h0 2)) n_27 (B p1 1))) ∧ ∃ x_30 : Int32, (x_30 = x_7 + 3) ∧ (x_30.toInt = x_7.toInt + 3) ∧ ∃ n_33 : Nat, ((n_33 : Int) = x_30.toInt) ∧ ∃ B_34 : AA, (B_34 = uA B_28 (R h0 2) (upd (B_28 (R h0 2)) n_33 p2)) ∧ ∃ x_36 : Int32, (x_36 = x_7 + 4) ∧ (x_36.toInt = x_7.toInt + 4) ∧ ((B p1 0).toInt = 4) ∧ ∃ n_54 : Nat, ((n_54 : Int) = x_36.toInt) ∧ ∃ B_55 : AA, (B_55 = uA B_34 (R h0 2) (upd (B_34 (R h0 2)) n_54 (B p1 9))) ∧ ∃ x_58 : Int32, (x_58 = (B h0 4) + 1) ∧ (x_58.toInt = (B h0 4).toInt + 1) ∧ ∃ B_60 : AA, (B_60 = uA B_55 h0 (upd (B_55 h0) 4 x_58)) ∧ Z = B_60)
  ∨ (((B h0 4).toInt = 16) ∧ Z = B)
def C_X1_tellFirst (G : Nat → Nat) (B : AA) (R : RR) (h0 : Nat) (p0 : Int32) (r : Int32) : Prop :=
  (∃ x_4 : Int32, (x_4 = (B h0 3) * 5) ∧ (x_4.toInt = (B h0 3).toInt * 5) ∧ ∃ x_5 : Int32, (x_5 = x_4 + p0) ∧ (x_5.toInt = x_4.toInt + p0.toInt) ∧ ∃ n_8 : Nat, ((n_8 : Int) = x_5.toInt) ∧ r = (B (R h0 2) n_8))
def C_X1_dropFirst (G : Nat → Nat) (B : AA) (R : RR) (h0 : Nat)  (Z : AA) : Prop :=
  (∃ x_3 : Int32, (x_3 = (B h0 3) + 1) ∧ (x_3.toInt = (B h0 3).toInt + 1) ∧ ∃ x_4 : Int32, (x_4 = x_3 - x_3 / 16 * 16) ∧ (x_4.toInt = x_3.toInt % 16) ∧ ∃ B_6 : AA, (B_6 = uA B h0 (upd (B h0) 3 x_4)) ∧ ∃ x_10 : Int32, (x_10 = (B h0 4) - 1) ∧ (x_10.toInt = (B h0 4).toInt - 1) ∧ ∃ B_12 : AA, (B_12 = uA B_6 h0 (upd (B_6 h0) 4 x_10)) ∧ Z = B_12)
def C_X2_become (G : Nat → Nat) (B : AA) (R : RR) (h0 : Nat) (p0 : Int32) (p1 : Int32) (p2 : Int32) (Z : AA) : Prop :=
  (∃ B_3 : AA, (B_3 = uA B h0 (upd (B h0) 0 p0)) ∧ ∃ B_5 : AA, (B_5 = uA B_3 h0 (upd (B_3 h0) 1 p1)) ∧ ∃ B_7 : AA, (B_7 = uA B_5 h0 (upd (B_5 h0) 2 p2)) ∧ ∃ B_10 : AA, (B_10 = uA B_7 h0 (upd (B_7 h0) 3 0)) ∧ ∃ B_12 : AA, (B_12 = uA B_10 h0 (upd (B_10 h0) 4 (-1))) ∧ ∃ B_14 : AA, (B_14 = uA B_12 h0 (upd (B_12 h0) 5 (-1))) ∧ ∃ B_16 : AA, (B_16 = uA B_14 h0 (upd (B_14 h0) 6 0)) ∧ Z = B_16)
def C_X2_becomeLike (G : Nat → Nat) (B : AA) (R : RR) (h0 : Nat) (p0 : Nat) (Z : AA) : Prop :=
  (∃ U_5 : AA, (Fr G [31] B U_5) ∧ (C_X2_become G B R h0 (B p0 0) (B p0 1) (B p0 2) U_5) ∧ ∃ B_10 : AA, (B_10 = uA U_5 h0 (upd (U_5 h0) 3 (U_5 p0 3))) ∧ ∃ B_13 : AA, (B_13 = uA B_10 h0 (upd (B_10 h0) 4 (B_10 p0 4))) ∧ ∃ B_16 : AA, (B_16 = uA B_13 h0 (upd (B_13 h0) 5 (B_13 p0 5))) ∧ ∃ B_19 : AA, (B_19 = uA B_16 h0 (upd (B_16 h0) 6 (B_16 p0 6))) ∧ ∃ B_28 : AA, (B_28 = uA B_19 (R h0 7) (upd (B_19 (R h0 7)) 0 (B (R p0 7) 0))) ∧ ∃ B_34 : AA, (B_34 = uA B_28 (R h0 7) (upd (B_28 (R h0 7)) 1 (B_28 (R p0 7) 1))) ∧ ∃ B_40 : AA, (B_40 = uA B_34 (R h0 7) (upd (B_34 (R h0 7)) 2 (B_34 (R p0 7) 2))) ∧ ∃ B_46 : AA, (B_46 = uA B_40 (R h0 7) (upd (B_40 (R h0 7)) 3 (B_40 (R p0 7) 3))) ∧ Z = B_46)
abbrev C_X2_load_s1 (G : Nat → Nat) (B : AA) (R : RR) (h0 : Nat) (p0 : Nat) (p1 : Int32) (Z : AA) (x_1 : Int32) (B_4 : AA) : Prop := (B_4 = uA B h0 (upd (B h0) 3 x_1)) ∧ (¬ x_1.toInt ≤ 0) ∧ ∃ x_9 : Int32, (x_9 = p1 + 0) ∧ ∃ r_11 : Int32, (C_X1_at G B_4 R p0 x_9 r_11) ∧ ∃ B_13 : AA, (B_13 = uA B_4 (R h0 7) (upd (B_4 (R h0 7)) 0 r_11)) ∧ ((¬ x_1.toInt ≤ 1) ∧ ∃ x_17 : Int32, (x_17 = p1 + 1) ∧ ∃ r_19 : Int32, (C_X1_at G B_13 R p0 x_17 r_19) ∧ ∃ B_21 : AA, (B_21 = uA B_13 (R h0 7) (upd (B_13 (R h0 7)) 1 r_19)) ∧ (x_1.toInt ≤ 2) ∧ (Z = B_21))
abbrev C_X2_load_s2 (G : Nat → Nat) (R : RR) (h0 : Nat) (p0 : Nat) (p1 : Int32) (Z : AA) (x_1 : Int32) (B_4 : AA) (r_11 : Int32) (B_13 : AA) : Prop := (B_13 = uA B_4 (R h0 7) (upd (B_4 (R h0 7)) 0 r_11)) ∧ (¬ x_1.toInt ≤ 1) ∧ ∃ x_17 : Int32, (x_17 = p1 + 1) ∧ ∃ r_19 : Int32, (C_X1_at G B_13 R p0 x_17 r_19) ∧ ∃ B_21 : AA, (B_21 = uA B_13 (R h0 7) (upd (B_13 (R h0 7)) 1 r_19)) ∧ ((¬ x_1.toInt ≤ 2) ∧ ∃ x_25 : Int32, (x_25 = p1 + 2) ∧ ∃ r_27 : Int32, (C_X1_at G B_21 R p0 x_25 r_27) ∧ ∃ B_29 : AA, (B_29 = uA B_21 (R h0 7) (upd (B_21 (R h0 7)) 2 r_27)) ∧ (x_1.toInt ≤ 3) ∧ (Z = B_29))
abbrev C_X2_load_s3 (G : Nat → Nat) (R : RR) (h0 : Nat) (p0 : Nat) (p1 : Int32) (Z : AA) (x_1 : Int32) (B_13 : AA) (r_19 : Int32) : Prop := ∃ B_21 : AA, (B_21 = uA B_13 (R h0 7) (upd (B_13 (R h0 7)) 1 r_19)) ∧ (¬ x_1.toInt ≤ 2) ∧ ∃ x_25 : Int32, (x_25 = p1 + 2) ∧ ∃ r_27 : Int32, (C_X1_at G B_21 R p0 x_25 r_27) ∧ ∃ B_29 : AA, ((B_29 = uA B_21 (R h0 7) (upd (B_21 (R h0 7)) 2 r_27)) ∧ (¬ x_1.toInt ≤ 3) ∧ ∃ x_33 : Int32, (x_33 = p1 + 3) ∧ ∃ r_35 : Int32, (C_X1_at G B_29 R p0 x_33 r_35) ∧ ∃ B_37 : AA, (B_37 = uA B_29 (R h0 7) (upd (B_29 (R h0 7)) 3 r_35)) ∧ (Z = B_37))
abbrev C_X2_load_s4 (G : Nat → Nat) (B : AA) (R : RR) (h0 : Nat) (p0 : Nat) (p1 : Int32) (p2 : Int32) (Z : AA) : Prop := ∃ x_1 : Int32, (x_1 = if 4 < p2 then 4 else p2) ∧ ∃ B_4 : AA, (B_4 = uA B h0 (upd (B h0) 3 x_1)) ∧ (¬ x_1.toInt ≤ 0) ∧ ∃ x_9 : Int32, (x_9 = p1 + 0) ∧ ∃ r_11 : Int32, ((C_X1_at G B_4 R p0 x_9 r_11) ∧ ∃ B_13 : AA, (B_13 = uA B_4 (R h0 7) (upd (B_4 (R h0 7)) 0 r_11)) ∧ (¬ x_1.toInt ≤ 1) ∧ ∃ x_17 : Int32, (x_17 = p1 + 1) ∧ ∃ r_19 : Int32, (C_X1_at G B_13 R p0 x_17 r_19) ∧ (C_X2_load_s3 G R h0 p0 p1 Z x_1 B_13 r_19))
def C_X2_load (G : Nat → Nat) (B : AA) (R : RR) (h0 : Nat) (p0 : Nat) (p1 : Int32) (p2 : Int32) (Z : AA) : Prop := (∃ x_1 : Int32, (x_1 = if 4 < p2 then 4 else p2) ∧ ∃ B_4 : AA, (B_4 = uA B h0 (upd (B h0) 3 x_1)) ∧ (x_1.toInt ≤ 0) ∧ (Z = B_4)) ∨ (∃ x_1 : Int32, (x_1 = if 4 < p2 then 4 else p2) ∧ ∃ B_4 : AA, (B_4 = uA B h0 (upd (B h0) 3 x_1)) ∧ ((¬ x_1.toInt ≤ 0) ∧ ∃ x_9 : Int32, (x_9 = p1 + 0) ∧ ∃ r_11 : Int32, (C_X1_at G B_4 R p0 x_9 r_11) ∧ ∃ B_13 : AA, (B_13 = uA B_4 (R h0 7) (upd (B_4 (R h0 7)) 0 r_11)) ∧ (x_1.toInt ≤ 1) ∧ (Z = B_13))) ∨ (∃ x_1 : Int32, (x_1 = if 4 < p2 then 4 else p2) ∧ ∃ B_4 : AA, (C_X2_load_s1 G B R h0 p0 p1 Z x_1 B_4)) ∨ (∃ x_1 : Int32, (x_1 = if 4 < p2 then 4 else p2) ∧ (∃ B_4 : AA, (B_4 = uA B h0 (upd (B h0) 3 x_1)) ∧ (¬ x_1.toInt ≤ 0) ∧ ∃ x_9 : Int32, (x_9 = p1 + 0) ∧ ∃ r_11 : Int32, (C_X1_at G B_4 R p0 x_9 r_11) ∧ ∃ B_13 : AA, (C_X2_load_s2 G R h0 p0 p1 Z x_1 B_4 r_11 B_13))) ∨ (C_X2_load_s4 G B R h0 p0 p1 p2 Z)
abbrev C_X2_unload_s1 (G : Nat → Nat) (B : AA) (R : RR) (h0 : Nat) (p0 : Nat) (p1 : Int32) (p2 : Int32) (Z : AA) (x_6 : Int32) (U_11 : AA) : Prop := (C_X1_put G B R p0 x_6 (B (R h0 7) 0) U_11) ∧ (¬ (B h0 3).toInt ≤ 1) ∧ (¬ p2.toInt ≤ 1) ∧ ∃ x_17 : Int32, (x_17 = p1 + 1) ∧ ∃ U_22 : AA, (Fr G [14] U_11 U_22) ∧ (C_X1_put G U_11 R p0 x_17 (B (R h0 7) 1) U_22) ∧ ((¬ (B h0 3).toInt ≤ 2) ∧ (¬ p2.toInt ≤ 2) ∧ ∃ x_28 : Int32, (x_28 = p1 + 2) ∧ ∃ U_33 : AA, (Fr G [14] U_22 U_33) ∧ (C_X1_put G U_22 R p0 x_28 (B (R h0 7) 2) U_33) ∧ ((B h0 3).toInt ≤ 3) ∧ (Z = U_33))
abbrev C_X2_unload_s2 (G : Nat → Nat) (B : AA) (R : RR) (h0 : Nat) (p0 : Nat) (p1 : Int32) (p2 : Int32) (Z : AA) : Prop := (¬ (B h0 3).toInt ≤ 0) ∧ (¬ p2.toInt ≤ 0) ∧ ∃ x_6 : Int32, (x_6 = p1 + 0) ∧ ∃ U_11 : AA, (Fr G [14] B U_11) ∧ (C_X1_put G B R p0 x_6 (B (R h0 7) 0) U_11) ∧ ((¬ (B h0 3).toInt ≤ 1) ∧ (¬ p2.toInt ≤ 1) ∧ ∃ x_17 : Int32, (x_17 = p1 + 1) ∧ ∃ U_22 : AA, (Fr G [14] U_11 U_22) ∧ (C_X1_put G U_11 R p0 x_17 (B (R h0 7) 1) U_22) ∧ (¬ (B h0 3).toInt ≤ 2) ∧ ((¬ p2.toInt ≤ 2) ∧ ∃ x_28 : Int32, (x_28 = p1 + 2) ∧ ∃ U_33 : AA, (Fr G [14] U_22 U_33) ∧ (C_X1_put G U_22 R p0 x_28 (B (R h0 7) 2) U_33) ∧ (¬ (B h0 3).toInt ≤ 3) ∧ (p2.toInt ≤ 3) ∧ (Z = U_33)))
abbrev C_X2_unload_s3 (G : Nat → Nat) (B : AA) (R : RR) (h0 : Nat) (p0 : Nat) (p1 : Int32) (p2 : Int32) (Z : AA) (U_11 : AA) (x_17 : Int32) (U_22 : AA) : Prop := (C_X1_put G U_11 R p0 x_17 (B (R h0 7) 1) U_22) ∧ (¬ (B h0 3).toInt ≤ 2) ∧ (¬ p2.toInt ≤ 2) ∧ ∃ x_28 : Int32, (x_28 = p1 + 2) ∧ ∃ U_33 : AA, (Fr G [14] U_22 U_33) ∧ (C_X1_put G U_22 R p0 x_28 (B (R h0 7) 2) U_33) ∧ ((¬ (B h0 3).toInt ≤ 3) ∧ (¬ p2.toInt ≤ 3) ∧ ∃ x_39 : Int32, (x_39 = p1 + 3) ∧ ∃ U_44 : AA, (Fr G [14] U_33 U_44) ∧ (C_X1_put G U_33 R p0 x_39 (B (R h0 7) 3) U_44) ∧ ((B h0 3).toInt ≤ 4) ∧ (Z = U_44))
abbrev C_X2_unload_s4 (G : Nat → Nat) (B : AA) (R : RR) (h0 : Nat) (p0 : Nat) (p1 : Int32) (p2 : Int32) (Z : AA) (x_6 : Int32) (U_11 : AA) : Prop := (C_X1_put G B R p0 x_6 (B (R h0 7) 0) U_11) ∧ (¬ (B h0 3).toInt ≤ 1) ∧ (¬ p2.toInt ≤ 1) ∧ ∃ x_17 : Int32, (x_17 = p1 + 1) ∧ ∃ U_22 : AA, (Fr G [14] U_11 U_22) ∧ (C_X1_put G U_11 R p0 x_17 (B (R h0 7) 1) U_22) ∧ ((¬ (B h0 3).toInt ≤ 2) ∧ (¬ p2.toInt ≤ 2) ∧ ∃ x_28 : Int32, (x_28 = p1 + 2) ∧ ∃ U_33 : AA, (Fr G [14] U_22 U_33) ∧ (C_X1_put G U_22 R p0 x_28 (B (R h0 7) 2) U_33) ∧ (¬ (B h0 3).toInt ≤ 3) ∧ ((¬ p2.toInt ≤ 3) ∧ ∃ x_39 : Int32, (x_39 = p1 + 3) ∧ ∃ U_44 : AA, (Fr G [14] U_33 U_44) ∧ (C_X1_put G U_33 R p0 x_39 (B (R h0 7) 3) U_44) ∧ (¬ (B h0 3).toInt ≤ 4) ∧ (p2.toInt ≤ 4) ∧ (Z = U_44)))
abbrev C_X2_unload_s5 (G : Nat → Nat) (B : AA) (R : RR) (h0 : Nat) (p0 : Nat) (p1 : Int32) (p2 : Int32) (Z : AA) (x_6 : Int32) (U_11 : AA) : Prop := (C_X1_put G B R p0 x_6 (B (R h0 7) 0) U_11) ∧ (¬ (B h0 3).toInt ≤ 1) ∧ (¬ p2.toInt ≤ 1) ∧ ∃ x_17 : Int32, (x_17 = p1 + 1) ∧ ∃ U_22 : AA, (Fr G [14] U_11 U_22) ∧ (C_X1_put G U_11 R p0 x_17 (B (R h0 7) 1) U_22) ∧ ((¬ (B h0 3).toInt ≤ 2) ∧ (¬ p2.toInt ≤ 2) ∧ ∃ x_28 : Int32, (x_28 = p1 + 2) ∧ ∃ U_33 : AA, (Fr G [14] U_22 U_33) ∧ (C_X1_put G U_22 R p0 x_28 (B (R h0 7) 2) U_33) ∧ (¬ (B h0 3).toInt ≤ 3) ∧ ((¬ p2.toInt ≤ 3) ∧ ∃ x_39 : Int32, (x_39 = p1 + 3) ∧ ∃ U_44 : AA, (Fr G [14] U_33 U_44) ∧ (C_X1_put G U_33 R p0 x_39 (B (R h0 7) 3) U_44) ∧ (¬ (B h0 3).toInt ≤ 4) ∧ (¬ p2.toInt ≤ 4) ∧ (Z = U_44)))
def C_X2_unload (G : Nat → Nat) (B : AA) (R : RR) (h0 : Nat) (p0 : Nat) (p1 : Int32) (p2 : Int32) (Z : AA) : Prop := (((B h0 3).toInt ≤ 0) ∧ (Z = B)) ∨ ((¬ (B h0 3).toInt ≤ 0) ∧ (p2.toInt ≤ 0) ∧ (Z = B)) ∨ ((¬ (B h0 3).toInt ≤ 0) ∧ (¬ p2.toInt ≤ 0) ∧ ∃ x_6 : Int32, (x_6 = p1 + 0) ∧ ∃ U_11 : AA, (Fr G [14] B U_11) ∧ (C_X1_put G B R p0 x_6 (B (R h0 7) 0) U_11) ∧ ((B h0 3).toInt ≤ 1) ∧ (Z = U_11)) ∨ ((¬ (B h0 3).toInt ≤ 0) ∧ ((¬ p2.toInt ≤ 0) ∧ ∃ x_6 : Int32, (x_6 = p1 + 0) ∧ ∃ U_11 : AA, (Fr G [14] B U_11) ∧ (C_X1_put G B R p0 x_6 (B (R h0 7) 0) U_11) ∧ (¬ (B h0 3).toInt ≤ 1) ∧ (p2.toInt ≤ 1) ∧ (Z = U_11))) ∨ ((¬ (B h0 3).toInt ≤ 0) ∧ (¬ p2.toInt ≤ 0) ∧ ∃ x_6 : Int32, (x_6 = p1 + 0) ∧ ∃ U_11 : AA, (Fr G [14] B U_11) ∧ (C_X1_put G B R p0 x_6 (B (R h0 7) 0) U_11) ∧ ((¬ (B h0 3).toInt ≤ 1) ∧ (¬ p2.toInt ≤ 1) ∧ ∃ x_17 : Int32, (x_17 = p1 + 1) ∧ ∃ U_22 : AA, (Fr G [14] U_11 U_22) ∧ (C_X1_put G U_11 R p0 x_17 (B (R h0 7) 1) U_22) ∧ ((B h0 3).toInt ≤ 2) ∧ (Z = U_22))) ∨ ((¬ (B h0 3).toInt ≤ 0) ∧ (¬ p2.toInt ≤ 0) ∧ ∃ x_6 : Int32, (x_6 = p1 + 0) ∧ ∃ U_11 : AA, (Fr G [14] B U_11) ∧ (C_X1_put G B R p0 x_6 (B (R h0 7) 0) U_11) ∧ (¬ (B h0 3).toInt ≤ 1) ∧ ((¬ p2.toInt ≤ 1) ∧ ∃ x_17 : Int32, (x_17 = p1 + 1) ∧ ∃ U_22 : AA, (Fr G [14] U_11 U_22) ∧ (C_X1_put G U_11 R p0 x_17 (B (R h0 7) 1) U_22) ∧ (¬ (B h0 3).toInt ≤ 2) ∧ (p2.toInt ≤ 2) ∧ (Z = U_22))) ∨ ((¬ (B h0 3).toInt ≤ 0) ∧ (¬ p2.toInt ≤ 0) ∧ ∃ x_6 : Int32, (x_6 = p1 + 0) ∧ ∃ U_11 : AA, (Fr G [14] B U_11) ∧ (C_X2_unload_s1 G B R h0 p0 p1 p2 Z x_6 U_11)) ∨ (C_X2_unload_s2 G B R h0 p0 p1 p2 Z) ∨ ((¬ (B h0 3).toInt ≤ 0) ∧ (¬ p2.toInt ≤ 0) ∧ ∃ x_6 : Int32, (x_6 = p1 + 0) ∧ ∃ U_11 : AA, ((Fr G [14] B U_11) ∧ (C_X1_put G B R p0 x_6 (B (R h0 7) 0) U_11) ∧ (¬ (B h0 3).toInt ≤ 1) ∧ (¬ p2.toInt ≤ 1) ∧ ∃ x_17 : Int32, (x_17 = p1 + 1) ∧ ∃ U_22 : AA, (Fr G [14] U_11 U_22) ∧ (C_X2_unload_s3 G B R h0 p0 p1 p2 Z U_11 x_17 U_22))) ∨ ((¬ (B h0 3).toInt ≤ 0) ∧ (¬ p2.toInt ≤ 0) ∧ ∃ x_6 : Int32, (x_6 = p1 + 0) ∧ ∃ U_11 : AA, (Fr G [14] B U_11) ∧ (C_X2_unload_s4 G B R h0 p0 p1 p2 Z x_6 U_11)) ∨ ((¬ (B h0 3).toInt ≤ 0) ∧ (¬ p2.toInt ≤ 0) ∧ ∃ x_6 : Int32, (x_6 = p1 + 0) ∧ ∃ U_11 : AA, (Fr G [14] B U_11) ∧ (C_X2_unload_s5 G B R h0 p0 p1 p2 Z x_6 U_11))
def C_X2_isFirst (G : Nat → Nat) (B : AA) (R : RR) (h0 : Nat)  (r : Int32) : Prop :=
  (∃ x_2 : Int32, (x_2 = (B h0 4) &&& 1) ∧ (x_2.toInt = 0) ∧ r = 0)
  ∨ (∃ x_2 : Int32, (x_2 = (B h0 4) &&& 1) ∧ (¬ x_2.toInt = 0) ∧ r = 1)
def C_X2_isLast (G : Nat → Nat) (B : AA) (R : RR) (h0 : Nat)  (r : Int32) : Prop :=
  (∃ x_2 : Int32, (x_2 = (B h0 4) &&& 2) ∧ (x_2.toInt = 0) ∧ r = 0)
  ∨ (∃ x_2 : Int32, (x_2 = (B h0 4) &&& 2) ∧ (¬ x_2.toInt = 0) ∧ r = 1)
def C_X2_isAllowed (G : Nat → Nat) (B : AA) (R : RR) (h0 : Nat) (p0 : Nat) (r : Int32) : Prop :=
  (((B h0 1).toInt = 1) ∧ ∃ r_5 : Int32, (C_X1_allows G B R p0 (B h0 4) (B h0 5) (B h0 3) (1 : Int32) r_5) ∧ (r_5 = (0 : Int32)) ∧ r = 0)
  ∨ (((B h0 1).toInt = 1) ∧ ∃ r_5 : Int32, (C_X1_allows G B R p0 (B h0 4) (B h0 5) (B h0 3) (1 : Int32) r_5) ∧ (r_5 = (1 : Int32)) ∧ r = 1)
  ∨ (((B h0 1).toInt = 2) ∧ ∃ r_8 : Int32, (C_X1_allows G B R p0 (B h0 4) (B h0 5) (B h0 3) (2 : Int32) r_8) ∧ (r_8 = (0 : Int32)) ∧ r = 0)
  ∨ (((B h0 1).toInt = 2) ∧ ∃ r_8 : Int32, (C_X1_allows G B R p0 (B h0 4) (B h0 5) (B h0 3) (2 : Int32) r_8) ∧ (r_8 = (1 : Int32)) ∧ r = 1)
  ∨ (((B h0 1).toInt ≠ 1) ∧ ((B h0 1).toInt ≠ 2) ∧ ∃ r_10 : Int32, (C_X1_allows G B R p0 (B h0 4) (B h0 5) (1 : Int32) (4 : Int32) r_10) ∧ (r_10 = (0 : Int32)) ∧ r = 0)
  ∨ (((B h0 1).toInt ≠ 1) ∧ ((B h0 1).toInt ≠ 2) ∧ ∃ r_10 : Int32, (C_X1_allows G B R p0 (B h0 4) (B h0 5) (1 : Int32) (4 : Int32) r_10) ∧ (r_10 = (1 : Int32)) ∧ r = 1)
def C_X2_tell (G : Nat → Nat) (B : AA) (R : RR) (h0 : Nat) (p0 : Int32) (r : Int32) : Prop :=
  ((p0.toInt = 0) ∧ r = (B h0 0))
  ∨ ((p0.toInt = 1) ∧ r = (B h0 1))
  ∨ ((p0.toInt = 2) ∧ r = (B h0 2))
  ∨ ((p0.toInt = 3) ∧ r = (B h0 3))
  ∨ ((p0.toInt = 4) ∧ r = (B h0 4))
  ∨ ((p0.toInt = 5) ∧ r = (B h0 5))
  ∨ ((p0.toInt < 0 ∨ 5 < p0.toInt) ∧ r = (-1))
def C_X0_has (G : Nat → Nat) (B : AA) (R : RR) (h0 : Nat) (p0 : Int32) (r : Int32) : Prop :=
  ((p0.toInt < 0) ∧ r = 0)
  ∨ ((¬ p0.toInt < 0) ∧ ((B h0 1).toInt ≤ p0.toInt) ∧ r = 0)
  ∨ ((¬ p0.toInt < 0) ∧ (¬ (B h0 1).toInt ≤ p0.toInt) ∧ r = 1)
def C_X0_isFull (G : Nat → Nat) (B : AA) (R : RR) (h0 : Nat)  (r : Int32) : Prop :=
  ((¬ (B h0 1).toInt = 24) ∧ r = 0)
  ∨ (((B h0 1).toInt = 24) ∧ r = 1)
def C_X0_carry (G : Nat → Nat) (B : AA) (R : RR) (h0 : Nat) (p0 : Int32) (p1 : Int32) (p2 : Int32) (Z : AA) (r : Nat) : Prop :=
  (∃ r_2 : Int32, (C_X0_isFull G B R h0 r_2) ∧ (r_2.toInt = 0) ∧ ∃ x_7 : Int32, (x_7 = (B h0 1) + 1) ∧ (x_7.toInt = (B h0 1).toInt + 1) ∧ ∃ B_9 : AA, (B_9 = uA B h0 (upd (B h0) 1 x_7)) ∧ ∃ n_12 : Nat, ((n_12 : Int) = (B h0 1).toInt) ∧ ∃ U_16 : AA, (Fr G [31] B_9 U_16) ∧ (C_X2_become G B_9 R (R (R h0 0) n_12) p0 p1 p2 U_16) ∧ Z = U_16 ∧ r = (R (R h0 0) n_12))
  ∨ (∃ r_2 : Int32, (C_X0_isFull G B R h0 r_2) ∧ (¬ r_2.toInt = 0) ∧ ∃ U_21 : AA, (Fr G [31] B U_21) ∧ (C_X2_become G B R (R h0 3) p0 p1 p2 U_21) ∧ Z = U_21 ∧ r = (R h0 3))
def C_X0_takeOut (G : Nat → Nat) (B : AA) (R : RR) (h0 : Nat) (p0 : Int32) (Z : AA) (ZR : RR) (r : Nat) : Prop :=
  (∃ n_5 : Nat, ((n_5 : Int) = p0.toInt) ∧ ∃ i9 : Int32, ∃ R9 : RR, (1 ≤ i9.toInt ∧ p0.toInt + 1 ≤ i9.toInt ∧ i9.toInt ≤ (B h0 1).toInt) ∧ (R9 = uR R (R h0 0) (ShN (R (R h0 0)) n_5 (i9.toInt - 1).toNat)) ∧ ((B h0 1).toInt ≤ i9.toInt) ∧ ∃ x_11 : Int32, (x_11 = (B h0 1) - 1) ∧ (x_11.toInt = (B h0 1).toInt - 1) ∧ ∃ B_13 : AA, (B_13 = uA B h0 (upd (B h0) 1 x_11)) ∧ ∃ n_21 : Nat, ((n_21 : Int) = x_11.toInt) ∧ ∃ R_22 : RR, (R_22 = uR R9 (R9 h0 0) (updN (R9 (R9 h0 0)) n_21 (R9 h0 2))) ∧ ∃ R_24 : RR, (R_24 = uR R_22 h0 (updN (R_22 h0) 2 (R (R h0 0) n_5))) ∧ Z = B_13 ∧ ZR = R_24 ∧ r = (R (R h0 0) n_5))
def C_X0_copyToEnd (G : Nat → Nat) (B : AA) (R : RR) (h0 : Nat) (p0 : Int32) (Z : AA) : Prop :=
  (∃ n_6 : Nat, ((n_6 : Int) = (B h0 1).toInt) ∧ ∃ n_9 : Nat, ((n_9 : Int) = p0.toInt) ∧ ∃ U_13 : AA, (Fr G [31, 32] B U_13) ∧ (C_X2_becomeLike G B R (R (R h0 0) n_6) (R (R h0 0) n_9) U_13) ∧ ∃ x_16 : Int32, (x_16 = (B h0 1) + 1) ∧ (x_16.toInt = (B h0 1).toInt + 1) ∧ ∃ B_18 : AA, (B_18 = uA U_13 h0 (upd (U_13 h0) 1 x_16)) ∧ Z = B_18)
def C_X4_cellsOf (G : Nat → Nat) (B : AA) (R : RR) (h0 : Nat) (p0 : Int32) (r : Int32) : Prop :=
  (∃ x_3 : Int32, (x_3 = 4 * p0) ∧ ∃ x_4 : Int32, (x_4 = (B h0 3) - x_3) ∧ ∃ x_5 : Int32, (x_5 = if x_4 < 4 then x_4 else 4) ∧ r = x_5)
def C_X4_isLastNumber (G : Nat → Nat) (B : AA) (R : RR) (h0 : Nat) (p0 : Int32) (r : Int32) : Prop :=
  (∃ x_2 : Int32, (x_2 = (B h0 5) - 1) ∧ (¬ p0.toInt = x_2.toInt) ∧ r = 0)
  ∨ (∃ x_2 : Int32, (x_2 = (B h0 5) - 1) ∧ (p0.toInt = x_2.toInt) ∧ r = 1)
def C_X4_awaitsReply (G : Nat → Nat) (B : AA) (R : RR) (h0 : Nat)  (r : Int32) : Prop :=
  (((B h0 0).toInt = 2) ∧ r = 1)
  ∨ ((¬ (B h0 0).toInt = 2) ∧ (¬ (B h0 0).toInt = 3) ∧ r = 0)
  ∨ ((¬ (B h0 0).toInt = 2) ∧ ((B h0 0).toInt = 3) ∧ r = 1)
def C_X5_clear (G : Nat → Nat) (B : AA) (R : RR) (h0 : Nat)  (Z : AA) : Prop :=
  (∃ B_3 : AA, (B_3 = uA B h0 (upd (B h0) 3 0)) ∧ ∃ B_6 : AA, (B_6 = uA B_3 h0 (upd (B_3 h0) 4 0)) ∧ ∃ B_8 : AA, (B_8 = uA B_6 h0 (upd (B_6 h0) 5 0)) ∧ Z = B_8)
def C_X5_isFull (G : Nat → Nat) (B : AA) (R : RR) (h0 : Nat)  (r : Int32) : Prop :=
  ((¬ (B h0 4).toInt = 4) ∧ r = 0)
  ∨ (((B h0 4).toInt = 4) ∧ r = 1)
def C_X5_at (G : Nat → Nat) (B : AA) (R : RR) (h0 : Nat) (p0 : Int32) (r : Nat) : Prop :=
  (∃ x_4 : Int32, (x_4 = (B h0 3) + p0) ∧ (x_4.toInt = (B h0 3).toInt + p0.toInt) ∧ ∃ x_5 : Int32, (x_5 = x_4 - x_4 / 4 * 4) ∧ (x_5.toInt = x_4.toInt % 4) ∧ ∃ n_8 : Nat, ((n_8 : Int) = x_5.toInt) ∧ r = (R (R h0 2) n_8))
def C_X5_append (G : Nat → Nat) (B : AA) (R : RR) (h0 : Nat) (p0 : Int32) (p1 : Int32) (p2 : Int32) (Z : AA) (r : Nat) : Prop :=
  (∃ r_3 : Nat, (C_X5_at G B R h0 (B h0 4) r_3) ∧ ∃ B_5 : AA, (B_5 = uA B r_3 (upd (B r_3) 0 p0)) ∧ ∃ B_9 : AA, (B_9 = uA B_5 r_3 (upd (B_5 r_3) 1 (B h0 5))) ∧ ∃ B_11 : AA, (B_11 = uA B_9 r_3 (upd (B_9 r_3) 2 p1)) ∧ ∃ B_14 : AA, (B_14 = uA B_11 r_3 (upd (B_11 r_3) 3 p2)) ∧ ∃ B_16 : AA, (B_16 = uA B_14 r_3 (upd (B_14 r_3) 9 0)) ∧ ∃ x_19 : Int32, (x_19 = (B h0 5) + 1) ∧ ∃ B_20 : AA, (B_20 = uA B_16 h0 (upd (B_16 h0) 5 x_19)) ∧ ∃ x_23 : Int32, (x_23 = (B h0 4) + 1) ∧ (x_23.toInt = (B h0 4).toInt + 1) ∧ ∃ B_25 : AA, (B_25 = uA B_20 h0 (upd (B_20 h0) 4 x_23)) ∧ Z = B_25 ∧ r = r_3)
def C_X5_completeFirst (G : Nat → Nat) (B : AA) (R : RR) (h0 : Nat) (p0 : Int32) (Z : AA) : Prop :=
  (∃ r_3 : Nat, (C_X5_at G B R h0 (0 : Int32) r_3) ∧ ∃ U_6 : AA, (Fr G [5, 15] B U_6) ∧ (C_X1_complete G B R (R h0 1) (B h0 0) r_3 p0 U_6) ∧ ∃ x_10 : Int32, (x_10 = (B h0 3) + 1) ∧ (x_10.toInt = (B h0 3).toInt + 1) ∧ ∃ x_11 : Int32, (x_11 = x_10 - x_10 / 4 * 4) ∧ (x_11.toInt = x_10.toInt % 4) ∧ ∃ B_13 : AA, (B_13 = uA U_6 h0 (upd (U_6 h0) 3 x_11)) ∧ ∃ x_17 : Int32, (x_17 = (B h0 4) - 1) ∧ (x_17.toInt = (B h0 4).toInt - 1) ∧ ∃ B_19 : AA, (B_19 = uA B_13 h0 (upd (B_13 h0) 4 x_17)) ∧ Z = B_19)
def C_X5_completeAll (G : Nat → Nat) (B : AA) (R : RR) (h0 : Nat) (p0 : Int32) (Z : AA) : Prop :=
  (((B h0 4).toInt ≤ 0) ∧ Z = B)
  ∨ ((¬ (B h0 4).toInt ≤ 0) ∧ ∃ U_6 : AA, (Fr G [5, 15, 11] B U_6) ∧ (C_X5_completeFirst G B R h0 p0 U_6) ∧ ((U_6 h0 4).toInt ≤ 0) ∧ Z = U_6)
  ∨ ((¬ (B h0 4).toInt ≤ 0) ∧ ∃ U_6 : AA, (Fr G [5, 15, 11] B U_6) ∧ (C_X5_completeFirst G B R h0 p0 U_6) ∧ (¬ (U_6 h0 4).toInt ≤ 0) ∧ ∃ U_12 : AA, (Fr G [5, 15, 11] U_6 U_12) ∧ (C_X5_completeFirst G U_6 R h0 (5 : Int32) U_12) ∧ ((U_12 h0 4).toInt ≤ 0) ∧ Z = U_12)
  ∨ ((¬ (B h0 4).toInt ≤ 0) ∧ ∃ U_6 : AA, (Fr G [5, 15, 11] B U_6) ∧ (C_X5_completeFirst G B R h0 p0 U_6) ∧ (¬ (U_6 h0 4).toInt ≤ 0) ∧ ∃ U_12 : AA, (Fr G [5, 15, 11] U_6 U_12) ∧ (C_X5_completeFirst G U_6 R h0 (5 : Int32) U_12) ∧ (¬ (U_12 h0 4).toInt ≤ 0) ∧ ∃ U_18 : AA, (Fr G [5, 15, 11] U_12 U_18) ∧ (C_X5_completeFirst G U_12 R h0 (5 : Int32) U_18) ∧ ((U_18 h0 4).toInt ≤ 0) ∧ Z = U_18)
  ∨ ((¬ (B h0 4).toInt ≤ 0) ∧ ∃ U_6 : AA, (Fr G [5, 15, 11] B U_6) ∧ (C_X5_completeFirst G B R h0 p0 U_6) ∧ (¬ (U_6 h0 4).toInt ≤ 0) ∧ ∃ U_12 : AA, (Fr G [5, 15, 11] U_6 U_12) ∧ (C_X5_completeFirst G U_6 R h0 (5 : Int32) U_12) ∧ (¬ (U_12 h0 4).toInt ≤ 0) ∧ ∃ U_18 : AA, (Fr G [5, 15, 11] U_12 U_18) ∧ (C_X5_completeFirst G U_12 R h0 (5 : Int32) U_18) ∧ (¬ (U_18 h0 4).toInt ≤ 0) ∧ ∃ U_24 : AA, (Fr G [5, 15, 11] U_18 U_24) ∧ (C_X5_completeFirst G U_18 R h0 (5 : Int32) U_24) ∧ Z = U_24)
def C_X7_start (G : Nat → Nat) (B : AA) (R : RR) (h0 : Nat) (p0 : Int32) (Z : AA) : Prop :=
  (∃ B_2 : AA, (B_2 = uA B h0 (upd (B h0) 7 p0)) ∧ ∃ B_4 : AA, (B_4 = uA B_2 h0 (upd (B_2 h0) 8 p0)) ∧ ∃ B_6 : AA, (B_6 = uA B_4 h0 (upd (B_4 h0) 9 p0)) ∧ Z = B_6)
def C_X7_clear (G : Nat → Nat) (B : AA) (R : RR) (h0 : Nat)  (Z : AA) : Prop :=
  (∃ U_5 : AA, (Fr G [11] B U_5) ∧ (C_X5_clear G B R (R h0 6) U_5) ∧ ∃ U_8 : AA, (Fr G [9] U_5 U_8) ∧ (C_X7_start G U_5 R h0 (0 : Int32) U_8) ∧ ∃ B_10 : AA, (B_10 = uA U_8 h0 (upd (U_8 h0) 10 0)) ∧ ∃ B_12 : AA, (B_12 = uA B_10 h0 (upd (B_10 h0) 11 0)) ∧ ∃ B_14 : AA, (B_14 = uA B_12 h0 (upd (B_12 h0) 12 0)) ∧ ∃ B_16 : AA, (B_16 = uA B_14 h0 (upd (B_14 h0) 13 0)) ∧ Z = B_16)
def C_X7_post (G : Nat → Nat) (B : AA) (R : RR) (h0 : Nat) (p0 : Int32) (p1 : Int32) (p2 : Int32) (p3 : Int32) (p4 : Int32) (p5 : Int32) (Z : AA) (r : Int32) : Prop :=
  (∃ r_5 : Nat, ∃ U_6 : AA, (Fr G [11, 13] B U_6) ∧ (C_X5_append G B R (R h0 6) p0 p1 p2 U_6 r_5) ∧ ∃ B_10 : AA, (B_10 = uA U_6 r_5 (upd (U_6 r_5) 4 (B h0 7))) ∧ ∃ x_11 : Int32, (x_11 = ((p2 + 4) - 1) / 4) ∧ ∃ B_13 : AA, (B_13 = uA B_10 r_5 (upd (B_10 r_5) 5 x_11)) ∧ ∃ B_15 : AA, (B_15 = uA B_13 r_5 (upd (B_13 r_5) 6 p3)) ∧ ∃ B_17 : AA, (B_17 = uA B_15 r_5 (upd (B_15 r_5) 7 p4)) ∧ ∃ B_19 : AA, (B_19 = uA B_17 r_5 (upd (B_17 r_5) 8 p5)) ∧ ∃ x_24 : Int32, (x_24 = ((B h0 7) + x_11) &&& 63) ∧ ∃ B_25 : AA, (B_25 = uA B_19 h0 (upd (B_19 h0) 7 x_24)) ∧ Z = B_25 ∧ r = (U_6 r_5 1))
def C_X7_ownerOf (G : Nat → Nat) (B : AA) (R : RR) (h0 : Nat) (p0 : Int32) (r : Int32) : Prop :=
  (((B (R h0 6) 4).toInt ≤ 0) ∧ r = (-1))
  ∨ ((¬ (B (R h0 6) 4).toInt ≤ 0) ∧ ∃ r_6 : Nat, (C_X5_at G B R (R h0 6) (0 : Int32) r_6) ∧ ∃ x_8 : Int32, (x_8 = (p0 - (B r_6 4)) &&& 63) ∧ ((B r_6 5).toInt ≤ x_8.toInt) ∧ ((B (R h0 6) 4).toInt ≤ 1) ∧ r = (-1))
  ∨ ((¬ (B (R h0 6) 4).toInt ≤ 0) ∧ ∃ r_6 : Nat, (C_X5_at G B R (R h0 6) (0 : Int32) r_6) ∧ ∃ x_8 : Int32, (x_8 = (p0 - (B r_6 4)) &&& 63) ∧ ((B r_6 5).toInt ≤ x_8.toInt) ∧ (¬ (B (R h0 6) 4).toInt ≤ 1) ∧ ∃ r_13 : Nat, (C_X5_at G B R (R h0 6) (1 : Int32) r_13) ∧ ∃ x_15 : Int32, (x_15 = (p0 - (B r_13 4)) &&& 63) ∧ ((B r_13 5).toInt ≤ x_15.toInt) ∧ ((B (R h0 6) 4).toInt ≤ 2) ∧ r = (-1))
  ∨ ((¬ (B (R h0 6) 4).toInt ≤ 0) ∧ ∃ r_6 : Nat, (C_X5_at G B R (R h0 6) (0 : Int32) r_6) ∧ ∃ x_8 : Int32, (x_8 = (p0 - (B r_6 4)) &&& 63) ∧ ((B r_6 5).toInt ≤ x_8.toInt) ∧ (¬ (B (R h0 6) 4).toInt ≤ 1) ∧ ∃ r_13 : Nat, (C_X5_at G B R (R h0 6) (1 : Int32) r_13) ∧ ∃ x_15 : Int32, (x_15 = (p0 - (B r_13 4)) &&& 63) ∧ ((B r_13 5).toInt ≤ x_15.toInt) ∧ (¬ (B (R h0 6) 4).toInt ≤ 2) ∧ ∃ r_20 : Nat, (C_X5_at G B R (R h0 6) (2 : Int32) r_20) ∧ ∃ x_22 : Int32, (x_22 = (p0 - (B r_20 4)) &&& 63) ∧ ((B r_20 5).toInt ≤ x_22.toInt) ∧ ((B (R h0 6) 4).toInt ≤ 3) ∧ r = (-1))
  ∨ ((¬ (B (R h0 6) 4).toInt ≤ 0) ∧ ∃ r_6 : Nat, (C_X5_at G B R (R h0 6) (0 : Int32) r_6) ∧ ∃ x_8 : Int32, (x_8 = (p0 - (B r_6 4)) &&& 63) ∧ ((B r_6 5).toInt ≤ x_8.toInt) ∧ (¬ (B (R h0 6) 4).toInt ≤ 1) ∧ ∃ r_13 : Nat, (C_X5_at G B R (R h0 6) (1 : Int32) r_13) ∧ ∃ x_15 : Int32, (x_15 = (p0 - (B r_13 4)) &&& 63) ∧ ((B r_13 5).toInt ≤ x_15.toInt) ∧ (¬ (B (R h0 6) 4).toInt ≤ 2) ∧ ∃ r_20 : Nat, (C_X5_at G B R (R h0 6) (2 : Int32) r_20) ∧ ∃ x_22 : Int32, (x_22 = (p0 - (B r_20 4)) &&& 63) ∧ ((B r_20 5).toInt ≤ x_22.toInt) ∧ (¬ (B (R h0 6) 4).toInt ≤ 3) ∧ ∃ r_27 : Nat, (C_X5_at G B R (R h0 6) (3 : Int32) r_27) ∧ ∃ x_29 : Int32, (x_29 = (p0 - (B r_27 4)) &&& 63) ∧ ((B r_27 5).toInt ≤ x_29.toInt) ∧ r = (-1))
  ∨ ((¬ (B (R h0 6) 4).toInt ≤ 0) ∧ ∃ r_6 : Nat, (C_X5_at G B R (R h0 6) (0 : Int32) r_6) ∧ ∃ x_8 : Int32, (x_8 = (p0 - (B r_6 4)) &&& 63) ∧ ((B r_6 5).toInt ≤ x_8.toInt) ∧ (¬ (B (R h0 6) 4).toInt ≤ 1) ∧ ∃ r_13 : Nat, (C_X5_at G B R (R h0 6) (1 : Int32) r_13) ∧ ∃ x_15 : Int32, (x_15 = (p0 - (B r_13 4)) &&& 63) ∧ ((B r_13 5).toInt ≤ x_15.toInt) ∧ (¬ (B (R h0 6) 4).toInt ≤ 2) ∧ ∃ r_20 : Nat, (C_X5_at G B R (R h0 6) (2 : Int32) r_20) ∧ ∃ x_22 : Int32, (x_22 = (p0 - (B r_20 4)) &&& 63) ∧ ((B r_20 5).toInt ≤ x_22.toInt) ∧ (¬ (B (R h0 6) 4).toInt ≤ 3) ∧ ∃ r_27 : Nat, (C_X5_at G B R (R h0 6) (3 : Int32) r_27) ∧ ∃ x_29 : Int32, (x_29 = (p0 - (B r_27 4)) &&& 63) ∧ (¬ (B r_27 5).toInt ≤ x_29.toInt) ∧ r = 3)
  ∨ ((¬ (B (R h0 6) 4).toInt ≤ 0) ∧ ∃ r_6 : Nat, (C_X5_at G B R (R h0 6) (0 : Int32) r_6) ∧ ∃ x_8 : Int32, (x_8 = (p0 - (B r_6 4)) &&& 63) ∧ ((B r_6 5).toInt ≤ x_8.toInt) ∧ (¬ (B (R h0 6) 4).toInt ≤ 1) ∧ ∃ r_13 : Nat, (C_X5_at G B R (R h0 6) (1 : Int32) r_13) ∧ ∃ x_15 : Int32, (x_15 = (p0 - (B r_13 4)) &&& 63) ∧ ((B r_13 5).toInt ≤ x_15.toInt) ∧ (¬ (B (R h0 6) 4).toInt ≤ 2) ∧ ∃ r_20 : Nat, (C_X5_at G B R (R h0 6) (2 : Int32) r_20) ∧ ∃ x_22 : Int32, (x_22 = (p0 - (B r_20 4)) &&& 63) ∧ (¬ (B r_20 5).toInt ≤ x_22.toInt) ∧ r = 2)
  ∨ ((¬ (B (R h0 6) 4).toInt ≤ 0) ∧ ∃ r_6 : Nat, (C_X5_at G B R (R h0 6) (0 : Int32) r_6) ∧ ∃ x_8 : Int32, (x_8 = (p0 - (B r_6 4)) &&& 63) ∧ ((B r_6 5).toInt ≤ x_8.toInt) ∧ (¬ (B (R h0 6) 4).toInt ≤ 1) ∧ ∃ r_13 : Nat, (C_X5_at G B R (R h0 6) (1 : Int32) r_13) ∧ ∃ x_15 : Int32, (x_15 = (p0 - (B r_13 4)) &&& 63) ∧ (¬ (B r_13 5).toInt ≤ x_15.toInt) ∧ r = 1)
  ∨ ((¬ (B (R h0 6) 4).toInt ≤ 0) ∧ ∃ r_6 : Nat, (C_X5_at G B R (R h0 6) (0 : Int32) r_6) ∧ ∃ x_8 : Int32, (x_8 = (p0 - (B r_6 4)) &&& 63) ∧ (¬ (B r_6 5).toInt ≤ x_8.toInt) ∧ r = 0)
def C_X7_isOpen (G : Nat → Nat) (B : AA) (R : RR) (h0 : Nat) (p0 : Int32) (r : Int32) : Prop :=
  (∃ x_2 : Int32, (x_2 = (p0 - (B h0 8)) &&& 63) ∧ ∃ x_3 : Int32, (x_3 = ((B h0 9) - (B h0 8)) &&& 63) ∧ (x_3.toInt ≤ x_2.toInt) ∧ r = 0)
  ∨ (∃ x_2 : Int32, (x_2 = (p0 - (B h0 8)) &&& 63) ∧ ∃ x_3 : Int32, (x_3 = ((B h0 9) - (B h0 8)) &&& 63) ∧ (¬ x_3.toInt ≤ x_2.toInt) ∧ r = 1)
def C_X7_awaitsReply (G : Nat → Nat) (B : AA) (R : RR) (h0 : Nat) (p0 : Int32) (r : Int32) : Prop :=
  (∃ r_2 : Int32, (C_X7_ownerOf G B R h0 p0 r_2) ∧ (r_2.toInt = -1) ∧ r = 0)
  ∨ (∃ r_2 : Int32, (C_X7_ownerOf G B R h0 p0 r_2) ∧ (¬ r_2.toInt = -1) ∧ ∃ r_7 : Nat, (C_X5_at G B R (R h0 6) r_2 r_7) ∧ ∃ r_9 : Int32, (C_X4_awaitsReply G B R r_7 r_9) ∧ (r_9.toInt = 0) ∧ r = 0)
  ∨ (∃ r_2 : Int32, (C_X7_ownerOf G B R h0 p0 r_2) ∧ (¬ r_2.toInt = -1) ∧ ∃ r_7 : Nat, (C_X5_at G B R (R h0 6) r_2 r_7) ∧ ∃ r_9 : Int32, (C_X4_awaitsReply G B R r_7 r_9) ∧ (¬ r_9.toInt = 0) ∧ r = 1)
def C_X7_firstIsAnswered (G : Nat → Nat) (B : AA) (R : RR) (h0 : Nat)  (r : Int32) : Prop :=
  (∃ r_4 : Nat, (C_X5_at G B R (R h0 6) (0 : Int32) r_4) ∧ ((B (R h0 6) 4).toInt ≤ 0) ∧ r = 0)
  ∨ (∃ r_4 : Nat, (C_X5_at G B R (R h0 6) (0 : Int32) r_4) ∧ (¬ (B (R h0 6) 4).toInt ≤ 0) ∧ ∃ x_10 : Int32, (x_10 = ((B h0 8) - (B r_4 4)) &&& 63) ∧ (x_10.toInt < (B r_4 5).toInt) ∧ r = 0)
  ∨ (∃ r_4 : Nat, (C_X5_at G B R (R h0 6) (0 : Int32) r_4) ∧ (¬ (B (R h0 6) 4).toInt ≤ 0) ∧ ∃ x_10 : Int32, (x_10 = ((B h0 8) - (B r_4 4)) &&& 63) ∧ (¬ x_10.toInt < (B r_4 5).toInt) ∧ r = 1)
def C_X7_answer (G : Nat → Nat) (B : AA) (R : RR) (h0 : Nat) (p0 : Int32) (Z : AA) : Prop :=
  ((¬ p0.toInt = 0) ∧ ∃ x_3 : Int32, (x_3 = ((B h0 8) + p0) &&& 63) ∧ ∃ B_4 : AA, (B_4 = uA B h0 (upd (B h0) 8 x_3)) ∧ ∃ B_6 : AA, (B_6 = uA B_4 h0 (upd (B_4 h0) 10 0)) ∧ ∃ B_8 : AA, (B_8 = uA B_6 h0 (upd (B_6 h0) 11 0)) ∧ ∃ B_10 : AA, (B_10 = uA B_8 h0 (upd (B_8 h0) 12 0)) ∧ ∃ B_12 : AA, (B_12 = uA B_10 h0 (upd (B_10 h0) 13 0)) ∧ ∃ r_15 : Int32, (C_X7_firstIsAnswered G B_12 R h0 r_15) ∧ (r_15.toInt = 0) ∧ Z = B_12)
  ∨ ((¬ p0.toInt = 0) ∧ ∃ x_3 : Int32, (x_3 = ((B h0 8) + p0) &&& 63) ∧ ∃ B_4 : AA, (B_4 = uA B h0 (upd (B h0) 8 x_3)) ∧ ∃ B_6 : AA, (B_6 = uA B_4 h0 (upd (B_4 h0) 10 0)) ∧ ∃ B_8 : AA, (B_8 = uA B_6 h0 (upd (B_6 h0) 11 0)) ∧ ∃ B_10 : AA, (B_10 = uA B_8 h0 (upd (B_8 h0) 12 0)) ∧ ∃ B_12 : AA, (B_12 = uA B_10 h0 (upd (B_10 h0) 13 0)) ∧ ∃ r_15 : Int32, (C_X7_firstIsAnswered G B_12 R h0 r_15) ∧ (¬ r_15.toInt = 0) ∧ ∃ U_23 : AA, (Fr G [5, 15, 11] B_12 U_23) ∧ (C_X5_completeFirst G B_12 R (R h0 6) (0 : Int32) U_23) ∧ ∃ r_26 : Int32, (C_X7_firstIsAnswered G U_23 R h0 r_26) ∧ (r_26.toInt = 0) ∧ Z = U_23)
  ∨ ((¬ p0.toInt = 0) ∧ ∃ x_3 : Int32, (x_3 = ((B h0 8) + p0) &&& 63) ∧ ∃ B_4 : AA, (B_4 = uA B h0 (upd (B h0) 8 x_3)) ∧ ∃ B_6 : AA, (B_6 = uA B_4 h0 (upd (B_4 h0) 10 0)) ∧ ∃ B_8 : AA, (B_8 = uA B_6 h0 (upd (B_6 h0) 11 0)) ∧ ∃ B_10 : AA, (B_10 = uA B_8 h0 (upd (B_8 h0) 12 0)) ∧ ∃ B_12 : AA, (B_12 = uA B_10 h0 (upd (B_10 h0) 13 0)) ∧ ∃ r_15 : Int32, (C_X7_firstIsAnswered G B_12 R h0 r_15) ∧ (¬ r_15.toInt = 0) ∧ ∃ U_23 : AA, (Fr G [5, 15, 11] B_12 U_23) ∧ (C_X5_completeFirst G B_12 R (R h0 6) (0 : Int32) U_23) ∧ ∃ r_26 : Int32, (C_X7_firstIsAnswered G U_23 R h0 r_26) ∧ (¬ r_26.toInt = 0) ∧ ∃ U_32 : AA, (Fr G [5, 15, 11] U_23 U_32) ∧ (C_X5_completeFirst G U_23 R (R h0 6) (0 : Int32) U_32) ∧ ∃ r_35 : Int32, (C_X7_firstIsAnswered G U_32 R h0 r_35) ∧ (r_35.toInt = 0) ∧ Z = U_32)
  ∨ ((¬ p0.toInt = 0) ∧ ∃ x_3 : Int32, (x_3 = ((B h0 8) + p0) &&& 63) ∧ ∃ B_4 : AA, (B_4 = uA B h0 (upd (B h0) 8 x_3)) ∧ ∃ B_6 : AA, (B_6 = uA B_4 h0 (upd (B_4 h0) 10 0)) ∧ ∃ B_8 : AA, (B_8 = uA B_6 h0 (upd (B_6 h0) 11 0)) ∧ ∃ B_10 : AA, (B_10 = uA B_8 h0 (upd (B_8 h0) 12 0)) ∧ ∃ B_12 : AA, (B_12 = uA B_10 h0 (upd (B_10 h0) 13 0)) ∧ ∃ r_15 : Int32, (C_X7_firstIsAnswered G B_12 R h0 r_15) ∧ (¬ r_15.toInt = 0) ∧ ∃ U_23 : AA, (Fr G [5, 15, 11] B_12 U_23) ∧ (C_X5_completeFirst G B_12 R (R h0 6) (0 : Int32) U_23) ∧ ∃ r_26 : Int32, (C_X7_firstIsAnswered G U_23 R h0 r_26) ∧ (¬ r_26.toInt = 0) ∧ ∃ U_32 : AA, (Fr G [5, 15, 11] U_23 U_32) ∧ (C_X5_completeFirst G U_23 R (R h0 6) (0 : Int32) U_32) ∧ ∃ r_35 : Int32, (C_X7_firstIsAnswered G U_32 R h0 r_35) ∧ (¬ r_35.toInt = 0) ∧ ∃ U_41 : AA, (Fr G [5, 15, 11] U_32 U_41) ∧ (C_X5_completeFirst G U_32 R (R h0 6) (0 : Int32) U_41) ∧ ∃ r_44 : Int32, (C_X7_firstIsAnswered G U_41 R h0 r_44) ∧ (r_44.toInt = 0) ∧ Z = U_41)
  ∨ ((¬ p0.toInt = 0) ∧ ∃ x_3 : Int32, (x_3 = ((B h0 8) + p0) &&& 63) ∧ ∃ B_4 : AA, (B_4 = uA B h0 (upd (B h0) 8 x_3)) ∧ ∃ B_6 : AA, (B_6 = uA B_4 h0 (upd (B_4 h0) 10 0)) ∧ ∃ B_8 : AA, (B_8 = uA B_6 h0 (upd (B_6 h0) 11 0)) ∧ ∃ B_10 : AA, (B_10 = uA B_8 h0 (upd (B_8 h0) 12 0)) ∧ ∃ B_12 : AA, (B_12 = uA B_10 h0 (upd (B_10 h0) 13 0)) ∧ ∃ r_15 : Int32, (C_X7_firstIsAnswered G B_12 R h0 r_15) ∧ (¬ r_15.toInt = 0) ∧ ∃ U_23 : AA, (Fr G [5, 15, 11] B_12 U_23) ∧ (C_X5_completeFirst G B_12 R (R h0 6) (0 : Int32) U_23) ∧ ∃ r_26 : Int32, (C_X7_firstIsAnswered G U_23 R h0 r_26) ∧ (¬ r_26.toInt = 0) ∧ ∃ U_32 : AA, (Fr G [5, 15, 11] U_23 U_32) ∧ (C_X5_completeFirst G U_23 R (R h0 6) (0 : Int32) U_32) ∧ ∃ r_35 : Int32, (C_X7_firstIsAnswered G U_32 R h0 r_35) ∧ (¬ r_35.toInt = 0) ∧ ∃ U_41 : AA, (Fr G [5, 15, 11] U_32 U_41) ∧ (C_X5_completeFirst G U_32 R (R h0 6) (0 : Int32) U_41) ∧ ∃ r_44 : Int32, (C_X7_firstIsAnswered G U_41 R h0 r_44) ∧ (¬ r_44.toInt = 0) ∧ ∃ U_50 : AA, (Fr G [5, 15, 11] U_41 U_50) ∧ (C_X5_completeFirst G U_41 R (R h0 6) (0 : Int32) U_50) ∧ Z = U_50)
  ∨ ((p0.toInt = 0) ∧ Z = B)
def C_X7_takeAck (G : Nat → Nat) (B : AA) (R : RR) (h0 : Nat) (p0 : Int32) (Z : AA) : Prop :=
  (∃ r_2 : Int32, (C_X7_isOpen G B R h0 p0 r_2) ∧ (¬ r_2.toInt = 0) ∧ ∃ x_5 : Int32, (x_5 = (p0 - (B h0 8)) &&& 63) ∧ ∃ x_6 : Int32, (x_6 = x_5 + 1) ∧ (x_6.toInt = x_5.toInt + 1) ∧ ∃ i9 : Int32, (0 ≤ i9.toInt ∧ i9.toInt ≤ x_6.toInt) ∧ (∀ j : Int32, 0 ≤ j.toInt → j.toInt < i9.toInt → C_X7_awaitsReply G B R h0 ((B h0 8 + j) &&& 63) 0) ∧ (x_6.toInt ≤ i9.toInt) ∧ ∃ U_10 : AA, (Fr G [9, 11, 5, 15] B U_10) ∧ (C_X7_answer G B R h0 i9 U_10) ∧ Z = U_10)
  ∨ (∃ r_2 : Int32, (C_X7_isOpen G B R h0 p0 r_2) ∧ (¬ r_2.toInt = 0) ∧ ∃ x_5 : Int32, (x_5 = (p0 - (B h0 8)) &&& 63) ∧ ∃ x_6 : Int32, (x_6 = x_5 + 1) ∧ (x_6.toInt = x_5.toInt + 1) ∧ ∃ i9 : Int32, (0 ≤ i9.toInt ∧ i9.toInt ≤ x_6.toInt) ∧ (∀ j : Int32, 0 ≤ j.toInt → j.toInt < i9.toInt → C_X7_awaitsReply G B R h0 ((B h0 8 + j) &&& 63) 0) ∧ (¬ x_6.toInt ≤ i9.toInt) ∧ ∃ x_12 : Int32, (x_12 = ((B h0 8) + i9) &&& 63) ∧ ∃ r_13 : Int32, (C_X7_awaitsReply G B R h0 x_12 r_13) ∧ (¬ r_13.toInt = 0) ∧ ∃ U_17 : AA, (Fr G [9, 11, 5, 15] B U_17) ∧ (C_X7_answer G B R h0 i9 U_17) ∧ Z = U_17)
  ∨ (∃ r_2 : Int32, (C_X7_isOpen G B R h0 p0 r_2) ∧ (r_2.toInt = 0) ∧ Z = B)
def C_X7_rest (G : Nat → Nat) (B : AA) (R : RR) (h0 : Nat)  (Z : AA) (r : Int32) : Prop :=
  (∃ B_2 : AA, (B_2 = uA B h0 (upd (B h0) 13 1)) ∧ ∃ B_4 : AA, (B_4 = uA B_2 h0 (upd (B_2 h0) 10 0)) ∧ ∃ x_7 : Int32, (x_7 = (B h0 12) + 1) ∧ ∃ B_8 : AA, (B_8 = uA B_4 h0 (upd (B_4 h0) 12 x_7)) ∧ (x_7.toInt ≤ (B h0 5).toInt) ∧ Z = B_8 ∧ r = 0)
  ∨ (∃ B_2 : AA, (B_2 = uA B h0 (upd (B h0) 13 1)) ∧ ∃ B_4 : AA, (B_4 = uA B_2 h0 (upd (B_2 h0) 10 0)) ∧ ∃ x_7 : Int32, (x_7 = (B h0 12) + 1) ∧ ∃ B_8 : AA, (B_8 = uA B_4 h0 (upd (B_4 h0) 12 x_7)) ∧ (¬ x_7.toInt ≤ (B h0 5).toInt) ∧ Z = B_8 ∧ r = 2)
def C_X7_takeNak (G : Nat → Nat) (B : AA) (R : RR) (h0 : Nat) (p0 : Int32) (p1 : Int32) (Z : AA) (r : Int32) : Prop :=
  (∃ r_2 : Int32, (C_X7_isOpen G B R h0 p0 r_2) ∧ (¬ r_2.toInt = 0) ∧ ∃ r_4 : Int32, (r_4 = (p0 + (-1)) &&& 63) ∧ ∃ U_7 : AA, (Fr G [9, 11, 5, 15] B U_7) ∧ (C_X7_takeAck G B R h0 r_4 U_7) ∧ (p0.toInt = (U_7 h0 8).toInt) ∧ (p1.toInt = 3) ∧ Z = U_7 ∧ r = p1)
  ∨ (∃ r_2 : Int32, (C_X7_isOpen G B R h0 p0 r_2) ∧ (¬ r_2.toInt = 0) ∧ ∃ r_4 : Int32, (r_4 = (p0 + (-1)) &&& 63) ∧ ∃ U_7 : AA, (Fr G [9, 11, 5, 15] B U_7) ∧ (C_X7_takeAck G B R h0 r_4 U_7) ∧ (p0.toInt = (U_7 h0 8).toInt) ∧ (¬ p1.toInt = 3) ∧ (¬ p1.toInt = 4) ∧ ∃ B_12 : AA, (B_12 = uA U_7 h0 (upd (U_7 h0) 9 (U_7 h0 8))) ∧ (¬ p1.toInt = 2) ∧ Z = B_12 ∧ r = 0)
  ∨ (∃ r_2 : Int32, (C_X7_isOpen G B R h0 p0 r_2) ∧ (¬ r_2.toInt = 0) ∧ ∃ r_4 : Int32, (r_4 = (p0 + (-1)) &&& 63) ∧ ∃ U_7 : AA, (Fr G [9, 11, 5, 15] B U_7) ∧ (C_X7_takeAck G B R h0 r_4 U_7) ∧ (p0.toInt = (U_7 h0 8).toInt) ∧ (¬ p1.toInt = 3) ∧ (¬ p1.toInt = 4) ∧ ∃ B_12 : AA, (B_12 = uA U_7 h0 (upd (U_7 h0) 9 (U_7 h0 8))) ∧ (p1.toInt = 2) ∧ ∃ r_15 : Int32, ∃ U_16 : AA, (Fr G [9] B_12 U_16) ∧ (C_X7_rest G B_12 R h0 U_16 r_15) ∧ Z = U_16 ∧ r = r_15)
  ∨ (∃ r_2 : Int32, (C_X7_isOpen G B R h0 p0 r_2) ∧ (¬ r_2.toInt = 0) ∧ ∃ r_4 : Int32, (r_4 = (p0 + (-1)) &&& 63) ∧ ∃ U_7 : AA, (Fr G [9, 11, 5, 15] B U_7) ∧ (C_X7_takeAck G B R h0 r_4 U_7) ∧ (p0.toInt = (U_7 h0 8).toInt) ∧ (¬ p1.toInt = 3) ∧ (p1.toInt = 4) ∧ Z = U_7 ∧ r = p1)
  ∨ (∃ r_2 : Int32, (C_X7_isOpen G B R h0 p0 r_2) ∧ (¬ r_2.toInt = 0) ∧ ∃ r_4 : Int32, (r_4 = (p0 + (-1)) &&& 63) ∧ ∃ U_7 : AA, (Fr G [9, 11, 5, 15] B U_7) ∧ (C_X7_takeAck G B R h0 r_4 U_7) ∧ (¬ p0.toInt = (U_7 h0 8).toInt) ∧ Z = U_7 ∧ r = 0)
  ∨ (∃ r_2 : Int32, (C_X7_isOpen G B R h0 p0 r_2) ∧ (r_2.toInt = 0) ∧ Z = B ∧ r = 0)
def C_X7_sendPart (G : Nat → Nat) (B : AA) (R : RR) (h0 : Nat) (p0 : Nat) (p1 : Int32) (Z : AA) : Prop :=
  (∃ x_5 : Int32, (x_5 = ((B p0 4) + p1) &&& 63) ∧ ∃ r_7 : Nat, ∃ U_8 : AA, (Fr G [4, 31] B U_8) ∧ (C_X0_carry G B R (R h0 2) (B h0 0) (B p0 0) x_5 U_8 r_7) ∧ ∃ x_9 : Int32, (x_9 = 4 * p1) ∧ (x_9.toInt = 4 * p1.toInt) ∧ (¬ (B p0 0).toInt = 0) ∧ ∃ B_15 : AA, (B_15 = uA U_8 r_7 (upd (U_8 r_7) 4 (B p0 6))) ∧ ∃ x_18 : Int32, (x_18 = (B p0 7) + x_9) ∧ ∃ B_20 : AA, (B_20 = uA B_15 r_7 (upd (B_15 r_7) 5 x_18)) ∧ (¬ (B p0 0).toInt = 2) ∧ (¬ (B p0 0).toInt = 3) ∧ ∃ x_28 : Int32, (x_28 = (B p0 2) + x_9) ∧ ∃ r_29 : Int32, (C_X4_cellsOf G B_20 R p0 p1 r_29) ∧ ∃ U_32 : AA, (Fr G [31, 32] B_20 U_32) ∧ (C_X2_load G B_20 R r_7 (R h0 1) x_28 r_29 U_32) ∧ Z = U_32)
  ∨ (∃ x_5 : Int32, (x_5 = ((B p0 4) + p1) &&& 63) ∧ ∃ r_7 : Nat, ∃ U_8 : AA, (Fr G [4, 31] B U_8) ∧ (C_X0_carry G B R (R h0 2) (B h0 0) (B p0 0) x_5 U_8 r_7) ∧ ∃ x_9 : Int32, (x_9 = 4 * p1) ∧ (x_9.toInt = 4 * p1.toInt) ∧ (¬ (B p0 0).toInt = 0) ∧ ∃ B_15 : AA, (B_15 = uA U_8 r_7 (upd (U_8 r_7) 4 (B p0 6))) ∧ ∃ x_18 : Int32, (x_18 = (B p0 7) + x_9) ∧ ∃ B_20 : AA, (B_20 = uA B_15 r_7 (upd (B_15 r_7) 5 x_18)) ∧ (¬ (B p0 0).toInt = 2) ∧ ((B p0 0).toInt = 3) ∧ ∃ B_35 : AA, (B_35 = uA B_20 r_7 (upd (B_20 r_7) 6 (B p0 8))) ∧ Z = B_35)
  ∨ (∃ x_5 : Int32, (x_5 = ((B p0 4) + p1) &&& 63) ∧ ∃ r_7 : Nat, ∃ U_8 : AA, (Fr G [4, 31] B U_8) ∧ (C_X0_carry G B R (R h0 2) (B h0 0) (B p0 0) x_5 U_8 r_7) ∧ ∃ x_9 : Int32, (x_9 = 4 * p1) ∧ (x_9.toInt = 4 * p1.toInt) ∧ (¬ (B p0 0).toInt = 0) ∧ ∃ B_15 : AA, (B_15 = uA U_8 r_7 (upd (U_8 r_7) 4 (B p0 6))) ∧ ∃ x_18 : Int32, (x_18 = (B p0 7) + x_9) ∧ ∃ B_20 : AA, (B_20 = uA B_15 r_7 (upd (B_15 r_7) 5 x_18)) ∧ ((B p0 0).toInt = 2) ∧ ∃ x_38 : Int32, (x_38 = (B p0 3) - x_9) ∧ (x_38.toInt = (B p0 3).toInt - x_9.toInt) ∧ ∃ B_41 : AA, (B_41 = uA B_20 r_7 (upd (B_20 r_7) 3 x_38)) ∧ Z = B_41)
  ∨ (∃ x_5 : Int32, (x_5 = ((B p0 4) + p1) &&& 63) ∧ ∃ r_7 : Nat, ∃ U_8 : AA, (Fr G [4, 31] B U_8) ∧ (C_X0_carry G B R (R h0 2) (B h0 0) (B p0 0) x_5 U_8 r_7) ∧ ∃ x_9 : Int32, (x_9 = 4 * p1) ∧ (x_9.toInt = 4 * p1.toInt) ∧ ((B p0 0).toInt = 0) ∧ (¬ p1.toInt = 0) ∧ ∃ r_43 : Int32, (C_X4_isLastNumber G U_8 R p0 p1 r_43) ∧ (r_43.toInt = 0) ∧ ∃ B_46 : AA, (B_46 = uA U_8 r_7 (upd (U_8 r_7) 4 0)) ∧ ∃ x_54 : Int32, (x_54 = (B p0 2) + x_9) ∧ ∃ r_55 : Int32, (C_X4_cellsOf G B_46 R p0 p1 r_55) ∧ ∃ U_58 : AA, (Fr G [31, 32] B_46 U_58) ∧ (C_X2_load G B_46 R r_7 (R h0 1) x_54 r_55 U_58) ∧ Z = U_58)
  ∨ (∃ x_5 : Int32, (x_5 = ((B p0 4) + p1) &&& 63) ∧ ∃ r_7 : Nat, ∃ U_8 : AA, (Fr G [4, 31] B U_8) ∧ (C_X0_carry G B R (R h0 2) (B h0 0) (B p0 0) x_5 U_8 r_7) ∧ ∃ x_9 : Int32, (x_9 = 4 * p1) ∧ (x_9.toInt = 4 * p1.toInt) ∧ ((B p0 0).toInt = 0) ∧ (¬ p1.toInt = 0) ∧ ∃ r_43 : Int32, (C_X4_isLastNumber G U_8 R p0 p1 r_43) ∧ (¬ r_43.toInt = 0) ∧ ∃ B_60 : AA, (B_60 = uA U_8 r_7 (upd (U_8 r_7) 4 2)) ∧ ∃ x_68 : Int32, (x_68 = (B p0 2) + x_9) ∧ ∃ r_69 : Int32, (C_X4_cellsOf G B_60 R p0 p1 r_69) ∧ ∃ U_72 : AA, (Fr G [31, 32] B_60 U_72) ∧ (C_X2_load G B_60 R r_7 (R h0 1) x_68 r_69 U_72) ∧ Z = U_72)
  ∨ (∃ x_5 : Int32, (x_5 = ((B p0 4) + p1) &&& 63) ∧ ∃ r_7 : Nat, ∃ U_8 : AA, (Fr G [4, 31] B U_8) ∧ (C_X0_carry G B R (R h0 2) (B h0 0) (B p0 0) x_5 U_8 r_7) ∧ ∃ x_9 : Int32, (x_9 = 4 * p1) ∧ (x_9.toInt = 4 * p1.toInt) ∧ ((B p0 0).toInt = 0) ∧ (p1.toInt = 0) ∧ ∃ r_73 : Int32, (C_X4_isLastNumber G U_8 R p0 p1 r_73) ∧ (r_73.toInt = 0) ∧ ∃ B_76 : AA, (B_76 = uA U_8 r_7 (upd (U_8 r_7) 4 1)) ∧ ∃ x_84 : Int32, (x_84 = (B p0 2) + x_9) ∧ ∃ r_85 : Int32, (C_X4_cellsOf G B_76 R p0 p1 r_85) ∧ ∃ U_88 : AA, (Fr G [31, 32] B_76 U_88) ∧ (C_X2_load G B_76 R r_7 (R h0 1) x_84 r_85 U_88) ∧ Z = U_88)
  ∨ (∃ x_5 : Int32, (x_5 = ((B p0 4) + p1) &&& 63) ∧ ∃ r_7 : Nat, ∃ U_8 : AA, (Fr G [4, 31] B U_8) ∧ (C_X0_carry G B R (R h0 2) (B h0 0) (B p0 0) x_5 U_8 r_7) ∧ ∃ x_9 : Int32, (x_9 = 4 * p1) ∧ (x_9.toInt = 4 * p1.toInt) ∧ ((B p0 0).toInt = 0) ∧ (p1.toInt = 0) ∧ ∃ r_73 : Int32, (C_X4_isLastNumber G U_8 R p0 p1 r_73) ∧ (¬ r_73.toInt = 0) ∧ ∃ B_90 : AA, (B_90 = uA U_8 r_7 (upd (U_8 r_7) 4 3)) ∧ ∃ x_98 : Int32, (x_98 = (B p0 2) + x_9) ∧ ∃ r_99 : Int32, (C_X4_cellsOf G B_90 R p0 p1 r_99) ∧ ∃ U_102 : AA, (Fr G [31, 32] B_90 U_102) ∧ (C_X2_load G B_90 R r_7 (R h0 1) x_98 r_99 U_102) ∧ Z = U_102)
def C_X7_sendNext (G : Nat → Nat) (B : AA) (R : RR) (h0 : Nat)  (Z : AA) (r : Int32) : Prop :=
  (∃ r_2 : Int32, (C_X7_ownerOf G B R h0 (B h0 9) r_2) ∧ (¬ (B h0 13).toInt = 0) ∧ Z = B ∧ r = (-1))
  ∨ (∃ r_2 : Int32, (C_X7_ownerOf G B R h0 (B h0 9) r_2) ∧ ((B h0 13).toInt = 0) ∧ (¬ r_2.toInt = -1) ∧ ∃ r_8 : Nat, (C_X5_at G B R (R h0 6) r_2 r_8) ∧ ∃ x_11 : Int32, (x_11 = ((B h0 9) - (B r_8 4)) &&& 63) ∧ (¬ (B r_8 0).toInt = 2) ∧ ∃ x_13 : Int32, (x_13 = ((B h0 9) - (B h0 8)) &&& 63) ∧ ∃ x_14 : Int32, (x_14 = x_13 + 1) ∧ (x_14.toInt = x_13.toInt + 1) ∧ (x_14.toInt ≤ 8) ∧ ∃ U_17 : AA, (Fr G [4, 31, 32] B U_17) ∧ (C_X7_sendPart G B R h0 r_8 x_11 U_17) ∧ (¬ (B h0 9).toInt = (B h0 8).toInt) ∧ ∃ x_22 : Int32, (x_22 = ((B h0 9) + 1) &&& 63) ∧ ∃ B_23 : AA, (B_23 = uA U_17 h0 (upd (U_17 h0) 9 x_22)) ∧ Z = B_23 ∧ r = (B h0 9))
  ∨ (∃ r_2 : Int32, (C_X7_ownerOf G B R h0 (B h0 9) r_2) ∧ ((B h0 13).toInt = 0) ∧ (¬ r_2.toInt = -1) ∧ ∃ r_8 : Nat, (C_X5_at G B R (R h0 6) r_2 r_8) ∧ ∃ x_11 : Int32, (x_11 = ((B h0 9) - (B r_8 4)) &&& 63) ∧ (¬ (B r_8 0).toInt = 2) ∧ ∃ x_13 : Int32, (x_13 = ((B h0 9) - (B h0 8)) &&& 63) ∧ ∃ x_14 : Int32, (x_14 = x_13 + 1) ∧ (x_14.toInt = x_13.toInt + 1) ∧ (x_14.toInt ≤ 8) ∧ ∃ U_17 : AA, (Fr G [4, 31, 32] B U_17) ∧ (C_X7_sendPart G B R h0 r_8 x_11 U_17) ∧ ((B h0 9).toInt = (B h0 8).toInt) ∧ ∃ B_24 : AA, (B_24 = uA U_17 h0 (upd (U_17 h0) 10 0)) ∧ ∃ x_27 : Int32, (x_27 = ((B h0 9) + 1) &&& 63) ∧ ∃ B_28 : AA, (B_28 = uA B_24 h0 (upd (B_24 h0) 9 x_27)) ∧ Z = B_28 ∧ r = (B h0 9))
  ∨ (∃ r_2 : Int32, (C_X7_ownerOf G B R h0 (B h0 9) r_2) ∧ ((B h0 13).toInt = 0) ∧ (¬ r_2.toInt = -1) ∧ ∃ r_8 : Nat, (C_X5_at G B R (R h0 6) r_2 r_8) ∧ ∃ x_11 : Int32, (x_11 = ((B h0 9) - (B r_8 4)) &&& 63) ∧ (¬ (B r_8 0).toInt = 2) ∧ ∃ x_13 : Int32, (x_13 = ((B h0 9) - (B h0 8)) &&& 63) ∧ ∃ x_14 : Int32, (x_14 = x_13 + 1) ∧ (x_14.toInt = x_13.toInt + 1) ∧ (¬ x_14.toInt ≤ 8) ∧ Z = B ∧ r = (-1))
  ∨ (∃ r_2 : Int32, (C_X7_ownerOf G B R h0 (B h0 9) r_2) ∧ ((B h0 13).toInt = 0) ∧ (¬ r_2.toInt = -1) ∧ ∃ r_8 : Nat, (C_X5_at G B R (R h0 6) r_2 r_8) ∧ ∃ x_11 : Int32, (x_11 = ((B h0 9) - (B r_8 4)) &&& 63) ∧ ((B r_8 0).toInt = 2) ∧ ∃ x_29 : Int32, (x_29 = (B r_8 5) - x_11) ∧ ∃ x_30 : Int32, (x_30 = ((B h0 9) - (B h0 8)) &&& 63) ∧ ∃ x_31 : Int32, (x_31 = x_30 + x_29) ∧ (x_31.toInt ≤ 8) ∧ ∃ U_34 : AA, (Fr G [4, 31, 32] B U_34) ∧ (C_X7_sendPart G B R h0 r_8 x_11 U_34) ∧ (¬ (B h0 9).toInt = (B h0 8).toInt) ∧ ∃ x_39 : Int32, (x_39 = ((B h0 9) + x_29) &&& 63) ∧ ∃ B_40 : AA, (B_40 = uA U_34 h0 (upd (U_34 h0) 9 x_39)) ∧ Z = B_40 ∧ r = (B h0 9))
  ∨ (∃ r_2 : Int32, (C_X7_ownerOf G B R h0 (B h0 9) r_2) ∧ ((B h0 13).toInt = 0) ∧ (¬ r_2.toInt = -1) ∧ ∃ r_8 : Nat, (C_X5_at G B R (R h0 6) r_2 r_8) ∧ ∃ x_11 : Int32, (x_11 = ((B h0 9) - (B r_8 4)) &&& 63) ∧ ((B r_8 0).toInt = 2) ∧ ∃ x_29 : Int32, (x_29 = (B r_8 5) - x_11) ∧ ∃ x_30 : Int32, (x_30 = ((B h0 9) - (B h0 8)) &&& 63) ∧ ∃ x_31 : Int32, (x_31 = x_30 + x_29) ∧ (x_31.toInt ≤ 8) ∧ ∃ U_34 : AA, (Fr G [4, 31, 32] B U_34) ∧ (C_X7_sendPart G B R h0 r_8 x_11 U_34) ∧ ((B h0 9).toInt = (B h0 8).toInt) ∧ ∃ B_41 : AA, (B_41 = uA U_34 h0 (upd (U_34 h0) 10 0)) ∧ ∃ x_44 : Int32, (x_44 = ((B h0 9) + x_29) &&& 63) ∧ ∃ B_45 : AA, (B_45 = uA B_41 h0 (upd (B_41 h0) 9 x_44)) ∧ Z = B_45 ∧ r = (B h0 9))
  ∨ (∃ r_2 : Int32, (C_X7_ownerOf G B R h0 (B h0 9) r_2) ∧ ((B h0 13).toInt = 0) ∧ (¬ r_2.toInt = -1) ∧ ∃ r_8 : Nat, (C_X5_at G B R (R h0 6) r_2 r_8) ∧ ∃ x_11 : Int32, (x_11 = ((B h0 9) - (B r_8 4)) &&& 63) ∧ ((B r_8 0).toInt = 2) ∧ ∃ x_29 : Int32, (x_29 = (B r_8 5) - x_11) ∧ ∃ x_30 : Int32, (x_30 = ((B h0 9) - (B h0 8)) &&& 63) ∧ ∃ x_31 : Int32, (x_31 = x_30 + x_29) ∧ (¬ x_31.toInt ≤ 8) ∧ Z = B ∧ r = (-1))
  ∨ (∃ r_2 : Int32, (C_X7_ownerOf G B R h0 (B h0 9) r_2) ∧ ((B h0 13).toInt = 0) ∧ (r_2.toInt = -1) ∧ Z = B ∧ r = (-1))
def C_X7_takeReply (G : Nat → Nat) (B : AA) (R : RR) (h0 : Nat) (p0 : Nat) (Z : AA) : Prop :=
  ((¬ (B p0 2).toInt = (B h0 8).toInt) ∧ Z = B)
  ∨ (((B p0 2).toInt = (B h0 8).toInt) ∧ ((B h0 9).toInt = (B h0 8).toInt) ∧ Z = B)
  ∨ (((B p0 2).toInt = (B h0 8).toInt) ∧ (¬ (B h0 9).toInt = (B h0 8).toInt) ∧ ∃ r_5 : Int32, (C_X7_awaitsReply G B R h0 (B h0 8) r_5) ∧ (¬ r_5.toInt = 0) ∧ ∃ r_10 : Nat, (C_X5_at G B R (R h0 6) (0 : Int32) r_10) ∧ ∃ x_13 : Int32, (x_13 = ((B h0 8) - (B r_10 4)) &&& 63) ∧ ∃ x_15 : Int32, (x_15 = 4 * x_13) ∧ (x_15.toInt = 4 * x_13.toInt) ∧ ∃ x_16 : Int32, (x_16 = (B r_10 2) + x_15) ∧ ∃ r_17 : Int32, (C_X4_cellsOf G B R r_10 x_13 r_17) ∧ ∃ U_20 : AA, (Fr G [14] B U_20) ∧ (C_X2_unload G B R p0 (R h0 1) x_16 r_17 U_20) ∧ ∃ U_23 : AA, (Fr G [9, 11, 5, 15] U_20 U_23) ∧ (C_X7_answer G U_20 R h0 (1 : Int32) U_23) ∧ Z = U_23)
  ∨ (((B p0 2).toInt = (B h0 8).toInt) ∧ (¬ (B h0 9).toInt = (B h0 8).toInt) ∧ ∃ r_5 : Int32, (C_X7_awaitsReply G B R h0 (B h0 8) r_5) ∧ (r_5.toInt = 0) ∧ Z = B)
abbrev C_X7_waitsTooLong_s1 (B : AA) (h0 : Nat) (Z : AA) (r : Int32) (x_3 : Int32) : Prop := (x_3 = (B h0 10) + 1) ∧ ∃ B_4 : AA, (B_4 = uA B h0 (upd (B h0) 10 x_3)) ∧ ((B h0 13).toInt = 0) ∧ ((B h0 3).toInt ≤ x_3.toInt) ∧ ∃ B_11 : AA, (B_11 = uA B_4 h0 (upd (B_4 h0) 10 0)) ∧ ((B h0 13).toInt = 0) ∧ (∃ x_16 : Int32, (x_16 = (B h0 11) + 1) ∧ ∃ B_17 : AA, (B_17 = uA B_11 h0 (upd (B_11 h0) 11 x_16)) ∧ (x_16.toInt ≤ (B h0 4).toInt) ∧ ∃ B_23 : AA, (B_23 = uA B_17 h0 (upd (B_17 h0) 9 (B h0 8))) ∧ (Z = B_23) ∧ (r = 0))
abbrev C_X7_waitsTooLong_s2 (B : AA) (h0 : Nat) (Z : AA) (r : Int32) : Prop := (¬ (B h0 9).toInt = (B h0 8).toInt) ∧ ∃ x_3 : Int32, (x_3 = (B h0 10) + 1) ∧ ∃ B_4 : AA, (B_4 = uA B h0 (upd (B h0) 10 x_3)) ∧ ((B h0 13).toInt = 0) ∧ ((B h0 3).toInt ≤ x_3.toInt) ∧ ∃ B_11 : AA, ((B_11 = uA B_4 h0 (upd (B_4 h0) 10 0)) ∧ ((B h0 13).toInt = 0) ∧ ∃ x_16 : Int32, (x_16 = (B h0 11) + 1) ∧ ∃ B_17 : AA, (B_17 = uA B_11 h0 (upd (B_11 h0) 11 x_16)) ∧ (¬ x_16.toInt ≤ (B h0 4).toInt) ∧ (Z = B_17) ∧ (r = 1))
abbrev C_X7_waitsTooLong_s3 (B : AA) (h0 : Nat) (Z : AA) (r : Int32) (x_3 : Int32) : Prop := (x_3 = (B h0 10) + 1) ∧ ∃ B_4 : AA, (B_4 = uA B h0 (upd (B h0) 10 x_3)) ∧ (¬ (B h0 13).toInt = 0) ∧ (3 ≤ x_3.toInt) ∧ ∃ B_26 : AA, (B_26 = uA B_4 h0 (upd (B_4 h0) 10 0)) ∧ ((B h0 13).toInt = 0) ∧ (∃ x_31 : Int32, (x_31 = (B h0 11) + 1) ∧ ∃ B_32 : AA, (B_32 = uA B_26 h0 (upd (B_26 h0) 11 x_31)) ∧ (x_31.toInt ≤ (B h0 4).toInt) ∧ ∃ B_38 : AA, (B_38 = uA B_32 h0 (upd (B_32 h0) 9 (B h0 8))) ∧ (Z = B_38) ∧ (r = 0))
abbrev C_X7_waitsTooLong_s4 (B : AA) (h0 : Nat) (Z : AA) (r : Int32) : Prop := (¬ (B h0 9).toInt = (B h0 8).toInt) ∧ ∃ x_3 : Int32, (x_3 = (B h0 10) + 1) ∧ ∃ B_4 : AA, (B_4 = uA B h0 (upd (B h0) 10 x_3)) ∧ (¬ (B h0 13).toInt = 0) ∧ (3 ≤ x_3.toInt) ∧ ∃ B_26 : AA, ((B_26 = uA B_4 h0 (upd (B_4 h0) 10 0)) ∧ ((B h0 13).toInt = 0) ∧ ∃ x_31 : Int32, (x_31 = (B h0 11) + 1) ∧ ∃ B_32 : AA, (B_32 = uA B_26 h0 (upd (B_26 h0) 11 x_31)) ∧ (¬ x_31.toInt ≤ (B h0 4).toInt) ∧ (Z = B_32) ∧ (r = 1))
abbrev C_X7_waitsTooLong_s5 (B : AA) (h0 : Nat) (Z : AA) (r : Int32) (x_41 : Int32) : Prop := (x_41 = (B h0 10) + 1) ∧ ∃ B_42 : AA, (B_42 = uA B h0 (upd (B h0) 10 x_41)) ∧ ((B h0 13).toInt = 0) ∧ ((B h0 3).toInt ≤ x_41.toInt) ∧ ∃ B_49 : AA, (B_49 = uA B_42 h0 (upd (B_42 h0) 10 0)) ∧ ((B h0 13).toInt = 0) ∧ (∃ x_54 : Int32, (x_54 = (B h0 11) + 1) ∧ ∃ B_55 : AA, (B_55 = uA B_49 h0 (upd (B_49 h0) 11 x_54)) ∧ (x_54.toInt ≤ (B h0 4).toInt) ∧ ∃ B_61 : AA, (B_61 = uA B_55 h0 (upd (B_55 h0) 9 (B h0 8))) ∧ (Z = B_61) ∧ (r = 0))
abbrev C_X7_waitsTooLong_s6 (B : AA) (h0 : Nat) (Z : AA) (r : Int32) : Prop := (¬ (B h0 13).toInt = 0) ∧ ∃ x_41 : Int32, (x_41 = (B h0 10) + 1) ∧ ∃ B_42 : AA, (B_42 = uA B h0 (upd (B h0) 10 x_41)) ∧ ((B h0 13).toInt = 0) ∧ ((B h0 3).toInt ≤ x_41.toInt) ∧ ∃ B_49 : AA, ((B_49 = uA B_42 h0 (upd (B_42 h0) 10 0)) ∧ ((B h0 13).toInt = 0) ∧ ∃ x_54 : Int32, (x_54 = (B h0 11) + 1) ∧ ∃ B_55 : AA, (B_55 = uA B_49 h0 (upd (B_49 h0) 11 x_54)) ∧ (¬ x_54.toInt ≤ (B h0 4).toInt) ∧ (Z = B_55) ∧ (r = 1))
abbrev C_X7_waitsTooLong_s7 (B : AA) (h0 : Nat) (Z : AA) (r : Int32) (x_41 : Int32) : Prop := (x_41 = (B h0 10) + 1) ∧ ∃ B_42 : AA, (B_42 = uA B h0 (upd (B h0) 10 x_41)) ∧ (¬ (B h0 13).toInt = 0) ∧ (3 ≤ x_41.toInt) ∧ ∃ B_64 : AA, (B_64 = uA B_42 h0 (upd (B_42 h0) 10 0)) ∧ ((B h0 13).toInt = 0) ∧ (∃ x_69 : Int32, (x_69 = (B h0 11) + 1) ∧ ∃ B_70 : AA, (B_70 = uA B_64 h0 (upd (B_64 h0) 11 x_69)) ∧ (x_69.toInt ≤ (B h0 4).toInt) ∧ ∃ B_76 : AA, (B_76 = uA B_70 h0 (upd (B_70 h0) 9 (B h0 8))) ∧ (Z = B_76) ∧ (r = 0))
abbrev C_X7_waitsTooLong_s8 (B : AA) (h0 : Nat) (Z : AA) (r : Int32) : Prop := (¬ (B h0 13).toInt = 0) ∧ ∃ x_41 : Int32, (x_41 = (B h0 10) + 1) ∧ ∃ B_42 : AA, (B_42 = uA B h0 (upd (B h0) 10 x_41)) ∧ (¬ (B h0 13).toInt = 0) ∧ (3 ≤ x_41.toInt) ∧ ∃ B_64 : AA, ((B_64 = uA B_42 h0 (upd (B_42 h0) 10 0)) ∧ ((B h0 13).toInt = 0) ∧ ∃ x_69 : Int32, (x_69 = (B h0 11) + 1) ∧ ∃ B_70 : AA, (B_70 = uA B_64 h0 (upd (B_64 h0) 11 x_69)) ∧ (¬ x_69.toInt ≤ (B h0 4).toInt) ∧ (Z = B_70) ∧ (r = 1))
def C_X7_waitsTooLong (G : Nat → Nat) (B : AA) (R : RR) (h0 : Nat)  (Z : AA) (r : Int32) : Prop := ((¬ (B h0 9).toInt = (B h0 8).toInt) ∧ ∃ x_3 : Int32, (C_X7_waitsTooLong_s1 B h0 Z r x_3)) ∨ (C_X7_waitsTooLong_s2 B h0 Z r) ∨ ((¬ (B h0 9).toInt = (B h0 8).toInt) ∧ ∃ x_3 : Int32, (x_3 = (B h0 10) + 1) ∧ ∃ B_4 : AA, (B_4 = uA B h0 (upd (B h0) 10 x_3)) ∧ (((B h0 13).toInt = 0) ∧ ((B h0 3).toInt ≤ x_3.toInt) ∧ ∃ B_11 : AA, (B_11 = uA B_4 h0 (upd (B_4 h0) 10 0)) ∧ (¬ (B h0 13).toInt = 0) ∧ ∃ B_24 : AA, (B_24 = uA B_11 h0 (upd (B_11 h0) 13 0)) ∧ (Z = B_24) ∧ (r = 0))) ∨ ((¬ (B h0 9).toInt = (B h0 8).toInt) ∧ ∃ x_3 : Int32, (x_3 = (B h0 10) + 1) ∧ ∃ B_4 : AA, (B_4 = uA B h0 (upd (B h0) 10 x_3)) ∧ ((B h0 13).toInt = 0) ∧ (¬ (B h0 3).toInt ≤ x_3.toInt) ∧ (Z = B_4) ∧ (r = 0)) ∨ ((¬ (B h0 9).toInt = (B h0 8).toInt) ∧ ∃ x_3 : Int32, (C_X7_waitsTooLong_s3 B h0 Z r x_3)) ∨ (C_X7_waitsTooLong_s4 B h0 Z r) ∨ ((¬ (B h0 9).toInt = (B h0 8).toInt) ∧ ∃ x_3 : Int32, (x_3 = (B h0 10) + 1) ∧ ∃ B_4 : AA, (B_4 = uA B h0 (upd (B h0) 10 x_3)) ∧ ((¬ (B h0 13).toInt = 0) ∧ (3 ≤ x_3.toInt) ∧ ∃ B_26 : AA, (B_26 = uA B_4 h0 (upd (B_4 h0) 10 0)) ∧ (¬ (B h0 13).toInt = 0) ∧ ∃ B_39 : AA, (B_39 = uA B_26 h0 (upd (B_26 h0) 13 0)) ∧ (Z = B_39) ∧ (r = 0))) ∨ ((¬ (B h0 9).toInt = (B h0 8).toInt) ∧ ∃ x_3 : Int32, (x_3 = (B h0 10) + 1) ∧ ∃ B_4 : AA, (B_4 = uA B h0 (upd (B h0) 10 x_3)) ∧ (¬ (B h0 13).toInt = 0) ∧ (¬ 3 ≤ x_3.toInt) ∧ (Z = B_4) ∧ (r = 0)) ∨ (((B h0 9).toInt = (B h0 8).toInt) ∧ (¬ (B h0 13).toInt = 0) ∧ ∃ x_41 : Int32, (C_X7_waitsTooLong_s5 B h0 Z r x_41)) ∨ (((B h0 9).toInt = (B h0 8).toInt) ∧ (C_X7_waitsTooLong_s6 B h0 Z r)) ∨ (((B h0 9).toInt = (B h0 8).toInt) ∧ (¬ (B h0 13).toInt = 0) ∧ ∃ x_41 : Int32, (x_41 = (B h0 10) + 1) ∧ ∃ B_42 : AA, (B_42 = uA B h0 (upd (B h0) 10 x_41)) ∧ (((B h0 13).toInt = 0) ∧ ((B h0 3).toInt ≤ x_41.toInt) ∧ ∃ B_49 : AA, (B_49 = uA B_42 h0 (upd (B_42 h0) 10 0)) ∧ (¬ (B h0 13).toInt = 0) ∧ ∃ B_62 : AA, (B_62 = uA B_49 h0 (upd (B_49 h0) 13 0)) ∧ (Z = B_62) ∧ (r = 0))) ∨ (((B h0 9).toInt = (B h0 8).toInt) ∧ ((¬ (B h0 13).toInt = 0) ∧ ∃ x_41 : Int32, (x_41 = (B h0 10) + 1) ∧ ∃ B_42 : AA, (B_42 = uA B h0 (upd (B h0) 10 x_41)) ∧ ((B h0 13).toInt = 0) ∧ (¬ (B h0 3).toInt ≤ x_41.toInt) ∧ (Z = B_42) ∧ (r = 0))) ∨ (((B h0 9).toInt = (B h0 8).toInt) ∧ (¬ (B h0 13).toInt = 0) ∧ ∃ x_41 : Int32, (C_X7_waitsTooLong_s7 B h0 Z r x_41)) ∨ (((B h0 9).toInt = (B h0 8).toInt) ∧ (C_X7_waitsTooLong_s8 B h0 Z r)) ∨ (((B h0 9).toInt = (B h0 8).toInt) ∧ (¬ (B h0 13).toInt = 0) ∧ ∃ x_41 : Int32, (x_41 = (B h0 10) + 1) ∧ ∃ B_42 : AA, (B_42 = uA B h0 (upd (B h0) 10 x_41)) ∧ ((¬ (B h0 13).toInt = 0) ∧ (3 ≤ x_41.toInt) ∧ ∃ B_64 : AA, (B_64 = uA B_42 h0 (upd (B_42 h0) 10 0)) ∧ (¬ (B h0 13).toInt = 0) ∧ ∃ B_77 : AA, (B_77 = uA B_64 h0 (upd (B_64 h0) 13 0)) ∧ (Z = B_77) ∧ (r = 0))) ∨ (((B h0 9).toInt = (B h0 8).toInt) ∧ ((¬ (B h0 13).toInt = 0) ∧ ∃ x_41 : Int32, (x_41 = (B h0 10) + 1) ∧ ∃ B_42 : AA, (B_42 = uA B h0 (upd (B h0) 10 x_41)) ∧ (¬ (B h0 13).toInt = 0) ∧ (¬ 3 ≤ x_41.toInt) ∧ (Z = B_42) ∧ (r = 0))) ∨ (((B h0 9).toInt = (B h0 8).toInt) ∧ ((B h0 13).toInt = 0) ∧ (Z = B) ∧ (r = 0))
def C_X8_forgetAdds (G : Nat → Nat) (B : AA) (R : RR) (h0 : Nat)  (Z : AA) : Prop :=
  (∃ B_5 : AA, (B_5 = uA B (R h0 7) (upd (B (R h0 7)) 0 (-1))) ∧ ∃ B_9 : AA, (B_9 = uA B_5 (R h0 8) (upd (B_5 (R h0 8)) 0 0)) ∧ ∃ B_13 : AA, (B_13 = uA B_9 (R h0 7) (upd (B_9 (R h0 7)) 1 (-1))) ∧ ∃ B_16 : AA, (B_16 = uA B_13 (R h0 8) (upd (B_13 (R h0 8)) 1 0)) ∧ Z = B_16)
def C_X8_clear (G : Nat → Nat) (B : AA) (R : RR) (h0 : Nat)  (Z : AA) : Prop :=
  (∃ U_5 : AA, (Fr G [11] B U_5) ∧ (C_X5_clear G B R (R h0 3) U_5) ∧ ∃ B_7 : AA, (B_7 = uA U_5 h0 (upd (U_5 h0) 4 0)) ∧ ∃ B_9 : AA, (B_9 = uA B_7 h0 (upd (B_7 h0) 5 0)) ∧ ∃ B_11 : AA, (B_11 = uA B_9 h0 (upd (B_9 h0) 6 0)) ∧ ∃ U_14 : AA, (Fr G [16, 17] B_11 U_14) ∧ (C_X8_forgetAdds G B_11 R h0 U_14) ∧ Z = U_14)
def C_X8_refuse (G : Nat → Nat) (B : AA) (R : RR) (h0 : Nat) (p0 : Int32) (p1 : Int32) (Z : AA) : Prop :=
  (∃ r_5 : Nat, ∃ U_6 : AA, (Fr G [4, 31] B U_6) ∧ (C_X0_carry G B R (R h0 2) (B h0 0) (6 : Int32) p0 U_6 r_5) ∧ ∃ B_8 : AA, (B_8 = uA U_6 r_5 (upd (U_6 r_5) 4 p1)) ∧ Z = B_8)
def C_X8_acknowledge (G : Nat → Nat) (B : AA) (R : RR) (h0 : Nat) (p0 : Int32) (Z : AA) : Prop :=
  (∃ r_5 : Nat, ∃ U_6 : AA, (Fr G [4, 31] B U_6) ∧ (C_X0_carry G B R (R h0 2) (B h0 0) (5 : Int32) p0 U_6 r_5) ∧ Z = U_6)
def C_X8_tellSequence (G : Nat → Nat) (B : AA) (R : RR) (h0 : Nat)  (Z : AA) : Prop :=
  ((¬ (B h0 6).toInt = 0) ∧ Z = B)
  ∨ (((B h0 6).toInt = 0) ∧ ∃ U_4 : AA, (Fr G [4, 31] B U_4) ∧ (C_X8_refuse G B R h0 (B h0 4) (1 : Int32) U_4) ∧ ∃ B_6 : AA, (B_6 = uA U_4 h0 (upd (U_4 h0) 6 1)) ∧ Z = B_6)
def C_X8_replyOne (G : Nat → Nat) (B : AA) (R : RR) (h0 : Nat) (p0 : Int32) (p1 : Int32) (Z : AA) : Prop :=
  (∃ r_5 : Nat, ∃ U_6 : AA, (Fr G [4, 31] B U_6) ∧ (C_X0_carry G B R (R h0 2) (B h0 0) (4 : Int32) p0 U_6 r_5) ∧ ∃ B_9 : AA, (B_9 = uA U_6 r_5 (upd (U_6 r_5) 3 1)) ∧ ∃ B_13 : AA, (B_13 = uA B_9 (R r_5 7) (upd (B_9 (R r_5 7)) 0 p1)) ∧ Z = B_13)
def C_X8_replyCells (G : Nat → Nat) (B : AA) (R : RR) (h0 : Nat) (p0 : Nat) (Z : AA) : Prop :=
  (((B p0 3).toInt ≤ 0) ∧ Z = B)
  ∨ ((¬ (B p0 3).toInt ≤ 0) ∧ ∃ x_4 : Int32, (x_4 = ((B p0 2) + 0) &&& 63) ∧ ∃ r_9 : Nat, ∃ U_10 : AA, (Fr G [4, 31] B U_10) ∧ (C_X0_carry G B R (R h0 2) (B h0 0) (4 : Int32) x_4 U_10 r_9) ∧ ∃ x_14 : Int32, (x_14 = (U_10 p0 5) + 0) ∧ ∃ x_16 : Int32, (x_16 = (U_10 p0 3) - 0) ∧ ∃ U_19 : AA, (Fr G [31, 32] U_10 U_19) ∧ (C_X2_load G U_10 R r_9 (R h0 1) x_14 x_16 U_19) ∧ ((U_19 p0 3).toInt ≤ 4) ∧ Z = U_19)
  ∨ ((¬ (B p0 3).toInt ≤ 0) ∧ ∃ x_4 : Int32, (x_4 = ((B p0 2) + 0) &&& 63) ∧ ∃ r_9 : Nat, ∃ U_10 : AA, (Fr G [4, 31] B U_10) ∧ (C_X0_carry G B R (R h0 2) (B h0 0) (4 : Int32) x_4 U_10 r_9) ∧ ∃ x_14 : Int32, (x_14 = (U_10 p0 5) + 0) ∧ ∃ x_16 : Int32, (x_16 = (U_10 p0 3) - 0) ∧ ∃ U_19 : AA, (Fr G [31, 32] U_10 U_19) ∧ (C_X2_load G U_10 R r_9 (R h0 1) x_14 x_16 U_19) ∧ (¬ (U_19 p0 3).toInt ≤ 4) ∧ ∃ x_23 : Int32, (x_23 = ((U_19 p0 2) + 1) &&& 63) ∧ ∃ r_27 : Nat, ∃ U_28 : AA, (Fr G [4, 31] U_19 U_28) ∧ (C_X0_carry G U_19 R (R h0 2) (B h0 0) (4 : Int32) x_23 U_28 r_27) ∧ ∃ x_31 : Int32, (x_31 = (U_28 p0 5) + 4) ∧ ∃ x_33 : Int32, (x_33 = (U_28 p0 3) - 4) ∧ ∃ U_36 : AA, (Fr G [31, 32] U_28 U_36) ∧ (C_X2_load G U_28 R r_27 (R h0 1) x_31 x_33 U_36) ∧ ((U_36 p0 3).toInt ≤ 8) ∧ Z = U_36)
  ∨ ((¬ (B p0 3).toInt ≤ 0) ∧ ∃ x_4 : Int32, (x_4 = ((B p0 2) + 0) &&& 63) ∧ ∃ r_9 : Nat, ∃ U_10 : AA, (Fr G [4, 31] B U_10) ∧ (C_X0_carry G B R (R h0 2) (B h0 0) (4 : Int32) x_4 U_10 r_9) ∧ ∃ x_14 : Int32, (x_14 = (U_10 p0 5) + 0) ∧ ∃ x_16 : Int32, (x_16 = (U_10 p0 3) - 0) ∧ ∃ U_19 : AA, (Fr G [31, 32] U_10 U_19) ∧ (C_X2_load G U_10 R r_9 (R h0 1) x_14 x_16 U_19) ∧ (¬ (U_19 p0 3).toInt ≤ 4) ∧ ∃ x_23 : Int32, (x_23 = ((U_19 p0 2) + 1) &&& 63) ∧ ∃ r_27 : Nat, ∃ U_28 : AA, (Fr G [4, 31] U_19 U_28) ∧ (C_X0_carry G U_19 R (R h0 2) (B h0 0) (4 : Int32) x_23 U_28 r_27) ∧ ∃ x_31 : Int32, (x_31 = (U_28 p0 5) + 4) ∧ ∃ x_33 : Int32, (x_33 = (U_28 p0 3) - 4) ∧ ∃ U_36 : AA, (Fr G [31, 32] U_28 U_36) ∧ (C_X2_load G U_28 R r_27 (R h0 1) x_31 x_33 U_36) ∧ (¬ (U_36 p0 3).toInt ≤ 8) ∧ ∃ x_40 : Int32, (x_40 = ((U_36 p0 2) + 2) &&& 63) ∧ ∃ r_44 : Nat, ∃ U_45 : AA, (Fr G [4, 31] U_36 U_45) ∧ (C_X0_carry G U_36 R (R h0 2) (B h0 0) (4 : Int32) x_40 U_45 r_44) ∧ ∃ x_48 : Int32, (x_48 = (U_45 p0 5) + 8) ∧ ∃ x_50 : Int32, (x_50 = (U_45 p0 3) - 8) ∧ ∃ U_53 : AA, (Fr G [31, 32] U_45 U_53) ∧ (C_X2_load G U_45 R r_44 (R h0 1) x_48 x_50 U_53) ∧ Z = U_53)
def C_X8_keptAdd (G : Nat → Nat) (B : AA) (R : RR) (h0 : Nat) (p0 : Int32) (r : Int32) : Prop :=
  ((¬ (B (R h0 7) 0).toInt = p0.toInt) ∧ (¬ (B (R h0 7) 1).toInt = p0.toInt) ∧ r = (-1))
  ∨ ((¬ (B (R h0 7) 0).toInt = p0.toInt) ∧ ((B (R h0 7) 1).toInt = p0.toInt) ∧ r = 1)
  ∨ (((B (R h0 7) 0).toInt = p0.toInt) ∧ r = 0)
def C_X8_advance (G : Nat → Nat) (B : AA) (R : RR) (h0 : Nat) (p0 : Int32) (Z : AA) : Prop :=
  (∃ x_2 : Int32, (x_2 = ((B h0 4) + p0) &&& 63) ∧ ∃ B_3 : AA, (B_3 = uA B h0 (upd (B h0) 4 x_2)) ∧ ∃ B_5 : AA, (B_5 = uA B_3 h0 (upd (B_3 h0) 6 0)) ∧ Z = B_5)
def C_X8_growCell (G : Nat → Nat) (B : AA) (R : RR) (h0 : Nat) (p0 : Nat) (Z : AA) (r : Int32) : Prop :=
  (∃ r_5 : Int32, (C_X1_at G B R (R h0 1) (B p0 5) r_5) ∧ ∃ x_8 : Int32, (x_8 = r_5 + (B p0 6)) ∧ ∃ U_11 : AA, (Fr G [14] B U_11) ∧ (C_X1_put G B R (R h0 1) (B p0 5) x_8 U_11) ∧ ∃ B_17 : AA, (B_17 = uA U_11 (R h0 7) (upd (U_11 (R h0 7)) 1 (B (R h0 7) 0))) ∧ ∃ B_22 : AA, (B_22 = uA B_17 (R h0 8) (upd (B_17 (R h0 8)) 1 (B (R h0 8) 0))) ∧ ∃ B_28 : AA, (B_28 = uA B_22 (R h0 7) (upd (B_22 (R h0 7)) 0 (B p0 2))) ∧ ∃ B_31 : AA, (B_31 = uA B_28 (R h0 8) (upd (B_28 (R h0 8)) 0 r_5)) ∧ Z = B_31 ∧ r = r_5)
def C_X8_answerAgain (G : Nat → Nat) (B : AA) (R : RR) (h0 : Nat) (p0 : Nat) (Z : AA) : Prop :=
  ((¬ (B p0 1).toInt = 2) ∧ (¬ (B p0 1).toInt = 3) ∧ ∃ r_5 : Int32, (r_5 = ((B h0 4) + (-1)) &&& 63) ∧ ∃ U_8 : AA, (Fr G [4, 31] B U_8) ∧ (C_X8_acknowledge G B R h0 r_5 U_8) ∧ Z = U_8)
  ∨ ((¬ (B p0 1).toInt = 2) ∧ ((B p0 1).toInt = 3) ∧ ∃ r_10 : Int32, (C_X8_keptAdd G B R h0 (B p0 2) r_10) ∧ (r_10.toInt = -1) ∧ Z = B)
  ∨ ((¬ (B p0 1).toInt = 2) ∧ ((B p0 1).toInt = 3) ∧ ∃ r_10 : Int32, (C_X8_keptAdd G B R h0 (B p0 2) r_10) ∧ (¬ r_10.toInt = -1) ∧ ∃ n_17 : Nat, ((n_17 : Int) = r_10.toInt) ∧ ∃ U_19 : AA, (Fr G [4, 31, 32] B U_19) ∧ (C_X8_replyOne G B R h0 (B p0 2) (B (R h0 8) n_17) U_19) ∧ Z = U_19)
  ∨ (((B p0 1).toInt = 2) ∧ ∃ r_22 : Int32, (C_X2_isAllowed G B R p0 (R h0 1) r_22) ∧ (r_22.toInt = 0) ∧ Z = B)
  ∨ (((B p0 1).toInt = 2) ∧ ∃ r_22 : Int32, (C_X2_isAllowed G B R p0 (R h0 1) r_22) ∧ (¬ r_22.toInt = 0) ∧ ∃ U_26 : AA, (Fr G [4, 31, 32] B U_26) ∧ (C_X8_replyCells G B R h0 p0 U_26) ∧ Z = U_26)
def C_X8_takeSend (G : Nat → Nat) (B : AA) (R : RR) (h0 : Nat) (p0 : Nat) (Z : AA) (r : Int32) : Prop :=
  (∃ r_2 : Int32, (C_X2_isFirst G B R p0 r_2) ∧ (¬ r_2.toInt = (B h0 5).toInt) ∧ (¬ (B (R h0 3) 4).toInt = 0) ∧ ∃ B_9 : AA, (B_9 = uA B h0 (upd (B h0) 5 1)) ∧ ∃ r_12 : Nat, (C_X5_at G B_9 R (R h0 3) (0 : Int32) r_12) ∧ ∃ x_17 : Int32, (x_17 = (B r_12 3) - (B r_12 9)) ∧ ((B p0 3).toInt ≤ x_17.toInt) ∧ ∃ x_25 : Int32, (x_25 = (B r_12 2) + (B r_12 9)) ∧ ∃ U_27 : AA, (Fr G [14] B_9 U_27) ∧ (C_X2_unload G B_9 R p0 (R h0 1) x_25 x_17 U_27) ∧ ∃ x_32 : Int32, (x_32 = (B r_12 9) + (B p0 3)) ∧ ∃ B_33 : AA, (B_33 = uA U_27 r_12 (upd (U_27 r_12) 9 x_32)) ∧ ∃ r_35 : Int32, (C_X2_isLast G B_33 R p0 r_35) ∧ (r_35.toInt = 0) ∧ ∃ U_39 : AA, (Fr G [10] B_33 U_39) ∧ (C_X8_advance G B_33 R h0 (1 : Int32) U_39) ∧ ∃ U_44 : AA, (Fr G [4, 31] U_39 U_44) ∧ (C_X8_acknowledge G U_39 R h0 (B p0 2) U_44) ∧ Z = U_44 ∧ r = 0)
  ∨ (∃ r_2 : Int32, (C_X2_isFirst G B R p0 r_2) ∧ (¬ r_2.toInt = (B h0 5).toInt) ∧ (¬ (B (R h0 3) 4).toInt = 0) ∧ ∃ B_9 : AA, (B_9 = uA B h0 (upd (B h0) 5 1)) ∧ ∃ r_12 : Nat, (C_X5_at G B_9 R (R h0 3) (0 : Int32) r_12) ∧ ∃ x_17 : Int32, (x_17 = (B r_12 3) - (B r_12 9)) ∧ ((B p0 3).toInt ≤ x_17.toInt) ∧ ∃ x_25 : Int32, (x_25 = (B r_12 2) + (B r_12 9)) ∧ ∃ U_27 : AA, (Fr G [14] B_9 U_27) ∧ (C_X2_unload G B_9 R p0 (R h0 1) x_25 x_17 U_27) ∧ ∃ x_32 : Int32, (x_32 = (B r_12 9) + (B p0 3)) ∧ ∃ B_33 : AA, (B_33 = uA U_27 r_12 (upd (U_27 r_12) 9 x_32)) ∧ ∃ r_35 : Int32, (C_X2_isLast G B_33 R p0 r_35) ∧ (¬ r_35.toInt = 0) ∧ ∃ U_49 : AA, (Fr G [5, 15, 11] B_33 U_49) ∧ (C_X5_completeFirst G B_33 R (R h0 3) (0 : Int32) U_49) ∧ ∃ B_51 : AA, (B_51 = uA U_49 h0 (upd (U_49 h0) 5 0)) ∧ ∃ U_54 : AA, (Fr G [10] B_51 U_54) ∧ (C_X8_advance G B_51 R h0 (1 : Int32) U_54) ∧ ∃ U_59 : AA, (Fr G [4, 31] U_54 U_59) ∧ (C_X8_acknowledge G U_54 R h0 (B p0 2) U_59) ∧ Z = U_59 ∧ r = 0)
  ∨ (∃ r_2 : Int32, (C_X2_isFirst G B R p0 r_2) ∧ (¬ r_2.toInt = (B h0 5).toInt) ∧ (¬ (B (R h0 3) 4).toInt = 0) ∧ ∃ B_9 : AA, (B_9 = uA B h0 (upd (B h0) 5 1)) ∧ ∃ r_12 : Nat, (C_X5_at G B_9 R (R h0 3) (0 : Int32) r_12) ∧ ∃ x_17 : Int32, (x_17 = (B r_12 3) - (B r_12 9)) ∧ (¬ (B p0 3).toInt ≤ x_17.toInt) ∧ ∃ U_63 : AA, (Fr G [4, 31] B_9 U_63) ∧ (C_X8_refuse G B_9 R h0 (B p0 2) (4 : Int32) U_63) ∧ Z = U_63 ∧ r = 4)
  ∨ (∃ r_2 : Int32, (C_X2_isFirst G B R p0 r_2) ∧ (¬ r_2.toInt = (B h0 5).toInt) ∧ ((B (R h0 3) 4).toInt = 0) ∧ ∃ U_66 : AA, (Fr G [4, 31] B U_66) ∧ (C_X8_refuse G B R h0 (B p0 2) (2 : Int32) U_66) ∧ Z = U_66 ∧ r = 0)
  ∨ (∃ r_2 : Int32, (C_X2_isFirst G B R p0 r_2) ∧ (r_2.toInt = (B h0 5).toInt) ∧ Z = B ∧ r = 0)
def C_X8_takeReach (G : Nat → Nat) (B : AA) (R : RR) (h0 : Nat) (p0 : Nat) (Z : AA) (r : Int32) : Prop :=
  (∃ r_4 : Int32, (C_X2_isAllowed G B R p0 (R h0 1) r_4) ∧ (¬ r_4.toInt = 0) ∧ (¬ (B p0 1).toInt = 2) ∧ (¬ (B p0 1).toInt = 3) ∧ ∃ U_12 : AA, (Fr G [14] B U_12) ∧ (C_X2_unload G B R p0 (R h0 1) (B p0 5) (B p0 3) U_12) ∧ ∃ U_15 : AA, (Fr G [10] U_12 U_15) ∧ (C_X8_advance G U_12 R h0 (1 : Int32) U_15) ∧ ∃ U_20 : AA, (Fr G [4, 31] U_15 U_20) ∧ (C_X8_acknowledge G U_15 R h0 (B p0 2) U_20) ∧ Z = U_20 ∧ r = 0)
  ∨ (∃ r_4 : Int32, (C_X2_isAllowed G B R p0 (R h0 1) r_4) ∧ (¬ r_4.toInt = 0) ∧ (¬ (B p0 1).toInt = 2) ∧ ((B p0 1).toInt = 3) ∧ ∃ r_22 : Int32, ∃ U_23 : AA, (Fr G [14, 16, 17] B U_23) ∧ (C_X8_growCell G B R h0 p0 U_23 r_22) ∧ ∃ U_26 : AA, (Fr G [4, 31, 32] U_23 U_26) ∧ (C_X8_replyOne G U_23 R h0 (B p0 2) r_22 U_26) ∧ ∃ U_29 : AA, (Fr G [10] U_26 U_29) ∧ (C_X8_advance G U_26 R h0 (1 : Int32) U_29) ∧ Z = U_29 ∧ r = 0)
  ∨ (∃ r_4 : Int32, (C_X2_isAllowed G B R p0 (R h0 1) r_4) ∧ (¬ r_4.toInt = 0) ∧ ((B p0 1).toInt = 2) ∧ ∃ U_32 : AA, (Fr G [4, 31, 32] B U_32) ∧ (C_X8_replyCells G B R h0 p0 U_32) ∧ ∃ x_35 : Int32, (x_35 = (((U_32 p0 3) + 4) - 1) / 4) ∧ ∃ U_38 : AA, (Fr G [10] U_32 U_38) ∧ (C_X8_advance G U_32 R h0 x_35 U_38) ∧ Z = U_38 ∧ r = 0)
  ∨ (∃ r_4 : Int32, (C_X2_isAllowed G B R p0 (R h0 1) r_4) ∧ (r_4.toInt = 0) ∧ ∃ U_42 : AA, (Fr G [4, 31] B U_42) ∧ (C_X8_refuse G B R h0 (B p0 2) (3 : Int32) U_42) ∧ Z = U_42 ∧ r = 5)
def C_X8_takeIn (G : Nat → Nat) (B : AA) (R : RR) (h0 : Nat) (p0 : Nat) (Z : AA) (r : Int32) : Prop :=
  (∃ x_3 : Int32, (x_3 = ((B p0 2) - (B h0 4)) &&& 63) ∧ (x_3.toInt < 32) ∧ (x_3.toInt ≤ 0) ∧ (¬ (B p0 1).toInt = 0) ∧ ∃ r_7 : Int32, ∃ U_8 : AA, (Fr G [10, 4, 31, 32, 14, 16, 17] B U_8) ∧ (C_X8_takeReach G B R h0 p0 U_8 r_7) ∧ Z = U_8 ∧ r = r_7)
  ∨ (∃ x_3 : Int32, (x_3 = ((B p0 2) - (B h0 4)) &&& 63) ∧ (x_3.toInt < 32) ∧ (x_3.toInt ≤ 0) ∧ ((B p0 1).toInt = 0) ∧ ∃ r_9 : Int32, ∃ U_10 : AA, (Fr G [10, 4, 31, 14, 13, 5, 15, 11] B U_10) ∧ (C_X8_takeSend G B R h0 p0 U_10 r_9) ∧ Z = U_10 ∧ r = r_9)
  ∨ (∃ x_3 : Int32, (x_3 = ((B p0 2) - (B h0 4)) &&& 63) ∧ (x_3.toInt < 32) ∧ (¬ x_3.toInt ≤ 0) ∧ ∃ U_12 : AA, (Fr G [10, 4, 31] B U_12) ∧ (C_X8_tellSequence G B R h0 U_12) ∧ Z = U_12 ∧ r = 0)
  ∨ (∃ x_3 : Int32, (x_3 = ((B p0 2) - (B h0 4)) &&& 63) ∧ (¬ x_3.toInt < 32) ∧ ∃ U_14 : AA, (Fr G [4, 31, 32] B U_14) ∧ (C_X8_answerAgain G B R h0 p0 U_14) ∧ Z = U_14 ∧ r = 0)
def C_X8_completeAll (G : Nat → Nat) (B : AA) (R : RR) (h0 : Nat) (p0 : Int32) (Z : AA) : Prop :=
  (((B h0 5).toInt = 0) ∧ ∃ U_6 : AA, (Fr G [5, 15, 11] B U_6) ∧ (C_X5_completeAll G B R (R h0 3) (5 : Int32) U_6) ∧ ∃ B_8 : AA, (B_8 = uA U_6 h0 (upd (U_6 h0) 5 0)) ∧ Z = B_8)
  ∨ ((¬ (B h0 5).toInt = 0) ∧ ∃ U_11 : AA, (Fr G [5, 15, 11] B U_11) ∧ (C_X5_completeAll G B R (R h0 3) p0 U_11) ∧ ∃ B_13 : AA, (B_13 = uA U_11 h0 (upd (U_11 h0) 5 0)) ∧ Z = B_13)
def C_X3_clear (G : Nat → Nat) (B : AA) (R : RR) (h0 : Nat)  (Z : AA) : Prop :=
  (∃ B_2 : AA, (B_2 = uA B h0 (upd (B h0) 2 0)) ∧ ∃ U_7 : AA, (Fr G [9, 11] B_2 U_7) ∧ (C_X7_clear G B_2 R (R h0 0) U_7) ∧ ∃ U_12 : AA, (Fr G [10, 11, 16, 17] U_7 U_12) ∧ (C_X8_clear G U_7 R (R h0 1) U_12) ∧ Z = U_12)
def C_X3_start (G : Nat → Nat) (B : AA) (R : RR) (h0 : Nat) (p0 : Int32) (p1 : Int32) (Z : AA) : Prop :=
  (∃ B_2 : AA, (B_2 = uA B h0 (upd (B h0) 2 1)) ∧ ∃ U_7 : AA, (Fr G [9] B_2 U_7) ∧ (C_X7_start G B_2 R (R h0 0) p0 U_7) ∧ ∃ B_11 : AA, (B_11 = uA U_7 (R h0 1) (upd (U_7 (R h0 1)) 4 p1)) ∧ Z = B_11)
def C_X3_takesRequests (G : Nat → Nat) (B : AA) (R : RR) (h0 : Nat)  (r : Int32) : Prop :=
  ((¬ (B h0 2).toInt = 1) ∧ r = 0)
  ∨ (((B h0 2).toInt = 1) ∧ ∃ r_7 : Int32, (C_X5_isFull G B R (R (R h0 0) 6) r_7) ∧ (¬ r_7.toInt = 0) ∧ r = 0)
  ∨ (((B h0 2).toInt = 1) ∧ ∃ r_7 : Int32, (C_X5_isFull G B R (R (R h0 0) 6) r_7) ∧ (r_7.toInt = 0) ∧ r = 1)
def C_X3_takesReceives (G : Nat → Nat) (B : AA) (R : RR) (h0 : Nat)  (r : Int32) : Prop :=
  (((B h0 2).toInt = 2) ∧ r = 0)
  ∨ ((¬ (B h0 2).toInt = 2) ∧ ∃ r_7 : Int32, (C_X5_isFull G B R (R (R h0 1) 3) r_7) ∧ (¬ r_7.toInt = 0) ∧ r = 0)
  ∨ ((¬ (B h0 2).toInt = 2) ∧ ∃ r_7 : Int32, (C_X5_isFull G B R (R (R h0 1) 3) r_7) ∧ (r_7.toInt = 0) ∧ r = 1)
def C_X3_fail (G : Nat → Nat) (B : AA) (R : RR) (h0 : Nat) (p0 : Int32) (p1 : Int32) (Z : AA) : Prop :=
  (∃ B_2 : AA, (B_2 = uA B h0 (upd (B h0) 2 2)) ∧ ∃ U_9 : AA, (Fr G [5, 15, 11] B_2 U_9) ∧ (C_X5_completeAll G B_2 R (R (R h0 0) 6) p0 U_9) ∧ ∃ U_14 : AA, (Fr G [5, 15, 11, 10] U_9 U_14) ∧ (C_X8_completeAll G U_9 R (R h0 1) p1 U_14) ∧ Z = U_14)
def C_X3_failsByTime (G : Nat → Nat) (B : AA) (R : RR) (h0 : Nat)  (Z : AA) (r : Int32) : Prop :=
  ((¬ (B h0 2).toInt = 1) ∧ Z = B ∧ r = 0)
  ∨ (((B h0 2).toInt = 1) ∧ ∃ r_5 : Int32, ∃ U_6 : AA, (Fr G [9] B U_6) ∧ (C_X7_waitsTooLong G B R (R h0 0) U_6 r_5) ∧ (¬ r_5.toInt = 0) ∧ ∃ U_10 : AA, (Fr G [8, 5, 15, 11, 10] U_6 U_10) ∧ (C_X3_fail G U_6 R h0 (1 : Int32) (5 : Int32) U_10) ∧ Z = U_10 ∧ r = 1)
  ∨ (((B h0 2).toInt = 1) ∧ ∃ r_5 : Int32, ∃ U_6 : AA, (Fr G [9] B U_6) ∧ (C_X7_waitsTooLong G B R (R h0 0) U_6 r_5) ∧ (r_5.toInt = 0) ∧ Z = U_6 ∧ r = 0)
def C_X3_takeIn (G : Nat → Nat) (B : AA) (R : RR) (h0 : Nat) (p0 : Nat) (Z : AA) : Prop :=
  (((B h0 2).toInt = 1) ∧ (3 < (B p0 1).toInt) ∧ (¬ (B p0 1).toInt = 6) ∧ (¬ (B p0 1).toInt = 5) ∧ ∃ U_10 : AA, (Fr G [14, 9, 11, 5, 15] B U_10) ∧ (C_X7_takeReply G B R (R h0 0) p0 U_10) ∧ Z = U_10)
  ∨ (((B h0 2).toInt = 1) ∧ (3 < (B p0 1).toInt) ∧ (¬ (B p0 1).toInt = 6) ∧ ((B p0 1).toInt = 5) ∧ ∃ U_14 : AA, (Fr G [9, 11, 5, 15] B U_14) ∧ (C_X7_takeAck G B R (R h0 0) (B p0 2) U_14) ∧ Z = U_14)
  ∨ (((B h0 2).toInt = 1) ∧ (3 < (B p0 1).toInt) ∧ ((B p0 1).toInt = 6) ∧ ∃ r_17 : Int32, ∃ U_18 : AA, (Fr G [9, 11, 5, 15] B U_18) ∧ (C_X7_takeNak G B R (R h0 0) (B p0 2) (B p0 4) U_18 r_17) ∧ (r_17.toInt = 0) ∧ Z = U_18)
  ∨ (((B h0 2).toInt = 1) ∧ (3 < (B p0 1).toInt) ∧ ((B p0 1).toInt = 6) ∧ ∃ r_17 : Int32, ∃ U_18 : AA, (Fr G [9, 11, 5, 15] B U_18) ∧ (C_X7_takeNak G B R (R h0 0) (B p0 2) (B p0 4) U_18 r_17) ∧ (¬ r_17.toInt = 0) ∧ ∃ U_22 : AA, (Fr G [8, 5, 15, 11, 10] U_18 U_22) ∧ (C_X3_fail G U_18 R h0 r_17 (5 : Int32) U_22) ∧ Z = U_22)
  ∨ (((B h0 2).toInt = 1) ∧ (¬ 3 < (B p0 1).toInt) ∧ ∃ r_25 : Int32, ∃ U_26 : AA, (Fr G [10, 4, 31, 32, 14, 13, 5, 15, 11, 16, 17] B U_26) ∧ (C_X8_takeIn G B R (R h0 1) p0 U_26 r_25) ∧ (r_25.toInt = 0) ∧ Z = U_26)
  ∨ (((B h0 2).toInt = 1) ∧ (¬ 3 < (B p0 1).toInt) ∧ ∃ r_25 : Int32, ∃ U_26 : AA, (Fr G [10, 4, 31, 32, 14, 13, 5, 15, 11, 16, 17] B U_26) ∧ (C_X8_takeIn G B R (R h0 1) p0 U_26 r_25) ∧ (¬ r_25.toInt = 0) ∧ ∃ U_30 : AA, (Fr G [8, 5, 15, 11, 10] U_26 U_30) ∧ (C_X3_fail G U_26 R h0 (5 : Int32) r_25 U_30) ∧ Z = U_30)
  ∨ ((¬ (B h0 2).toInt = 1) ∧ Z = B)
def C_X3_tell (G : Nat → Nat) (B : AA) (R : RR) (h0 : Nat) (p0 : Int32) (r : Int32) : Prop :=
  ((p0.toInt < 1) ∧ (p0.toInt = 0) ∧ r = (B h0 2))
  ∨ ((p0.toInt < 1) ∧ (p0.toInt = 1) ∧ r = (B (R h0 0) 7))
  ∨ ((p0.toInt < 1) ∧ (p0.toInt = 2) ∧ r = (B (R h0 0) 8))
  ∨ ((p0.toInt < 1) ∧ (p0.toInt = 3) ∧ r = (B (R h0 0) 9))
  ∨ ((p0.toInt < 1) ∧ (p0.toInt = 4) ∧ r = (B (R h0 1) 4))
  ∨ ((p0.toInt < 1) ∧ (p0.toInt = 5) ∧ r = (B (R (R h0 0) 6) 4))
  ∨ ((p0.toInt < 1) ∧ (p0.toInt = 6) ∧ r = (B (R (R h0 1) 3) 4))
  ∨ ((p0.toInt < 1) ∧ (p0.toInt = 7) ∧ ((B (R h0 0) 13).toInt = 0) ∧ r = 0)
  ∨ ((p0.toInt < 1) ∧ (p0.toInt = 7) ∧ (¬ (B (R h0 0) 13).toInt = 0) ∧ r = 1)
  ∨ ((p0.toInt < 1) ∧ (p0.toInt < 0 ∨ 7 < p0.toInt) ∧ r = (-1))
  ∨ ((¬ p0.toInt < 1) ∧ (4 < p0.toInt) ∧ (p0.toInt = 0) ∧ r = (B h0 2))
  ∨ ((¬ p0.toInt < 1) ∧ (4 < p0.toInt) ∧ (p0.toInt = 1) ∧ r = (B (R h0 0) 7))
  ∨ ((¬ p0.toInt < 1) ∧ (4 < p0.toInt) ∧ (p0.toInt = 2) ∧ r = (B (R h0 0) 8))
  ∨ ((¬ p0.toInt < 1) ∧ (4 < p0.toInt) ∧ (p0.toInt = 3) ∧ r = (B (R h0 0) 9))
  ∨ ((¬ p0.toInt < 1) ∧ (4 < p0.toInt) ∧ (p0.toInt = 4) ∧ r = (B (R h0 1) 4))
  ∨ ((¬ p0.toInt < 1) ∧ (4 < p0.toInt) ∧ (p0.toInt = 5) ∧ r = (B (R (R h0 0) 6) 4))
  ∨ ((¬ p0.toInt < 1) ∧ (4 < p0.toInt) ∧ (p0.toInt = 6) ∧ r = (B (R (R h0 1) 3) 4))
  ∨ ((¬ p0.toInt < 1) ∧ (4 < p0.toInt) ∧ (p0.toInt = 7) ∧ ((B (R h0 0) 13).toInt = 0) ∧ r = 0)
  ∨ ((¬ p0.toInt < 1) ∧ (4 < p0.toInt) ∧ (p0.toInt = 7) ∧ (¬ (B (R h0 0) 13).toInt = 0) ∧ r = 1)
  ∨ ((¬ p0.toInt < 1) ∧ (4 < p0.toInt) ∧ (p0.toInt < 0 ∨ 7 < p0.toInt) ∧ r = (-1))
  ∨ ((¬ p0.toInt < 1) ∧ (¬ 4 < p0.toInt) ∧ ((B h0 2).toInt = 1) ∧ (p0.toInt = 0) ∧ r = (B h0 2))
  ∨ ((¬ p0.toInt < 1) ∧ (¬ 4 < p0.toInt) ∧ ((B h0 2).toInt = 1) ∧ (p0.toInt = 1) ∧ r = (B (R h0 0) 7))
  ∨ ((¬ p0.toInt < 1) ∧ (¬ 4 < p0.toInt) ∧ ((B h0 2).toInt = 1) ∧ (p0.toInt = 2) ∧ r = (B (R h0 0) 8))
  ∨ ((¬ p0.toInt < 1) ∧ (¬ 4 < p0.toInt) ∧ ((B h0 2).toInt = 1) ∧ (p0.toInt = 3) ∧ r = (B (R h0 0) 9))
  ∨ ((¬ p0.toInt < 1) ∧ (¬ 4 < p0.toInt) ∧ ((B h0 2).toInt = 1) ∧ (p0.toInt = 4) ∧ r = (B (R h0 1) 4))
  ∨ ((¬ p0.toInt < 1) ∧ (¬ 4 < p0.toInt) ∧ ((B h0 2).toInt = 1) ∧ (p0.toInt = 5) ∧ r = (B (R (R h0 0) 6) 4))
  ∨ ((¬ p0.toInt < 1) ∧ (¬ 4 < p0.toInt) ∧ ((B h0 2).toInt = 1) ∧ (p0.toInt = 6) ∧ r = (B (R (R h0 1) 3) 4))
  ∨ ((¬ p0.toInt < 1) ∧ (¬ 4 < p0.toInt) ∧ ((B h0 2).toInt = 1) ∧ (p0.toInt = 7) ∧ ((B (R h0 0) 13).toInt = 0) ∧ r = 0)
  ∨ ((¬ p0.toInt < 1) ∧ (¬ 4 < p0.toInt) ∧ ((B h0 2).toInt = 1) ∧ (p0.toInt = 7) ∧ (¬ (B (R h0 0) 13).toInt = 0) ∧ r = 1)
  ∨ ((¬ p0.toInt < 1) ∧ (¬ 4 < p0.toInt) ∧ ((B h0 2).toInt = 1) ∧ (p0.toInt < 0 ∨ 7 < p0.toInt) ∧ r = (-1))
  ∨ ((¬ p0.toInt < 1) ∧ (¬ 4 < p0.toInt) ∧ (¬ (B h0 2).toInt = 1) ∧ r = (-1))
def C_X9_region (G : Nat → Nat) (B : AA) (R : RR) (h0 : Nat) (p0 : Int32) (p1 : Int32) (p2 : Int32) (p3 : Int32) (p4 : Int32) (Z : AA) : Prop :=
  ((0 ≤ p0.toInt ∧ p0.toInt < 2) ∧ (0 ≤ p1.toInt ∧ p1.toInt < 6) ∧ (¬ p4.toInt < 0) ∧ (¬ 7 < p4.toInt) ∧ (¬ p2.toInt < 0) ∧ (¬ p3.toInt < 0) ∧ ∃ x_15 : Int32, (x_15 = 32 - p2) ∧ (x_15.toInt = 32 - p2.toInt) ∧ (¬ x_15.toInt < p3.toInt) ∧ ∃ n_23 : Nat, ((n_23 : Int) = p0.toInt) ∧ ∃ n_29 : Nat, ((n_29 : Int) = p1.toInt) ∧ ∃ U_33 : AA, (Fr G [7] B U_33) ∧ (C_X6_become G B R (R (R (R (R h0 0) n_23) 1) n_29) p2 p3 p4 U_33) ∧ Z = U_33)
def X_X9_region (G : Nat → Nat) (B : AA) (R : RR) (h0 : Nat) (p0 : Int32) (p1 : Int32) (p2 : Int32) (p3 : Int32) (p4 : Int32) (En : String) : Prop :=
  ((¬ (0 ≤ p0.toInt ∧ p0.toInt < 2)) ∧ En = IAE)
  ∨ ((0 ≤ p0.toInt ∧ p0.toInt < 2) ∧ (¬ (0 ≤ p1.toInt ∧ p1.toInt < 6)) ∧ En = IAE)
  ∨ ((0 ≤ p0.toInt ∧ p0.toInt < 2) ∧ (0 ≤ p1.toInt ∧ p1.toInt < 6) ∧ (p4.toInt < 0) ∧ En = IAE)
  ∨ ((0 ≤ p0.toInt ∧ p0.toInt < 2) ∧ (0 ≤ p1.toInt ∧ p1.toInt < 6) ∧ (¬ p4.toInt < 0) ∧ (7 < p4.toInt) ∧ En = IAE)
  ∨ ((0 ≤ p0.toInt ∧ p0.toInt < 2) ∧ (0 ≤ p1.toInt ∧ p1.toInt < 6) ∧ (¬ p4.toInt < 0) ∧ (¬ 7 < p4.toInt) ∧ (p2.toInt < 0) ∧ En = IAE)
  ∨ ((0 ≤ p0.toInt ∧ p0.toInt < 2) ∧ (0 ≤ p1.toInt ∧ p1.toInt < 6) ∧ (¬ p4.toInt < 0) ∧ (¬ 7 < p4.toInt) ∧ (¬ p2.toInt < 0) ∧ (p3.toInt < 0) ∧ En = IAE)
  ∨ ((0 ≤ p0.toInt ∧ p0.toInt < 2) ∧ (0 ≤ p1.toInt ∧ p1.toInt < 6) ∧ (¬ p4.toInt < 0) ∧ (¬ 7 < p4.toInt) ∧ (¬ p2.toInt < 0) ∧ (¬ p3.toInt < 0) ∧ ∃ x_15 : Int32, (x_15 = 32 - p2) ∧ (x_15.toInt = 32 - p2.toInt) ∧ (x_15.toInt < p3.toInt) ∧ En = IAE)
def C_X9_store (G : Nat → Nat) (B : AA) (R : RR) (h0 : Nat) (p0 : Int32) (p1 : Int32) (p2 : Int32) (Z : AA) : Prop :=
  ((0 ≤ p0.toInt ∧ p0.toInt < 2) ∧ (0 ≤ p1.toInt ∧ p1.toInt < 32) ∧ ∃ n_10 : Nat, ((n_10 : Int) = p0.toInt) ∧ ∃ U_14 : AA, (Fr G [14] B U_14) ∧ (C_X1_put G B R (R (R h0 0) n_10) p1 p2 U_14) ∧ Z = U_14)
def X_X9_store (G : Nat → Nat) (B : AA) (R : RR) (h0 : Nat) (p0 : Int32) (p1 : Int32) (p2 : Int32) (En : String) : Prop :=
  ((¬ (0 ≤ p0.toInt ∧ p0.toInt < 2)) ∧ En = IAE)
  ∨ ((0 ≤ p0.toInt ∧ p0.toInt < 2) ∧ (¬ (0 ≤ p1.toInt ∧ p1.toInt < 32)) ∧ En = IAE)
def C_X9_cell (G : Nat → Nat) (B : AA) (R : RR) (h0 : Nat) (p0 : Int32) (p1 : Int32) (r : Int32) : Prop :=
  ((¬ (0 ≤ p0.toInt ∧ p0.toInt < 2)) ∧ r = 0)
  ∨ ((0 ≤ p0.toInt ∧ p0.toInt < 2) ∧ ∃ n_6 : Nat, ((n_6 : Int) = p0.toInt) ∧ ∃ r_9 : Int32, (C_X1_at G B R (R (R h0 0) n_6) p1 r_9) ∧ r = r_9)
def C_X9_ready (G : Nat → Nat) (B : AA) (R : RR) (h0 : Nat) (p0 : Int32) (p1 : Int32) (p2 : Int32) (Z : AA) : Prop :=
  ((0 ≤ p0.toInt ∧ p0.toInt < 4) ∧ (0 ≤ p1.toInt ∧ p1.toInt < 64) ∧ (0 ≤ p2.toInt ∧ p2.toInt < 64) ∧ ∃ n_12 : Nat, ((n_12 : Int) = p0.toInt) ∧ ((B (R (R h0 1) n_12) 2).toInt = 0) ∧ ∃ U_22 : AA, (Fr G [8, 9, 10] B U_22) ∧ (C_X3_start G B R (R (R h0 1) n_12) p1 p2 U_22) ∧ Z = U_22)
def X_X9_ready (G : Nat → Nat) (B : AA) (R : RR) (h0 : Nat) (p0 : Int32) (p1 : Int32) (p2 : Int32) (En : String) : Prop :=
  ((¬ (0 ≤ p0.toInt ∧ p0.toInt < 4)) ∧ En = IAE)
  ∨ ((0 ≤ p0.toInt ∧ p0.toInt < 4) ∧ (¬ (0 ≤ p1.toInt ∧ p1.toInt < 64)) ∧ En = IAE)
  ∨ ((0 ≤ p0.toInt ∧ p0.toInt < 4) ∧ (0 ≤ p1.toInt ∧ p1.toInt < 64) ∧ (¬ (0 ≤ p2.toInt ∧ p2.toInt < 64)) ∧ En = IAE)
  ∨ ((0 ≤ p0.toInt ∧ p0.toInt < 4) ∧ (0 ≤ p1.toInt ∧ p1.toInt < 64) ∧ (0 ≤ p2.toInt ∧ p2.toInt < 64) ∧ ∃ n_12 : Nat, ((n_12 : Int) = p0.toInt) ∧ (¬ (B (R (R h0 1) n_12) 2).toInt = 0) ∧ En = ISE)
def C_X9_reset (G : Nat → Nat) (B : AA) (R : RR) (h0 : Nat) (p0 : Int32) (Z : AA) (r : Int32) : Prop :=
  ((0 ≤ p0.toInt ∧ p0.toInt < 4) ∧ ∃ n_6 : Nat, ((n_6 : Int) = p0.toInt) ∧ ∃ U_10 : AA, (Fr G [8, 9, 10, 11, 16, 17] B U_10) ∧ (C_X3_clear G B R (R (R h0 1) n_6) U_10) ∧ Z = U_10 ∧ r = 1)
  ∨ ((¬ (0 ≤ p0.toInt ∧ p0.toInt < 4)) ∧ Z = B ∧ r = 0)
def C_X9_send (G : Nat → Nat) (B : AA) (R : RR) (h0 : Nat) (p0 : Int32) (p1 : Int32) (p2 : Int32) (Z : AA) (r : Int32) : Prop :=
  ((0 ≤ p0.toInt ∧ p0.toInt < 4) ∧ (1 ≤ p2.toInt ∧ p2.toInt ≤ 12 ∧ 0 ≤ p1.toInt ∧ p1.toInt ≤ 32 - p2.toInt) ∧ ∃ n_10 : Nat, ((n_10 : Int) = p0.toInt) ∧ ∃ r_13 : Int32, (C_X3_takesRequests G B R (R (R h0 1) n_10) r_13) ∧ (¬ r_13.toInt = 0) ∧ ∃ r_22 : Int32, ∃ U_23 : AA, (Fr G [9, 11, 13] B U_23) ∧ (C_X7_post G B R (R (R (R h0 1) n_10) 0) (0 : Int32) p1 p2 (-1 : Int32) (-1 : Int32) (0 : Int32) U_23 r_22) ∧ Z = U_23 ∧ r = r_22)
def X_X9_send (G : Nat → Nat) (B : AA) (R : RR) (h0 : Nat) (p0 : Int32) (p1 : Int32) (p2 : Int32) (En : String) : Prop :=
  ((¬ (0 ≤ p0.toInt ∧ p0.toInt < 4)) ∧ En = IAE)
  ∨ ((0 ≤ p0.toInt ∧ p0.toInt < 4) ∧ (¬ (1 ≤ p2.toInt ∧ p2.toInt ≤ 12 ∧ 0 ≤ p1.toInt ∧ p1.toInt ≤ 32 - p2.toInt)) ∧ En = IAE)
  ∨ ((0 ≤ p0.toInt ∧ p0.toInt < 4) ∧ (1 ≤ p2.toInt ∧ p2.toInt ≤ 12 ∧ 0 ≤ p1.toInt ∧ p1.toInt ≤ 32 - p2.toInt) ∧ ∃ n_10 : Nat, ((n_10 : Int) = p0.toInt) ∧ ∃ r_13 : Int32, (C_X3_takesRequests G B R (R (R h0 1) n_10) r_13) ∧ (r_13.toInt = 0) ∧ En = ISE)
def C_X9_move (G : Nat → Nat) (B : AA) (R : RR) (h0 : Nat) (p0 : Int32) (p1 : Int32) (p2 : Int32) (p3 : Int32) (p4 : Int32) (p5 : Int32) (Z : AA) (r : Int32) : Prop :=
  ((0 ≤ p0.toInt ∧ p0.toInt < 4) ∧ (1 ≤ p3.toInt ∧ p3.toInt ≤ 12 ∧ 0 ≤ p2.toInt ∧ p2.toInt ≤ 32 - p3.toInt) ∧ (0 ≤ p4.toInt ∧ p4.toInt < 6) ∧ (0 ≤ p5.toInt ∧ p5.toInt < 32) ∧ ∃ n_14 : Nat, ((n_14 : Int) = p0.toInt) ∧ ∃ r_17 : Int32, (C_X3_takesRequests G B R (R (R h0 1) n_14) r_17) ∧ (¬ r_17.toInt = 0) ∧ (p1.toInt = 0) ∧ ∃ r_27 : Int32, ∃ U_28 : AA, (Fr G [9, 11, 13] B U_28) ∧ (C_X7_post G B R (R (R (R h0 1) n_14) 0) (1 : Int32) p2 p3 p4 p5 (0 : Int32) U_28 r_27) ∧ Z = U_28 ∧ r = r_27)
  ∨ ((0 ≤ p0.toInt ∧ p0.toInt < 4) ∧ (1 ≤ p3.toInt ∧ p3.toInt ≤ 12 ∧ 0 ≤ p2.toInt ∧ p2.toInt ≤ 32 - p3.toInt) ∧ (0 ≤ p4.toInt ∧ p4.toInt < 6) ∧ (0 ≤ p5.toInt ∧ p5.toInt < 32) ∧ ∃ n_14 : Nat, ((n_14 : Int) = p0.toInt) ∧ ∃ r_17 : Int32, (C_X3_takesRequests G B R (R (R h0 1) n_14) r_17) ∧ (¬ r_17.toInt = 0) ∧ (¬ p1.toInt = 0) ∧ ∃ r_32 : Int32, ∃ U_33 : AA, (Fr G [9, 11, 13] B U_33) ∧ (C_X7_post G B R (R (R (R h0 1) n_14) 0) (2 : Int32) p2 p3 p4 p5 (0 : Int32) U_33 r_32) ∧ Z = U_33 ∧ r = r_32)
def X_X9_move (G : Nat → Nat) (B : AA) (R : RR) (h0 : Nat) (p0 : Int32) (p1 : Int32) (p2 : Int32) (p3 : Int32) (p4 : Int32) (p5 : Int32) (En : String) : Prop :=
  ((¬ (0 ≤ p0.toInt ∧ p0.toInt < 4)) ∧ En = IAE)
  ∨ ((0 ≤ p0.toInt ∧ p0.toInt < 4) ∧ (¬ (1 ≤ p3.toInt ∧ p3.toInt ≤ 12 ∧ 0 ≤ p2.toInt ∧ p2.toInt ≤ 32 - p3.toInt)) ∧ En = IAE)
  ∨ ((0 ≤ p0.toInt ∧ p0.toInt < 4) ∧ (1 ≤ p3.toInt ∧ p3.toInt ≤ 12 ∧ 0 ≤ p2.toInt ∧ p2.toInt ≤ 32 - p3.toInt) ∧ (¬ (0 ≤ p4.toInt ∧ p4.toInt < 6)) ∧ En = IAE)
  ∨ ((0 ≤ p0.toInt ∧ p0.toInt < 4) ∧ (1 ≤ p3.toInt ∧ p3.toInt ≤ 12 ∧ 0 ≤ p2.toInt ∧ p2.toInt ≤ 32 - p3.toInt) ∧ (0 ≤ p4.toInt ∧ p4.toInt < 6) ∧ (¬ (0 ≤ p5.toInt ∧ p5.toInt < 32)) ∧ En = IAE)
  ∨ ((0 ≤ p0.toInt ∧ p0.toInt < 4) ∧ (1 ≤ p3.toInt ∧ p3.toInt ≤ 12 ∧ 0 ≤ p2.toInt ∧ p2.toInt ≤ 32 - p3.toInt) ∧ (0 ≤ p4.toInt ∧ p4.toInt < 6) ∧ (0 ≤ p5.toInt ∧ p5.toInt < 32) ∧ ∃ n_14 : Nat, ((n_14 : Int) = p0.toInt) ∧ ∃ r_17 : Int32, (C_X3_takesRequests G B R (R (R h0 1) n_14) r_17) ∧ (r_17.toInt = 0) ∧ En = ISE)
def C_X9_add (G : Nat → Nat) (B : AA) (R : RR) (h0 : Nat) (p0 : Int32) (p1 : Int32) (p2 : Int32) (p3 : Int32) (p4 : Int32) (Z : AA) (r : Int32) : Prop :=
  ((0 ≤ p0.toInt ∧ p0.toInt < 4) ∧ (0 ≤ p1.toInt ∧ p1.toInt < 32) ∧ (0 ≤ p2.toInt ∧ p2.toInt < 6) ∧ (0 ≤ p3.toInt ∧ p3.toInt < 32) ∧ ∃ n_14 : Nat, ((n_14 : Int) = p0.toInt) ∧ ∃ r_17 : Int32, (C_X3_takesRequests G B R (R (R h0 1) n_14) r_17) ∧ (¬ r_17.toInt = 0) ∧ ∃ r_26 : Int32, ∃ U_27 : AA, (Fr G [9, 11, 13] B U_27) ∧ (C_X7_post G B R (R (R (R h0 1) n_14) 0) (3 : Int32) p1 (1 : Int32) p2 p3 p4 U_27 r_26) ∧ Z = U_27 ∧ r = r_26)
def X_X9_add (G : Nat → Nat) (B : AA) (R : RR) (h0 : Nat) (p0 : Int32) (p1 : Int32) (p2 : Int32) (p3 : Int32) (p4 : Int32) (En : String) : Prop :=
  ((¬ (0 ≤ p0.toInt ∧ p0.toInt < 4)) ∧ En = IAE)
  ∨ ((0 ≤ p0.toInt ∧ p0.toInt < 4) ∧ (¬ (0 ≤ p1.toInt ∧ p1.toInt < 32)) ∧ En = IAE)
  ∨ ((0 ≤ p0.toInt ∧ p0.toInt < 4) ∧ (0 ≤ p1.toInt ∧ p1.toInt < 32) ∧ (¬ (0 ≤ p2.toInt ∧ p2.toInt < 6)) ∧ En = IAE)
  ∨ ((0 ≤ p0.toInt ∧ p0.toInt < 4) ∧ (0 ≤ p1.toInt ∧ p1.toInt < 32) ∧ (0 ≤ p2.toInt ∧ p2.toInt < 6) ∧ (¬ (0 ≤ p3.toInt ∧ p3.toInt < 32)) ∧ En = IAE)
  ∨ ((0 ≤ p0.toInt ∧ p0.toInt < 4) ∧ (0 ≤ p1.toInt ∧ p1.toInt < 32) ∧ (0 ≤ p2.toInt ∧ p2.toInt < 6) ∧ (0 ≤ p3.toInt ∧ p3.toInt < 32) ∧ ∃ n_14 : Nat, ((n_14 : Int) = p0.toInt) ∧ ∃ r_17 : Int32, (C_X3_takesRequests G B R (R (R h0 1) n_14) r_17) ∧ (r_17.toInt = 0) ∧ En = ISE)
def C_X9_receive (G : Nat → Nat) (B : AA) (R : RR) (h0 : Nat) (p0 : Int32) (p1 : Int32) (p2 : Int32) (Z : AA) (r : Int32) : Prop :=
  ((0 ≤ p0.toInt ∧ p0.toInt < 4) ∧ (1 ≤ p2.toInt ∧ p2.toInt ≤ 12 ∧ 0 ≤ p1.toInt ∧ p1.toInt ≤ 32 - p2.toInt) ∧ ∃ n_10 : Nat, ((n_10 : Int) = p0.toInt) ∧ ∃ r_13 : Int32, (C_X3_takesReceives G B R (R (R h0 1) n_10) r_13) ∧ (¬ r_13.toInt = 0) ∧ ∃ r_23 : Nat, ∃ U_24 : AA, (Fr G [11, 13] B U_24) ∧ (C_X5_append G B R (R (R (R (R h0 1) n_10) 1) 3) (4 : Int32) p1 p2 U_24 r_23) ∧ Z = U_24 ∧ r = (U_24 r_23 1))
def X_X9_receive (G : Nat → Nat) (B : AA) (R : RR) (h0 : Nat) (p0 : Int32) (p1 : Int32) (p2 : Int32) (En : String) : Prop :=
  ((¬ (0 ≤ p0.toInt ∧ p0.toInt < 4)) ∧ En = IAE)
  ∨ ((0 ≤ p0.toInt ∧ p0.toInt < 4) ∧ (¬ (1 ≤ p2.toInt ∧ p2.toInt ≤ 12 ∧ 0 ≤ p1.toInt ∧ p1.toInt ≤ 32 - p2.toInt)) ∧ En = IAE)
  ∨ ((0 ≤ p0.toInt ∧ p0.toInt < 4) ∧ (1 ≤ p2.toInt ∧ p2.toInt ≤ 12 ∧ 0 ≤ p1.toInt ∧ p1.toInt ≤ 32 - p2.toInt) ∧ ∃ n_10 : Nat, ((n_10 : Int) = p0.toInt) ∧ ∃ r_13 : Int32, (C_X3_takesReceives G B R (R (R h0 1) n_10) r_13) ∧ (r_13.toInt = 0) ∧ En = ISE)
def C_X9_push (G : Nat → Nat) (B : AA) (R : RR) (h0 : Nat) (p0 : Int32) (Z : AA) (r : Int32) : Prop :=
  ((¬ (0 ≤ p0.toInt ∧ p0.toInt < 4)) ∧ Z = B ∧ r = (-1))
  ∨ ((0 ≤ p0.toInt ∧ p0.toInt < 4) ∧ ∃ n_6 : Nat, ((n_6 : Int) = p0.toInt) ∧ (¬ (B (R (R h0 1) n_6) 2).toInt = 1) ∧ Z = B ∧ r = (-1))
  ∨ ((0 ≤ p0.toInt ∧ p0.toInt < 4) ∧ ∃ n_6 : Nat, ((n_6 : Int) = p0.toInt) ∧ ((B (R (R h0 1) n_6) 2).toInt = 1) ∧ ∃ r_12 : Int32, ∃ U_13 : AA, (Fr G [9, 4, 31, 32] B U_13) ∧ (C_X7_sendNext G B R (R (R (R h0 1) n_6) 0) U_13 r_12) ∧ Z = U_13 ∧ r = r_12)
def C_X9_deliver (G : Nat → Nat) (B : AA) (R : RR) (h0 : Nat) (p0 : Int32) (Z : AA) (ZR : RR) (r : Int32) : Prop :=
  (∃ r_4 : Int32, (C_X0_has G B R (R h0 2) p0 r_4) ∧ (¬ r_4.toInt = 0) ∧ ∃ r_9 : Nat, ∃ B_11 : AA, ∃ R_12 : RR, (Fr G [4, 30] B B_11) ∧ (FrR G [4, 30] R R_12) ∧ (C_X0_takeOut G B R (R h0 2) p0 B_11 R_12 r_9) ∧ ∃ n_20 : Nat, ((n_20 : Int) = (B r_9 0).toInt) ∧ ∃ U_24 : AA, (Fr G [8, 9, 10, 4, 31, 32, 14, 13, 5, 15, 11, 16, 17] B_11 U_24) ∧ (C_X3_takeIn G B_11 R_12 (R_12 (R_12 h0 1) n_20) r_9 U_24) ∧ Z = U_24 ∧ ZR = R_12 ∧ r = 1)
  ∨ (∃ r_4 : Int32, (C_X0_has G B R (R h0 2) p0 r_4) ∧ (r_4.toInt = 0) ∧ Z = B ∧ ZR = R ∧ r = 0)
def C_X9_spoil (G : Nat → Nat) (B : AA) (R : RR) (h0 : Nat) (p0 : Int32) (p1 : Int32) (Z : AA) (ZR : RR) (r : Int32) : Prop :=
  (∃ r_4 : Int32, (C_X0_has G B R (R h0 2) p0 r_4) ∧ (r_4.toInt = 0) ∧ Z = B ∧ ZR = R ∧ r = 0)
  ∨ (∃ r_4 : Int32, (C_X0_has G B R (R h0 2) p0 r_4) ∧ (¬ r_4.toInt = 0) ∧ (p1.toInt = 0) ∧ (p1.toInt = 0) ∧ ∃ r_11 : Nat, ∃ B_13 : AA, ∃ R_14 : RR, (Fr G [4, 30] B B_13) ∧ (FrR G [4, 30] R R_14) ∧ (C_X0_takeOut G B R (R h0 2) p0 B_13 R_14 r_11) ∧ Z = B_13 ∧ ZR = R_14 ∧ r = 1)
  ∨ (∃ r_4 : Int32, (C_X0_has G B R (R h0 2) p0 r_4) ∧ (¬ r_4.toInt = 0) ∧ (p1.toInt = 0) ∧ (¬ p1.toInt = 0) ∧ ∃ U_19 : AA, (Fr G [4, 31, 32] B U_19) ∧ (C_X0_copyToEnd G B R (R h0 2) p0 U_19) ∧ Z = U_19 ∧ ZR = R ∧ r = 1)
  ∨ (∃ r_4 : Int32, (C_X0_has G B R (R h0 2) p0 r_4) ∧ (¬ r_4.toInt = 0) ∧ (¬ p1.toInt = 0) ∧ ∃ r_22 : Int32, (C_X0_isFull G B R (R h0 2) r_22) ∧ (r_22.toInt = 0) ∧ (p1.toInt = 0) ∧ ∃ r_28 : Nat, ∃ B_30 : AA, ∃ R_31 : RR, (Fr G [4, 30] B B_30) ∧ (FrR G [4, 30] R R_31) ∧ (C_X0_takeOut G B R (R h0 2) p0 B_30 R_31 r_28) ∧ Z = B_30 ∧ ZR = R_31 ∧ r = 1)
  ∨ (∃ r_4 : Int32, (C_X0_has G B R (R h0 2) p0 r_4) ∧ (¬ r_4.toInt = 0) ∧ (¬ p1.toInt = 0) ∧ ∃ r_22 : Int32, (C_X0_isFull G B R (R h0 2) r_22) ∧ (r_22.toInt = 0) ∧ (¬ p1.toInt = 0) ∧ ∃ U_36 : AA, (Fr G [4, 31, 32] B U_36) ∧ (C_X0_copyToEnd G B R (R h0 2) p0 U_36) ∧ Z = U_36 ∧ ZR = R ∧ r = 1)
  ∨ (∃ r_4 : Int32, (C_X0_has G B R (R h0 2) p0 r_4) ∧ (¬ r_4.toInt = 0) ∧ (¬ p1.toInt = 0) ∧ ∃ r_22 : Int32, (C_X0_isFull G B R (R h0 2) r_22) ∧ (¬ r_22.toInt = 0) ∧ Z = B ∧ ZR = R ∧ r = 0)
def C_X9_tick (G : Nat → Nat) (B : AA) (R : RR) (h0 : Nat)  (Z : AA) (r : Int32) : Prop :=
  (∃ r_7 : Int32, ∃ U_8 : AA, (Fr G [8, 5, 15, 11, 10, 9] B U_8) ∧ (C_X3_failsByTime G B R (R (R h0 1) 0) U_8 r_7) ∧ (r_7.toInt = 0) ∧ ∃ r_15 : Int32, ∃ U_16 : AA, (Fr G [8, 5, 15, 11, 10, 9] U_8 U_16) ∧ (C_X3_failsByTime G U_8 R (R (R h0 1) 1) U_16 r_15) ∧ (r_15.toInt = 0) ∧ ∃ r_23 : Int32, ∃ U_24 : AA, (Fr G [8, 5, 15, 11, 10, 9] U_16 U_24) ∧ (C_X3_failsByTime G U_16 R (R (R h0 1) 2) U_24 r_23) ∧ (r_23.toInt = 0) ∧ ∃ r_31 : Int32, ∃ U_32 : AA, (Fr G [8, 5, 15, 11, 10, 9] U_24 U_32) ∧ (C_X3_failsByTime G U_24 R (R (R h0 1) 3) U_32 r_31) ∧ (r_31.toInt = 0) ∧ Z = U_32 ∧ r = 0)
  ∨ (∃ r_7 : Int32, ∃ U_8 : AA, (Fr G [8, 5, 15, 11, 10, 9] B U_8) ∧ (C_X3_failsByTime G B R (R (R h0 1) 0) U_8 r_7) ∧ (r_7.toInt = 0) ∧ ∃ r_15 : Int32, ∃ U_16 : AA, (Fr G [8, 5, 15, 11, 10, 9] U_8 U_16) ∧ (C_X3_failsByTime G U_8 R (R (R h0 1) 1) U_16 r_15) ∧ (r_15.toInt = 0) ∧ ∃ r_23 : Int32, ∃ U_24 : AA, (Fr G [8, 5, 15, 11, 10, 9] U_16 U_24) ∧ (C_X3_failsByTime G U_16 R (R (R h0 1) 2) U_24 r_23) ∧ (r_23.toInt = 0) ∧ ∃ r_31 : Int32, ∃ U_32 : AA, (Fr G [8, 5, 15, 11, 10, 9] U_24 U_32) ∧ (C_X3_failsByTime G U_24 R (R (R h0 1) 3) U_32 r_31) ∧ (¬ r_31.toInt = 0) ∧ Z = U_32 ∧ r = 1)
  ∨ (∃ r_7 : Int32, ∃ U_8 : AA, (Fr G [8, 5, 15, 11, 10, 9] B U_8) ∧ (C_X3_failsByTime G B R (R (R h0 1) 0) U_8 r_7) ∧ (r_7.toInt = 0) ∧ ∃ r_15 : Int32, ∃ U_16 : AA, (Fr G [8, 5, 15, 11, 10, 9] U_8 U_16) ∧ (C_X3_failsByTime G U_8 R (R (R h0 1) 1) U_16 r_15) ∧ (r_15.toInt = 0) ∧ ∃ r_23 : Int32, ∃ U_24 : AA, (Fr G [8, 5, 15, 11, 10, 9] U_16 U_24) ∧ (C_X3_failsByTime G U_16 R (R (R h0 1) 2) U_24 r_23) ∧ (¬ r_23.toInt = 0) ∧ ∃ r_41 : Int32, ∃ U_42 : AA, (Fr G [8, 5, 15, 11, 10, 9] U_24 U_42) ∧ (C_X3_failsByTime G U_24 R (R (R h0 1) 3) U_42 r_41) ∧ (r_41.toInt = 0) ∧ Z = U_42 ∧ r = 1)
  ∨ (∃ r_7 : Int32, ∃ U_8 : AA, (Fr G [8, 5, 15, 11, 10, 9] B U_8) ∧ (C_X3_failsByTime G B R (R (R h0 1) 0) U_8 r_7) ∧ (r_7.toInt = 0) ∧ ∃ r_15 : Int32, ∃ U_16 : AA, (Fr G [8, 5, 15, 11, 10, 9] U_8 U_16) ∧ (C_X3_failsByTime G U_8 R (R (R h0 1) 1) U_16 r_15) ∧ (r_15.toInt = 0) ∧ ∃ r_23 : Int32, ∃ U_24 : AA, (Fr G [8, 5, 15, 11, 10, 9] U_16 U_24) ∧ (C_X3_failsByTime G U_16 R (R (R h0 1) 2) U_24 r_23) ∧ (¬ r_23.toInt = 0) ∧ ∃ r_41 : Int32, ∃ U_42 : AA, (Fr G [8, 5, 15, 11, 10, 9] U_24 U_42) ∧ (C_X3_failsByTime G U_24 R (R (R h0 1) 3) U_42 r_41) ∧ (¬ r_41.toInt = 0) ∧ Z = U_42 ∧ r = 2)
  ∨ (∃ r_7 : Int32, ∃ U_8 : AA, (Fr G [8, 5, 15, 11, 10, 9] B U_8) ∧ (C_X3_failsByTime G B R (R (R h0 1) 0) U_8 r_7) ∧ (r_7.toInt = 0) ∧ ∃ r_15 : Int32, ∃ U_16 : AA, (Fr G [8, 5, 15, 11, 10, 9] U_8 U_16) ∧ (C_X3_failsByTime G U_8 R (R (R h0 1) 1) U_16 r_15) ∧ (¬ r_15.toInt = 0) ∧ ∃ r_51 : Int32, ∃ U_52 : AA, (Fr G [8, 5, 15, 11, 10, 9] U_16 U_52) ∧ (C_X3_failsByTime G U_16 R (R (R h0 1) 2) U_52 r_51) ∧ (r_51.toInt = 0) ∧ ∃ r_59 : Int32, ∃ U_60 : AA, (Fr G [8, 5, 15, 11, 10, 9] U_52 U_60) ∧ (C_X3_failsByTime G U_52 R (R (R h0 1) 3) U_60 r_59) ∧ (r_59.toInt = 0) ∧ Z = U_60 ∧ r = 1)
  ∨ (∃ r_7 : Int32, ∃ U_8 : AA, (Fr G [8, 5, 15, 11, 10, 9] B U_8) ∧ (C_X3_failsByTime G B R (R (R h0 1) 0) U_8 r_7) ∧ (r_7.toInt = 0) ∧ ∃ r_15 : Int32, ∃ U_16 : AA, (Fr G [8, 5, 15, 11, 10, 9] U_8 U_16) ∧ (C_X3_failsByTime G U_8 R (R (R h0 1) 1) U_16 r_15) ∧ (¬ r_15.toInt = 0) ∧ ∃ r_51 : Int32, ∃ U_52 : AA, (Fr G [8, 5, 15, 11, 10, 9] U_16 U_52) ∧ (C_X3_failsByTime G U_16 R (R (R h0 1) 2) U_52 r_51) ∧ (r_51.toInt = 0) ∧ ∃ r_59 : Int32, ∃ U_60 : AA, (Fr G [8, 5, 15, 11, 10, 9] U_52 U_60) ∧ (C_X3_failsByTime G U_52 R (R (R h0 1) 3) U_60 r_59) ∧ (¬ r_59.toInt = 0) ∧ Z = U_60 ∧ r = 2)
  ∨ (∃ r_7 : Int32, ∃ U_8 : AA, (Fr G [8, 5, 15, 11, 10, 9] B U_8) ∧ (C_X3_failsByTime G B R (R (R h0 1) 0) U_8 r_7) ∧ (r_7.toInt = 0) ∧ ∃ r_15 : Int32, ∃ U_16 : AA, (Fr G [8, 5, 15, 11, 10, 9] U_8 U_16) ∧ (C_X3_failsByTime G U_8 R (R (R h0 1) 1) U_16 r_15) ∧ (¬ r_15.toInt = 0) ∧ ∃ r_51 : Int32, ∃ U_52 : AA, (Fr G [8, 5, 15, 11, 10, 9] U_16 U_52) ∧ (C_X3_failsByTime G U_16 R (R (R h0 1) 2) U_52 r_51) ∧ (¬ r_51.toInt = 0) ∧ ∃ r_69 : Int32, ∃ U_70 : AA, (Fr G [8, 5, 15, 11, 10, 9] U_52 U_70) ∧ (C_X3_failsByTime G U_52 R (R (R h0 1) 3) U_70 r_69) ∧ (r_69.toInt = 0) ∧ Z = U_70 ∧ r = 2)
  ∨ (∃ r_7 : Int32, ∃ U_8 : AA, (Fr G [8, 5, 15, 11, 10, 9] B U_8) ∧ (C_X3_failsByTime G B R (R (R h0 1) 0) U_8 r_7) ∧ (r_7.toInt = 0) ∧ ∃ r_15 : Int32, ∃ U_16 : AA, (Fr G [8, 5, 15, 11, 10, 9] U_8 U_16) ∧ (C_X3_failsByTime G U_8 R (R (R h0 1) 1) U_16 r_15) ∧ (¬ r_15.toInt = 0) ∧ ∃ r_51 : Int32, ∃ U_52 : AA, (Fr G [8, 5, 15, 11, 10, 9] U_16 U_52) ∧ (C_X3_failsByTime G U_16 R (R (R h0 1) 2) U_52 r_51) ∧ (¬ r_51.toInt = 0) ∧ ∃ r_69 : Int32, ∃ U_70 : AA, (Fr G [8, 5, 15, 11, 10, 9] U_52 U_70) ∧ (C_X3_failsByTime G U_52 R (R (R h0 1) 3) U_70 r_69) ∧ (¬ r_69.toInt = 0) ∧ Z = U_70 ∧ r = 3)
  ∨ (∃ r_7 : Int32, ∃ U_8 : AA, (Fr G [8, 5, 15, 11, 10, 9] B U_8) ∧ (C_X3_failsByTime G B R (R (R h0 1) 0) U_8 r_7) ∧ (¬ r_7.toInt = 0) ∧ ∃ r_79 : Int32, ∃ U_80 : AA, (Fr G [8, 5, 15, 11, 10, 9] U_8 U_80) ∧ (C_X3_failsByTime G U_8 R (R (R h0 1) 1) U_80 r_79) ∧ (r_79.toInt = 0) ∧ ∃ r_87 : Int32, ∃ U_88 : AA, (Fr G [8, 5, 15, 11, 10, 9] U_80 U_88) ∧ (C_X3_failsByTime G U_80 R (R (R h0 1) 2) U_88 r_87) ∧ (r_87.toInt = 0) ∧ ∃ r_95 : Int32, ∃ U_96 : AA, (Fr G [8, 5, 15, 11, 10, 9] U_88 U_96) ∧ (C_X3_failsByTime G U_88 R (R (R h0 1) 3) U_96 r_95) ∧ (r_95.toInt = 0) ∧ Z = U_96 ∧ r = 1)
  ∨ (∃ r_7 : Int32, ∃ U_8 : AA, (Fr G [8, 5, 15, 11, 10, 9] B U_8) ∧ (C_X3_failsByTime G B R (R (R h0 1) 0) U_8 r_7) ∧ (¬ r_7.toInt = 0) ∧ ∃ r_79 : Int32, ∃ U_80 : AA, (Fr G [8, 5, 15, 11, 10, 9] U_8 U_80) ∧ (C_X3_failsByTime G U_8 R (R (R h0 1) 1) U_80 r_79) ∧ (r_79.toInt = 0) ∧ ∃ r_87 : Int32, ∃ U_88 : AA, (Fr G [8, 5, 15, 11, 10, 9] U_80 U_88) ∧ (C_X3_failsByTime G U_80 R (R (R h0 1) 2) U_88 r_87) ∧ (r_87.toInt = 0) ∧ ∃ r_95 : Int32, ∃ U_96 : AA, (Fr G [8, 5, 15, 11, 10, 9] U_88 U_96) ∧ (C_X3_failsByTime G U_88 R (R (R h0 1) 3) U_96 r_95) ∧ (¬ r_95.toInt = 0) ∧ Z = U_96 ∧ r = 2)
  ∨ (∃ r_7 : Int32, ∃ U_8 : AA, (Fr G [8, 5, 15, 11, 10, 9] B U_8) ∧ (C_X3_failsByTime G B R (R (R h0 1) 0) U_8 r_7) ∧ (¬ r_7.toInt = 0) ∧ ∃ r_79 : Int32, ∃ U_80 : AA, (Fr G [8, 5, 15, 11, 10, 9] U_8 U_80) ∧ (C_X3_failsByTime G U_8 R (R (R h0 1) 1) U_80 r_79) ∧ (r_79.toInt = 0) ∧ ∃ r_87 : Int32, ∃ U_88 : AA, (Fr G [8, 5, 15, 11, 10, 9] U_80 U_88) ∧ (C_X3_failsByTime G U_80 R (R (R h0 1) 2) U_88 r_87) ∧ (¬ r_87.toInt = 0) ∧ ∃ r_105 : Int32, ∃ U_106 : AA, (Fr G [8, 5, 15, 11, 10, 9] U_88 U_106) ∧ (C_X3_failsByTime G U_88 R (R (R h0 1) 3) U_106 r_105) ∧ (r_105.toInt = 0) ∧ Z = U_106 ∧ r = 2)
  ∨ (∃ r_7 : Int32, ∃ U_8 : AA, (Fr G [8, 5, 15, 11, 10, 9] B U_8) ∧ (C_X3_failsByTime G B R (R (R h0 1) 0) U_8 r_7) ∧ (¬ r_7.toInt = 0) ∧ ∃ r_79 : Int32, ∃ U_80 : AA, (Fr G [8, 5, 15, 11, 10, 9] U_8 U_80) ∧ (C_X3_failsByTime G U_8 R (R (R h0 1) 1) U_80 r_79) ∧ (r_79.toInt = 0) ∧ ∃ r_87 : Int32, ∃ U_88 : AA, (Fr G [8, 5, 15, 11, 10, 9] U_80 U_88) ∧ (C_X3_failsByTime G U_80 R (R (R h0 1) 2) U_88 r_87) ∧ (¬ r_87.toInt = 0) ∧ ∃ r_105 : Int32, ∃ U_106 : AA, (Fr G [8, 5, 15, 11, 10, 9] U_88 U_106) ∧ (C_X3_failsByTime G U_88 R (R (R h0 1) 3) U_106 r_105) ∧ (¬ r_105.toInt = 0) ∧ Z = U_106 ∧ r = 3)
  ∨ (∃ r_7 : Int32, ∃ U_8 : AA, (Fr G [8, 5, 15, 11, 10, 9] B U_8) ∧ (C_X3_failsByTime G B R (R (R h0 1) 0) U_8 r_7) ∧ (¬ r_7.toInt = 0) ∧ ∃ r_79 : Int32, ∃ U_80 : AA, (Fr G [8, 5, 15, 11, 10, 9] U_8 U_80) ∧ (C_X3_failsByTime G U_8 R (R (R h0 1) 1) U_80 r_79) ∧ (¬ r_79.toInt = 0) ∧ ∃ r_115 : Int32, ∃ U_116 : AA, (Fr G [8, 5, 15, 11, 10, 9] U_80 U_116) ∧ (C_X3_failsByTime G U_80 R (R (R h0 1) 2) U_116 r_115) ∧ (r_115.toInt = 0) ∧ ∃ r_123 : Int32, ∃ U_124 : AA, (Fr G [8, 5, 15, 11, 10, 9] U_116 U_124) ∧ (C_X3_failsByTime G U_116 R (R (R h0 1) 3) U_124 r_123) ∧ (r_123.toInt = 0) ∧ Z = U_124 ∧ r = 2)
  ∨ (∃ r_7 : Int32, ∃ U_8 : AA, (Fr G [8, 5, 15, 11, 10, 9] B U_8) ∧ (C_X3_failsByTime G B R (R (R h0 1) 0) U_8 r_7) ∧ (¬ r_7.toInt = 0) ∧ ∃ r_79 : Int32, ∃ U_80 : AA, (Fr G [8, 5, 15, 11, 10, 9] U_8 U_80) ∧ (C_X3_failsByTime G U_8 R (R (R h0 1) 1) U_80 r_79) ∧ (¬ r_79.toInt = 0) ∧ ∃ r_115 : Int32, ∃ U_116 : AA, (Fr G [8, 5, 15, 11, 10, 9] U_80 U_116) ∧ (C_X3_failsByTime G U_80 R (R (R h0 1) 2) U_116 r_115) ∧ (r_115.toInt = 0) ∧ ∃ r_123 : Int32, ∃ U_124 : AA, (Fr G [8, 5, 15, 11, 10, 9] U_116 U_124) ∧ (C_X3_failsByTime G U_116 R (R (R h0 1) 3) U_124 r_123) ∧ (¬ r_123.toInt = 0) ∧ Z = U_124 ∧ r = 3)
  ∨ (∃ r_7 : Int32, ∃ U_8 : AA, (Fr G [8, 5, 15, 11, 10, 9] B U_8) ∧ (C_X3_failsByTime G B R (R (R h0 1) 0) U_8 r_7) ∧ (¬ r_7.toInt = 0) ∧ ∃ r_79 : Int32, ∃ U_80 : AA, (Fr G [8, 5, 15, 11, 10, 9] U_8 U_80) ∧ (C_X3_failsByTime G U_8 R (R (R h0 1) 1) U_80 r_79) ∧ (¬ r_79.toInt = 0) ∧ ∃ r_115 : Int32, ∃ U_116 : AA, (Fr G [8, 5, 15, 11, 10, 9] U_80 U_116) ∧ (C_X3_failsByTime G U_80 R (R (R h0 1) 2) U_116 r_115) ∧ (¬ r_115.toInt = 0) ∧ ∃ r_133 : Int32, ∃ U_134 : AA, (Fr G [8, 5, 15, 11, 10, 9] U_116 U_134) ∧ (C_X3_failsByTime G U_116 R (R (R h0 1) 3) U_134 r_133) ∧ (r_133.toInt = 0) ∧ Z = U_134 ∧ r = 3)
  ∨ (∃ r_7 : Int32, ∃ U_8 : AA, (Fr G [8, 5, 15, 11, 10, 9] B U_8) ∧ (C_X3_failsByTime G B R (R (R h0 1) 0) U_8 r_7) ∧ (¬ r_7.toInt = 0) ∧ ∃ r_79 : Int32, ∃ U_80 : AA, (Fr G [8, 5, 15, 11, 10, 9] U_8 U_80) ∧ (C_X3_failsByTime G U_8 R (R (R h0 1) 1) U_80 r_79) ∧ (¬ r_79.toInt = 0) ∧ ∃ r_115 : Int32, ∃ U_116 : AA, (Fr G [8, 5, 15, 11, 10, 9] U_80 U_116) ∧ (C_X3_failsByTime G U_80 R (R (R h0 1) 2) U_116 r_115) ∧ (¬ r_115.toInt = 0) ∧ ∃ r_133 : Int32, ∃ U_134 : AA, (Fr G [8, 5, 15, 11, 10, 9] U_116 U_134) ∧ (C_X3_failsByTime G U_116 R (R (R h0 1) 3) U_134 r_133) ∧ (¬ r_133.toInt = 0) ∧ Z = U_134 ∧ r = 4)
def C_X9_packets (G : Nat → Nat) (B : AA) (R : RR) (h0 : Nat)  (r : Int32) : Prop :=
  (r = (B (R h0 2) 1))
def C_X9_packet (G : Nat → Nat) (B : AA) (R : RR) (h0 : Nat) (p0 : Int32) (p1 : Int32) (r : Int32) : Prop :=
  (∃ r_4 : Int32, (C_X0_has G B R (R h0 2) p0 r_4) ∧ (r_4.toInt = 0) ∧ r = (-1))
  ∨ (∃ r_4 : Int32, (C_X0_has G B R (R h0 2) p0 r_4) ∧ (¬ r_4.toInt = 0) ∧ ∃ n_11 : Nat, ((n_11 : Int) = p0.toInt) ∧ ∃ r_14 : Int32, (C_X2_tell G B R (R (R (R h0 2) 0) n_11) p1 r_14) ∧ r = r_14)
def C_X9_pair (G : Nat → Nat) (B : AA) (R : RR) (h0 : Nat) (p0 : Int32) (p1 : Int32) (r : Int32) : Prop :=
  ((¬ (0 ≤ p0.toInt ∧ p0.toInt < 4)) ∧ r = (-1))
  ∨ ((0 ≤ p0.toInt ∧ p0.toInt < 4) ∧ ∃ n_6 : Nat, ((n_6 : Int) = p0.toInt) ∧ ∃ r_9 : Int32, (C_X3_tell G B R (R (R h0 1) n_6) p1 r_9) ∧ r = r_9)
def C_X9_completions (G : Nat → Nat) (B : AA) (R : RR) (h0 : Nat) (p0 : Int32) (r : Int32) : Prop :=
  ((¬ (0 ≤ p0.toInt ∧ p0.toInt < 2)) ∧ r = (-1))
  ∨ ((0 ≤ p0.toInt ∧ p0.toInt < 2) ∧ ∃ n_6 : Nat, ((n_6 : Int) = p0.toInt) ∧ r = (B (R (R h0 0) n_6) 4))
def C_X9_poll (G : Nat → Nat) (B : AA) (R : RR) (h0 : Nat) (p0 : Int32) (p1 : Int32) (Z : AA) (r : Int32) : Prop :=
  ((0 ≤ p0.toInt ∧ p0.toInt < 2) ∧ (¬ p1.toInt < -1) ∧ (¬ 5 ≤ p1.toInt) ∧ ∃ n_12 : Nat, ((n_12 : Int) = p0.toInt) ∧ (¬ (B (R (R h0 0) n_12) 4).toInt = 0) ∧ (p1.toInt < 0) ∧ ∃ U_19 : AA, (Fr G [5] B U_19) ∧ (C_X1_dropFirst G B R (R (R h0 0) n_12) U_19) ∧ Z = U_19 ∧ r = 0)
  ∨ ((0 ≤ p0.toInt ∧ p0.toInt < 2) ∧ (¬ p1.toInt < -1) ∧ (¬ 5 ≤ p1.toInt) ∧ ∃ n_12 : Nat, ((n_12 : Int) = p0.toInt) ∧ (¬ (B (R (R h0 0) n_12) 4).toInt = 0) ∧ (¬ p1.toInt < 0) ∧ ∃ r_20 : Int32, (C_X1_tellFirst G B R (R (R h0 0) n_12) p1 r_20) ∧ Z = B ∧ r = r_20)
def X_X9_poll (G : Nat → Nat) (B : AA) (R : RR) (h0 : Nat) (p0 : Int32) (p1 : Int32) (En : String) : Prop :=
  ((¬ (0 ≤ p0.toInt ∧ p0.toInt < 2)) ∧ En = IAE)
  ∨ ((0 ≤ p0.toInt ∧ p0.toInt < 2) ∧ (p1.toInt < -1) ∧ En = IAE)
  ∨ ((0 ≤ p0.toInt ∧ p0.toInt < 2) ∧ (¬ p1.toInt < -1) ∧ (5 ≤ p1.toInt) ∧ En = IAE)
  ∨ ((0 ≤ p0.toInt ∧ p0.toInt < 2) ∧ (¬ p1.toInt < -1) ∧ (¬ 5 ≤ p1.toInt) ∧ ∃ n_12 : Nat, ((n_12 : Int) = p0.toInt) ∧ ((B (R (R h0 0) n_12) 4).toInt = 0) ∧ En = NSE)
def peerT (q : Int32) : Int32 := if q - q / 2 * 2 = 0 then q + 1 else q - 1
theorem peerT_b {q : Int32} (h : 0 ≤ q.toInt ∧ q.toInt ≤ 3) : 0 ≤ (peerT q).toInt ∧ (peerT q).toInt ≤ 3 := by
  obtain ⟨j, hj, rfl⟩ := vp_in_of (x := q) (n := 4) (vp_in_iff.mpr ⟨h.1, by omega⟩) (by decide)
  rcases (show j = 0 ∨ j = 1 ∨ j = 2 ∨ j = 3 by omega) with rfl | rfl | rfl | rfl <;> decide
theorem far_t {a b : Int32} (ha : 0 ≤ a.toInt ∧ a.toInt ≤ 64) (hb : 0 ≤ b.toInt ∧ b.toInt ≤ 64) : ((b - a + 64) - (b - a + 64) / 64 * 64).toInt = (b.toInt - a.toInt + 64) % 64 := by
  have h1 := s_sub (x := b) (y := a) (by omega) (by omega)
  have h2 := s_add (x := b - a) (y := 64) (by rw [i_64, h1]; omega) (by rw [i_64, h1]; omega)
  rw [i_64, h1] at h2
  have h3 := s_rem (x := b - a + 64) 64 (by decide) (by decide) (by rw [h2]; omega)
  rw [h2] at h3
  exact h3
def D_X10_thrown (A : AA) (cd pk : Int32) (r : Int32) : Prop :=
  (r = cd)
def D_X10_fail (A : AA) (cd pk : Int32) (p0 : Int32) (Z : AA) (cdz pkz : Int32) (r : Int32) : Prop :=
  (Z = A ∧ cdz = p0 ∧ pkz = pk ∧ r = 0)
def D_X10_region (A : AA) (cd pk : Int32) (p0 : Int32) (p1 : Int32) (p2 : Int32) (p3 : Int32) (p4 : Int32) (Z : AA) (cdz pkz : Int32) : Prop :=
  ((¬ (0 ≤ p0.toInt ∧ p0.toInt ≤ (1 : Int32).toInt)) ∧ Z = (uA (uA (uA A 5 (A 5)) 6 (A 6)) 7 (A 7)) ∧ cdz = 1 ∧ pkz = pk)
  ∨ ((0 ≤ p0.toInt ∧ p0.toInt ≤ (1 : Int32).toInt) ∧ (¬ (0 ≤ p1.toInt ∧ p1.toInt ≤ (5 : Int32).toInt)) ∧ Z = (uA (uA (uA A 5 (A 5)) 6 (A 6)) 7 (A 7)) ∧ cdz = 1 ∧ pkz = pk)
  ∨ ((0 ≤ p0.toInt ∧ p0.toInt ≤ (1 : Int32).toInt) ∧ (0 ≤ p1.toInt ∧ p1.toInt ≤ (5 : Int32).toInt) ∧ (¬ (0 ≤ p2.toInt ∧ p2.toInt ≤ (32 : Int32).toInt)) ∧ Z = (uA (uA (uA A 5 (A 5)) 6 (A 6)) 7 (A 7)) ∧ cdz = 1 ∧ pkz = pk)
  ∨ ((0 ≤ p0.toInt ∧ p0.toInt ≤ (1 : Int32).toInt) ∧ (0 ≤ p1.toInt ∧ p1.toInt ≤ (5 : Int32).toInt) ∧ (0 ≤ p2.toInt ∧ p2.toInt ≤ (32 : Int32).toInt) ∧ (¬ (0 ≤ p3.toInt ∧ p3.toInt ≤ (32 : Int32).toInt)) ∧ Z = (uA (uA (uA A 5 (A 5)) 6 (A 6)) 7 (A 7)) ∧ cdz = 1 ∧ pkz = pk)
  ∨ ((0 ≤ p0.toInt ∧ p0.toInt ≤ (1 : Int32).toInt) ∧ (0 ≤ p1.toInt ∧ p1.toInt ≤ (5 : Int32).toInt) ∧ (0 ≤ p2.toInt ∧ p2.toInt ≤ (32 : Int32).toInt) ∧ (0 ≤ p3.toInt ∧ p3.toInt ≤ (32 : Int32).toInt) ∧ (0 ≤ p4.toInt ∧ p4.toInt ≤ (7 : Int32).toInt) ∧ ∃ x_10 : Int32, (x_10 = p2 + p3) ∧ (x_10.toInt = p2.toInt + p3.toInt) ∧ (x_10.toInt ≤ 32) ∧ ∃ x_13 : Int32, (x_13 = 6 * p0) ∧ (x_13.toInt = 6 * p0.toInt) ∧ ∃ x_14 : Int32, (x_14 = x_13 + p1) ∧ (x_14.toInt = x_13.toInt + p1.toInt) ∧ ∃ n_17 : Nat, ((n_17 : Int) = x_14.toInt) ∧ ∃ g_16 : Nat → Int32, (g_16 = upd (A 5) n_17 p2) ∧ ∃ g_18 : Nat → Int32, (g_18 = upd (A 6) n_17 p3) ∧ ∃ g_19 : Nat → Int32, (g_19 = upd (A 7) n_17 p4) ∧ Z = (uA (uA (uA A 5 g_16) 6 g_18) 7 g_19) ∧ cdz = 0 ∧ pkz = pk)
  ∨ ((0 ≤ p0.toInt ∧ p0.toInt ≤ (1 : Int32).toInt) ∧ (0 ≤ p1.toInt ∧ p1.toInt ≤ (5 : Int32).toInt) ∧ (0 ≤ p2.toInt ∧ p2.toInt ≤ (32 : Int32).toInt) ∧ (0 ≤ p3.toInt ∧ p3.toInt ≤ (32 : Int32).toInt) ∧ (0 ≤ p4.toInt ∧ p4.toInt ≤ (7 : Int32).toInt) ∧ ∃ x_10 : Int32, (x_10 = p2 + p3) ∧ (x_10.toInt = p2.toInt + p3.toInt) ∧ (¬ x_10.toInt ≤ 32) ∧ Z = (uA (uA (uA A 5 (A 5)) 6 (A 6)) 7 (A 7)) ∧ cdz = 1 ∧ pkz = pk)
  ∨ ((0 ≤ p0.toInt ∧ p0.toInt ≤ (1 : Int32).toInt) ∧ (0 ≤ p1.toInt ∧ p1.toInt ≤ (5 : Int32).toInt) ∧ (0 ≤ p2.toInt ∧ p2.toInt ≤ (32 : Int32).toInt) ∧ (0 ≤ p3.toInt ∧ p3.toInt ≤ (32 : Int32).toInt) ∧ (¬ (0 ≤ p4.toInt ∧ p4.toInt ≤ (7 : Int32).toInt)) ∧ Z = (uA (uA (uA A 5 (A 5)) 6 (A 6)) 7 (A 7)) ∧ cdz = 1 ∧ pkz = pk)
def D_X10_store (A : AA) (cd pk : Int32) (p0 : Int32) (p1 : Int32) (p2 : Int32) (Z : AA) (cdz pkz : Int32) : Prop :=
  ((¬ (0 ≤ p0.toInt ∧ p0.toInt ≤ (1 : Int32).toInt)) ∧ Z = (uA A 4 (A 4)) ∧ cdz = 1 ∧ pkz = pk)
  ∨ ((0 ≤ p0.toInt ∧ p0.toInt ≤ (1 : Int32).toInt) ∧ (0 ≤ p1.toInt ∧ p1.toInt ≤ (31 : Int32).toInt) ∧ ∃ x_3 : Int32, (x_3 = 32 * p0) ∧ (x_3.toInt = 32 * p0.toInt) ∧ ∃ x_4 : Int32, (x_4 = x_3 + p1) ∧ (x_4.toInt = x_3.toInt + p1.toInt) ∧ ∃ n_7 : Nat, ((n_7 : Int) = x_4.toInt) ∧ ∃ g_6 : Nat → Int32, (g_6 = upd (A 4) n_7 p2) ∧ Z = (uA A 4 g_6) ∧ cdz = 0 ∧ pkz = pk)
  ∨ ((0 ≤ p0.toInt ∧ p0.toInt ≤ (1 : Int32).toInt) ∧ (¬ (0 ≤ p1.toInt ∧ p1.toInt ≤ (31 : Int32).toInt)) ∧ Z = (uA A 4 (A 4)) ∧ cdz = 1 ∧ pkz = pk)
def D_X10_cell (A : AA) (cd pk : Int32) (p0 : Int32) (p1 : Int32) (Z : AA) (cdz pkz : Int32) (r : Int32) : Prop :=
  ((¬ (0 ≤ p0.toInt ∧ p0.toInt ≤ (1 : Int32).toInt)) ∧ Z = A ∧ cdz = 0 ∧ pkz = pk ∧ r = 0)
  ∨ ((0 ≤ p0.toInt ∧ p0.toInt ≤ (1 : Int32).toInt) ∧ (¬ (0 ≤ p1.toInt ∧ p1.toInt ≤ (31 : Int32).toInt)) ∧ Z = A ∧ cdz = 0 ∧ pkz = pk ∧ r = 0)
  ∨ ((0 ≤ p0.toInt ∧ p0.toInt ≤ (1 : Int32).toInt) ∧ (0 ≤ p1.toInt ∧ p1.toInt ≤ (31 : Int32).toInt) ∧ ∃ x_3 : Int32, (x_3 = 32 * p0) ∧ (x_3.toInt = 32 * p0.toInt) ∧ ∃ x_4 : Int32, (x_4 = x_3 + p1) ∧ (x_4.toInt = x_3.toInt + p1.toInt) ∧ ∃ n_7 : Nat, ((n_7 : Int) = x_4.toInt) ∧ Z = A ∧ cdz = 0 ∧ pkz = pk ∧ r = ((A 4) n_7))
def D_X10_complete (A : AA) (cd pk : Int32) (p0 : Int32) (p1 : Int32) (p2 : Int32) (p3 : Int32) (p4 : Int32) (Z : AA) (cdz pkz : Int32) : Prop :=
  (∃ x_1 : Int32, (x_1 = p0 - p0 / 2 * 2) ∧ (x_1.toInt = p0.toInt % 2) ∧ ∃ n_4 : Nat, ((n_4 : Int) = x_1.toInt) ∧ (¬ ((A 8) n_4).toInt = 16) ∧ ∃ x_9 : Int32, (x_9 = 80 * x_1) ∧ (x_9.toInt = 80 * x_1.toInt) ∧ ∃ x_11 : Int32, (x_11 = 5 * ((A 8) n_4)) ∧ (x_11.toInt = 5 * ((A 8) n_4).toInt) ∧ ∃ x_12 : Int32, (x_12 = x_9 + x_11) ∧ (x_12.toInt = x_9.toInt + x_11.toInt) ∧ ∃ n_15 : Nat, ((n_15 : Int) = x_12.toInt) ∧ ∃ g_14 : Nat → Int32, (g_14 = upd (A 9) n_15 p0) ∧ ∃ x_16 : Int32, (x_16 = x_12 + 1) ∧ (x_16.toInt = x_12.toInt + 1) ∧ ∃ n_19 : Nat, ((n_19 : Int) = x_16.toInt) ∧ ∃ g_18 : Nat → Int32, (g_18 = upd g_14 n_19 p1) ∧ ∃ x_20 : Int32, (x_20 = x_12 + 2) ∧ (x_20.toInt = x_12.toInt + 2) ∧ ∃ n_23 : Nat, ((n_23 : Int) = x_20.toInt) ∧ ∃ g_22 : Nat → Int32, (g_22 = upd g_18 n_23 p2) ∧ ∃ x_24 : Int32, (x_24 = x_12 + 3) ∧ (x_24.toInt = x_12.toInt + 3) ∧ ∃ n_27 : Nat, ((n_27 : Int) = x_24.toInt) ∧ ∃ g_26 : Nat → Int32, (g_26 = upd g_22 n_27 p3) ∧ ∃ x_28 : Int32, (x_28 = x_12 + 4) ∧ (x_28.toInt = x_12.toInt + 4) ∧ ∃ n_31 : Nat, ((n_31 : Int) = x_28.toInt) ∧ ∃ g_30 : Nat → Int32, (g_30 = upd g_26 n_31 p4) ∧ ∃ x_33 : Int32, (x_33 = ((A 8) n_4) + 1) ∧ (x_33.toInt = ((A 8) n_4).toInt + 1) ∧ ∃ g_34 : Nat → Int32, (g_34 = upd (A 8) n_4 x_33) ∧ Z = (uA (uA A 8 g_34) 9 g_30) ∧ cdz = cd ∧ pkz = pk)
  ∨ (∃ x_1 : Int32, (x_1 = p0 - p0 / 2 * 2) ∧ (x_1.toInt = p0.toInt % 2) ∧ ∃ n_4 : Nat, ((n_4 : Int) = x_1.toInt) ∧ (((A 8) n_4).toInt = 16) ∧ Z = (uA (uA A 8 (A 8)) 9 (A 9)) ∧ cdz = cd ∧ pkz = pk)
def D_X10_allows (A : AA) (cd pk : Int32) (p0 : Int32) (p1 : Int32) (p2 : Int32) (p3 : Int32) (p4 : Int32) (r : Int32) : Prop :=
  (∃ x_1 : Int32, (x_1 = p0 - p0 / 2 * 2) ∧ (x_1.toInt = p0.toInt % 2) ∧ ∃ x_2 : Int32, (x_2 = 6 * x_1) ∧ (x_2.toInt = 6 * x_1.toInt) ∧ ∃ x_3 : Int32, (x_3 = x_2 + p1) ∧ (x_3.toInt = x_2.toInt + p1.toInt) ∧ ∃ n_6 : Nat, ((n_6 : Int) = x_3.toInt) ∧ ∃ x_7 : Int32, (x_7 = ((A 7) n_6) / p4) ∧ ∃ x_8 : Int32, (x_8 = x_7 - x_7 / 2 * 2) ∧ (¬ x_8.toInt = 1) ∧ r = 0)
  ∨ (∃ x_1 : Int32, (x_1 = p0 - p0 / 2 * 2) ∧ (x_1.toInt = p0.toInt % 2) ∧ ∃ x_2 : Int32, (x_2 = 6 * x_1) ∧ (x_2.toInt = 6 * x_1.toInt) ∧ ∃ x_3 : Int32, (x_3 = x_2 + p1) ∧ (x_3.toInt = x_2.toInt + p1.toInt) ∧ ∃ n_6 : Nat, ((n_6 : Int) = x_3.toInt) ∧ ∃ x_7 : Int32, (x_7 = ((A 7) n_6) / p4) ∧ ∃ x_8 : Int32, (x_8 = x_7 - x_7 / 2 * 2) ∧ (x_8.toInt = 1) ∧ (p2.toInt < ((A 5) n_6).toInt) ∧ r = 0)
  ∨ (∃ x_1 : Int32, (x_1 = p0 - p0 / 2 * 2) ∧ (x_1.toInt = p0.toInt % 2) ∧ ∃ x_2 : Int32, (x_2 = 6 * x_1) ∧ (x_2.toInt = 6 * x_1.toInt) ∧ ∃ x_3 : Int32, (x_3 = x_2 + p1) ∧ (x_3.toInt = x_2.toInt + p1.toInt) ∧ ∃ n_6 : Nat, ((n_6 : Int) = x_3.toInt) ∧ ∃ x_7 : Int32, (x_7 = ((A 7) n_6) / p4) ∧ ∃ x_8 : Int32, (x_8 = x_7 - x_7 / 2 * 2) ∧ (x_8.toInt = 1) ∧ (¬ p2.toInt < ((A 5) n_6).toInt) ∧ ∃ x_17 : Int32, (x_17 = p2 + p3) ∧ (x_17.toInt = p2.toInt + p3.toInt) ∧ ∃ x_21 : Int32, (x_21 = ((A 5) n_6) + ((A 6) n_6)) ∧ (x_21.toInt = ((A 5) n_6).toInt + ((A 6) n_6).toInt) ∧ (x_21.toInt < x_17.toInt) ∧ r = 0)
  ∨ (∃ x_1 : Int32, (x_1 = p0 - p0 / 2 * 2) ∧ (x_1.toInt = p0.toInt % 2) ∧ ∃ x_2 : Int32, (x_2 = 6 * x_1) ∧ (x_2.toInt = 6 * x_1.toInt) ∧ ∃ x_3 : Int32, (x_3 = x_2 + p1) ∧ (x_3.toInt = x_2.toInt + p1.toInt) ∧ ∃ n_6 : Nat, ((n_6 : Int) = x_3.toInt) ∧ ∃ x_7 : Int32, (x_7 = ((A 7) n_6) / p4) ∧ ∃ x_8 : Int32, (x_8 = x_7 - x_7 / 2 * 2) ∧ (x_8.toInt = 1) ∧ (¬ p2.toInt < ((A 5) n_6).toInt) ∧ ∃ x_17 : Int32, (x_17 = p2 + p3) ∧ (x_17.toInt = p2.toInt + p3.toInt) ∧ ∃ x_21 : Int32, (x_21 = ((A 5) n_6) + ((A 6) n_6)) ∧ (x_21.toInt = ((A 5) n_6).toInt + ((A 6) n_6).toInt) ∧ (¬ x_21.toInt < x_17.toInt) ∧ r = 1)
abbrev D_X10_move1_s1 (A : AA) (cd : Int32) (pk : Int32) (Z : AA) (cdz : Int32) (pkz : Int32) (g_8 : Nat → Int32) (g_11 : Nat → Int32) (g_13 : Nat → Int32) (g_15 : Nat → Int32) (g_17 : Nat → Int32) (g_19 : Nat → Int32) (g_21 : Nat → Int32) (x_23 : Int32) (x_25 : Int32) (g_40 : Nat → Int32) (n_47 : Nat) (n_50 : Nat) : Prop := ∃ g_49 : Nat → Int32, (g_49 = upd g_40 n_50 (g_40 n_47)) ∧ ∃ x_52 : Int32, (x_52 = x_23 + 3) ∧ (x_52.toInt = x_23.toInt + 3) ∧ ∃ x_53 : Int32, (x_53 = x_25 + 3) ∧ (x_53.toInt = x_25.toInt + 3) ∧ (∃ n_56 : Nat, ((n_56 : Int) = x_53.toInt) ∧ ∃ n_59 : Nat, ((n_59 : Int) = x_52.toInt) ∧ ∃ g_58 : Nat → Int32, (g_58 = upd g_49 n_59 (g_49 n_56)) ∧ (Z = (uA (uA (uA (uA (uA (uA (uA (uA A 41 g_8) 42 g_11) 43 g_13) 44 g_15) 45 g_17) 46 g_19) 47 g_21) 48 g_58)) ∧ (cdz = cd) ∧ (pkz = pk))
abbrev D_X10_move1_s2 (A : AA) (cd : Int32) (pk : Int32) (Z : AA) (cdz : Int32) (pkz : Int32) (g_8 : Nat → Int32) (g_11 : Nat → Int32) (g_13 : Nat → Int32) (g_15 : Nat → Int32) (g_17 : Nat → Int32) (g_19 : Nat → Int32) (g_21 : Nat → Int32) (x_23 : Int32) (x_25 : Int32) (g_31 : Nat → Int32) (x_34 : Int32) (x_35 : Int32) : Prop := ∃ n_38 : Nat, ((n_38 : Int) = x_35.toInt) ∧ ∃ n_41 : Nat, ((n_41 : Int) = x_34.toInt) ∧ ∃ g_40 : Nat → Int32, (g_40 = upd g_31 n_41 (g_31 n_38)) ∧ ∃ x_43 : Int32, (x_43 = x_23 + 2) ∧ ((x_43.toInt = x_23.toInt + 2) ∧ ∃ x_44 : Int32, (x_44 = x_25 + 2) ∧ (x_44.toInt = x_25.toInt + 2) ∧ ∃ n_47 : Nat, ((n_47 : Int) = x_44.toInt) ∧ ∃ n_50 : Nat, ((n_50 : Int) = x_43.toInt) ∧ (D_X10_move1_s1 A cd pk Z cdz pkz g_8 g_11 g_13 g_15 g_17 g_19 g_21 x_23 x_25 g_40 n_47 n_50))
abbrev D_X10_move1_s3 (A : AA) (cd : Int32) (pk : Int32) (p0 : Int32) (Z : AA) (cdz : Int32) (pkz : Int32) (g_8 : Nat → Int32) (g_11 : Nat → Int32) (g_13 : Nat → Int32) (g_15 : Nat → Int32) (g_17 : Nat → Int32) (g_19 : Nat → Int32) (g_21 : Nat → Int32) (x_23 : Int32) (x_24 : Int32) (x_25 : Int32) : Prop := (x_25.toInt = 4 * p0.toInt) ∧ ∃ x_26 : Int32, (x_26 = x_25 + 0) ∧ (x_26.toInt = x_25.toInt + 0) ∧ ∃ n_29 : Nat, ((n_29 : Int) = x_26.toInt) ∧ ∃ n_32 : Nat, ((n_32 : Int) = x_24.toInt) ∧ (∃ g_31 : Nat → Int32, (g_31 = upd (A 48) n_32 ((A 48) n_29)) ∧ ∃ x_34 : Int32, (x_34 = x_23 + 1) ∧ (x_34.toInt = x_23.toInt + 1) ∧ ∃ x_35 : Int32, (x_35 = x_25 + 1) ∧ (x_35.toInt = x_25.toInt + 1) ∧ (D_X10_move1_s2 A cd pk Z cdz pkz g_8 g_11 g_13 g_15 g_17 g_19 g_21 x_23 x_25 g_31 x_34 x_35))
abbrev D_X10_move1_s4 (A : AA) (cd : Int32) (pk : Int32) (p0 : Int32) (p1 : Int32) (Z : AA) (cdz : Int32) (pkz : Int32) (n_3 : Nat) (n_9 : Nat) (g_8 : Nat → Int32) (g_11 : Nat → Int32) (g_13 : Nat → Int32) : Prop := ∃ g_15 : Nat → Int32, (g_15 = upd (A 44) n_9 ((A 44) n_3)) ∧ ∃ g_17 : Nat → Int32, (g_17 = upd (A 45) n_9 ((A 45) n_3)) ∧ ∃ g_19 : Nat → Int32, (g_19 = upd (A 46) n_9 ((A 46) n_3)) ∧ ∃ g_21 : Nat → Int32, (g_21 = upd (A 47) n_9 ((A 47) n_3)) ∧ (∃ x_23 : Int32, (x_23 = 4 * p1) ∧ (x_23.toInt = 4 * p1.toInt) ∧ ∃ x_24 : Int32, (x_24 = x_23 + 0) ∧ (x_24.toInt = x_23.toInt + 0) ∧ ∃ x_25 : Int32, (x_25 = 4 * p0) ∧ (D_X10_move1_s3 A cd pk p0 Z cdz pkz g_8 g_11 g_13 g_15 g_17 g_19 g_21 x_23 x_24 x_25))
def D_X10_move1 (A : AA) (cd pk : Int32) (p0 : Int32) (p1 : Int32) (Z : AA) (cdz pkz : Int32) : Prop := ∃ n_3 : Nat, ((n_3 : Int) = p0.toInt) ∧ (∃ n_9 : Nat, ((n_9 : Int) = p1.toInt) ∧ ∃ g_8 : Nat → Int32, (g_8 = upd (A 41) n_9 ((A 41) n_3)) ∧ ∃ g_11 : Nat → Int32, (g_11 = upd (A 42) n_9 ((A 42) n_3)) ∧ ∃ g_13 : Nat → Int32, (g_13 = upd (A 43) n_9 ((A 43) n_3)) ∧ (D_X10_move1_s4 A cd pk p0 p1 Z cdz pkz n_3 n_9 g_8 g_11 g_13))
def D_X10_emit (A : AA) (cd pk : Int32) (p0 : Int32) (p1 : Int32) (p2 : Int32) (p3 : Int32) (p4 : Int32) (p5 : Int32) (Z : AA) (cdz pkz : Int32) (r : Int32) : Prop :=
  ((¬ pk.toInt = 24) ∧ ∃ x_2 : Int32, (x_2 = pk + 1) ∧ (x_2.toInt = pk.toInt + 1) ∧ ∃ x_3 : Int32, (x_3 = peerT p0) ∧ ∃ n_6 : Nat, ((n_6 : Int) = pk.toInt) ∧ ∃ g_5 : Nat → Int32, (g_5 = upd (A 41) n_6 x_3) ∧ ∃ g_7 : Nat → Int32, (g_7 = upd (A 42) n_6 p1) ∧ ∃ g_8 : Nat → Int32, (g_8 = upd (A 43) n_6 p2) ∧ ∃ g_9 : Nat → Int32, (g_9 = upd (A 44) n_6 0) ∧ ∃ g_10 : Nat → Int32, (g_10 = upd (A 45) n_6 p3) ∧ ∃ g_11 : Nat → Int32, (g_11 = upd (A 46) n_6 p4) ∧ ∃ g_12 : Nat → Int32, (g_12 = upd (A 47) n_6 p5) ∧ Z = (uA (uA (uA (uA (uA (uA (uA A 41 g_5) 42 g_7) 43 g_8) 44 g_9) 45 g_10) 46 g_11) 47 g_12) ∧ cdz = cd ∧ pkz = x_2 ∧ r = pk)
  ∨ ((pk.toInt = 24) ∧ Z = (uA (uA (uA (uA (uA (uA (uA A 41 (A 41)) 42 (A 42)) 43 (A 43)) 44 (A 44)) 45 (A 45)) 46 (A 46)) 47 (A 47)) ∧ cdz = cd ∧ pkz = pk ∧ r = (-1))
abbrev D_X10_load_s1 (A : AA) (cd : Int32) (pk : Int32) (p2 : Int32) (p3 : Int32) (Z : AA) (cdz : Int32) (pkz : Int32) (g_3 : Nat → Int32) (x_8 : Int32) (x_9 : Int32) (x_10 : Int32) : Prop := (x_10.toInt = 32 * x_9.toInt) ∧ ∃ x_11 : Int32, (x_11 = x_10 + p2) ∧ (x_11.toInt = x_10.toInt + p2.toInt) ∧ ∃ x_12 : Int32, (x_12 = x_11 + 0) ∧ (x_12.toInt = x_11.toInt + 0) ∧ ∃ n_15 : Nat, (((n_15 : Int) = x_12.toInt) ∧ ∃ n_18 : Nat, ((n_18 : Int) = x_8.toInt) ∧ ∃ g_17 : Nat → Int32, (g_17 = upd (A 48) n_18 ((A 4) n_15)) ∧ (p3.toInt ≤ 1) ∧ (Z = (uA (uA A 44 g_3) 48 g_17)) ∧ (cdz = cd) ∧ (pkz = pk))
abbrev D_X10_load_s2 (A : AA) (cd : Int32) (pk : Int32) (p0 : Int32) (p1 : Int32) (p2 : Int32) (p3 : Int32) (Z : AA) (cdz : Int32) (pkz : Int32) : Prop := (0 ≤ p0.toInt) ∧ (∃ n_4 : Nat, ((n_4 : Int) = p0.toInt) ∧ ∃ g_3 : Nat → Int32, (g_3 = upd (A 44) n_4 p3) ∧ (¬ p3.toInt ≤ 0) ∧ ∃ x_7 : Int32, (x_7 = 4 * p0) ∧ (x_7.toInt = 4 * p0.toInt) ∧ (∃ x_8 : Int32, (x_8 = x_7 + 0) ∧ (x_8.toInt = x_7.toInt + 0) ∧ ∃ x_9 : Int32, (x_9 = p1 - p1 / 2 * 2) ∧ (x_9.toInt = p1.toInt % 2) ∧ ∃ x_10 : Int32, (x_10 = 32 * x_9) ∧ (D_X10_load_s1 A cd pk p2 p3 Z cdz pkz g_3 x_8 x_9 x_10)))
abbrev D_X10_load_s3 (A : AA) (cd : Int32) (pk : Int32) (p2 : Int32) (p3 : Int32) (Z : AA) (cdz : Int32) (pkz : Int32) (g_3 : Nat → Int32) (g_17 : Nat → Int32) (x_21 : Int32) (x_22 : Int32) (x_23 : Int32) : Prop := (x_23.toInt = 32 * x_22.toInt) ∧ ∃ x_24 : Int32, (x_24 = x_23 + p2) ∧ (x_24.toInt = x_23.toInt + p2.toInt) ∧ ∃ x_25 : Int32, (x_25 = x_24 + 1) ∧ (x_25.toInt = x_24.toInt + 1) ∧ ∃ n_28 : Nat, (((n_28 : Int) = x_25.toInt) ∧ ∃ n_31 : Nat, ((n_31 : Int) = x_21.toInt) ∧ ∃ g_30 : Nat → Int32, (g_30 = upd g_17 n_31 ((A 4) n_28)) ∧ (p3.toInt ≤ 2) ∧ (Z = (uA (uA A 44 g_3) 48 g_30)) ∧ (cdz = cd) ∧ (pkz = pk))
abbrev D_X10_load_s4 (A : AA) (cd : Int32) (pk : Int32) (p1 : Int32) (p2 : Int32) (p3 : Int32) (Z : AA) (cdz : Int32) (pkz : Int32) (g_3 : Nat → Int32) (x_7 : Int32) (x_8 : Int32) (x_11 : Int32) (x_12 : Int32) : Prop := (x_12.toInt = x_11.toInt + 0) ∧ ∃ n_15 : Nat, ((n_15 : Int) = x_12.toInt) ∧ ∃ n_18 : Nat, ((n_18 : Int) = x_8.toInt) ∧ ∃ g_17 : Nat → Int32, (g_17 = upd (A 48) n_18 ((A 4) n_15)) ∧ (¬ p3.toInt ≤ 1) ∧ (∃ x_21 : Int32, (x_21 = x_7 + 1) ∧ (x_21.toInt = x_7.toInt + 1) ∧ ∃ x_22 : Int32, (x_22 = p1 - p1 / 2 * 2) ∧ (x_22.toInt = p1.toInt % 2) ∧ ∃ x_23 : Int32, (x_23 = 32 * x_22) ∧ (D_X10_load_s3 A cd pk p2 p3 Z cdz pkz g_3 g_17 x_21 x_22 x_23))
abbrev D_X10_load_s5 (A : AA) (cd : Int32) (pk : Int32) (p0 : Int32) (p1 : Int32) (p2 : Int32) (p3 : Int32) (Z : AA) (cdz : Int32) (pkz : Int32) (g_3 : Nat → Int32) (x_7 : Int32) : Prop := (x_7 = 4 * p0) ∧ (x_7.toInt = 4 * p0.toInt) ∧ ∃ x_8 : Int32, (x_8 = x_7 + 0) ∧ (x_8.toInt = x_7.toInt + 0) ∧ ∃ x_9 : Int32, (x_9 = p1 - p1 / 2 * 2) ∧ (x_9.toInt = p1.toInt % 2) ∧ (∃ x_10 : Int32, (x_10 = 32 * x_9) ∧ (x_10.toInt = 32 * x_9.toInt) ∧ ∃ x_11 : Int32, (x_11 = x_10 + p2) ∧ (x_11.toInt = x_10.toInt + p2.toInt) ∧ ∃ x_12 : Int32, (x_12 = x_11 + 0) ∧ (D_X10_load_s4 A cd pk p1 p2 p3 Z cdz pkz g_3 x_7 x_8 x_11 x_12))
abbrev D_X10_load_s6 (A : AA) (cd : Int32) (pk : Int32) (p2 : Int32) (p3 : Int32) (Z : AA) (cdz : Int32) (pkz : Int32) (g_3 : Nat → Int32) (g_30 : Nat → Int32) (x_34 : Int32) (x_35 : Int32) (x_36 : Int32) : Prop := (x_36.toInt = 32 * x_35.toInt) ∧ ∃ x_37 : Int32, (x_37 = x_36 + p2) ∧ (x_37.toInt = x_36.toInt + p2.toInt) ∧ ∃ x_38 : Int32, (x_38 = x_37 + 2) ∧ (x_38.toInt = x_37.toInt + 2) ∧ ∃ n_41 : Nat, (((n_41 : Int) = x_38.toInt) ∧ ∃ n_44 : Nat, ((n_44 : Int) = x_34.toInt) ∧ ∃ g_43 : Nat → Int32, (g_43 = upd g_30 n_44 ((A 4) n_41)) ∧ (p3.toInt ≤ 3) ∧ (Z = (uA (uA A 44 g_3) 48 g_43)) ∧ (cdz = cd) ∧ (pkz = pk))
abbrev D_X10_load_s7 (A : AA) (cd : Int32) (pk : Int32) (p1 : Int32) (p2 : Int32) (p3 : Int32) (Z : AA) (cdz : Int32) (pkz : Int32) (g_3 : Nat → Int32) (x_7 : Int32) (g_17 : Nat → Int32) (x_21 : Int32) (x_24 : Int32) (x_25 : Int32) : Prop := (x_25.toInt = x_24.toInt + 1) ∧ ∃ n_28 : Nat, ((n_28 : Int) = x_25.toInt) ∧ ∃ n_31 : Nat, ((n_31 : Int) = x_21.toInt) ∧ ∃ g_30 : Nat → Int32, (g_30 = upd g_17 n_31 ((A 4) n_28)) ∧ (¬ p3.toInt ≤ 2) ∧ (∃ x_34 : Int32, (x_34 = x_7 + 2) ∧ (x_34.toInt = x_7.toInt + 2) ∧ ∃ x_35 : Int32, (x_35 = p1 - p1 / 2 * 2) ∧ (x_35.toInt = p1.toInt % 2) ∧ ∃ x_36 : Int32, (x_36 = 32 * x_35) ∧ (D_X10_load_s6 A cd pk p2 p3 Z cdz pkz g_3 g_30 x_34 x_35 x_36))
abbrev D_X10_load_s8 (A : AA) (cd : Int32) (pk : Int32) (p1 : Int32) (p2 : Int32) (p3 : Int32) (Z : AA) (cdz : Int32) (pkz : Int32) (g_3 : Nat → Int32) (x_7 : Int32) (n_15 : Nat) (n_18 : Nat) (g_17 : Nat → Int32) : Prop := (g_17 = upd (A 48) n_18 ((A 4) n_15)) ∧ (¬ p3.toInt ≤ 1) ∧ ∃ x_21 : Int32, (x_21 = x_7 + 1) ∧ (x_21.toInt = x_7.toInt + 1) ∧ ∃ x_22 : Int32, (x_22 = p1 - p1 / 2 * 2) ∧ (x_22.toInt = p1.toInt % 2) ∧ (∃ x_23 : Int32, (x_23 = 32 * x_22) ∧ (x_23.toInt = 32 * x_22.toInt) ∧ ∃ x_24 : Int32, (x_24 = x_23 + p2) ∧ (x_24.toInt = x_23.toInt + p2.toInt) ∧ ∃ x_25 : Int32, (x_25 = x_24 + 1) ∧ (D_X10_load_s7 A cd pk p1 p2 p3 Z cdz pkz g_3 x_7 g_17 x_21 x_24 x_25))
abbrev D_X10_load_s9 (A : AA) (cd : Int32) (pk : Int32) (p1 : Int32) (p2 : Int32) (p3 : Int32) (Z : AA) (cdz : Int32) (pkz : Int32) (g_3 : Nat → Int32) (x_7 : Int32) (x_8 : Int32) (x_9 : Int32) : Prop := (x_9 = p1 - p1 / 2 * 2) ∧ (x_9.toInt = p1.toInt % 2) ∧ ∃ x_10 : Int32, (x_10 = 32 * x_9) ∧ (x_10.toInt = 32 * x_9.toInt) ∧ ∃ x_11 : Int32, (x_11 = x_10 + p2) ∧ (x_11.toInt = x_10.toInt + p2.toInt) ∧ (∃ x_12 : Int32, (x_12 = x_11 + 0) ∧ (x_12.toInt = x_11.toInt + 0) ∧ ∃ n_15 : Nat, ((n_15 : Int) = x_12.toInt) ∧ ∃ n_18 : Nat, ((n_18 : Int) = x_8.toInt) ∧ ∃ g_17 : Nat → Int32, (D_X10_load_s8 A cd pk p1 p2 p3 Z cdz pkz g_3 x_7 n_15 n_18 g_17))
abbrev D_X10_load_s10 (A : AA) (cd : Int32) (pk : Int32) (p2 : Int32) (Z : AA) (cdz : Int32) (pkz : Int32) (g_3 : Nat → Int32) (g_43 : Nat → Int32) (x_47 : Int32) (x_48 : Int32) (x_49 : Int32) : Prop := (x_49 = 32 * x_48) ∧ (x_49.toInt = 32 * x_48.toInt) ∧ ∃ x_50 : Int32, (x_50 = x_49 + p2) ∧ (x_50.toInt = x_49.toInt + p2.toInt) ∧ ∃ x_51 : Int32, (x_51 = x_50 + 3) ∧ (x_51.toInt = x_50.toInt + 3) ∧ (∃ n_54 : Nat, ((n_54 : Int) = x_51.toInt) ∧ ∃ n_57 : Nat, ((n_57 : Int) = x_47.toInt) ∧ ∃ g_56 : Nat → Int32, (g_56 = upd g_43 n_57 ((A 4) n_54)) ∧ (Z = (uA (uA A 44 g_3) 48 g_56)) ∧ (cdz = cd) ∧ (pkz = pk))
abbrev D_X10_load_s11 (A : AA) (cd : Int32) (pk : Int32) (p1 : Int32) (p2 : Int32) (p3 : Int32) (Z : AA) (cdz : Int32) (pkz : Int32) (g_3 : Nat → Int32) (x_7 : Int32) (g_30 : Nat → Int32) (x_34 : Int32) (x_37 : Int32) (x_38 : Int32) : Prop := (x_38 = x_37 + 2) ∧ (x_38.toInt = x_37.toInt + 2) ∧ ∃ n_41 : Nat, ((n_41 : Int) = x_38.toInt) ∧ ∃ n_44 : Nat, ((n_44 : Int) = x_34.toInt) ∧ ∃ g_43 : Nat → Int32, (g_43 = upd g_30 n_44 ((A 4) n_41)) ∧ ((¬ p3.toInt ≤ 3) ∧ ∃ x_47 : Int32, (x_47 = x_7 + 3) ∧ (x_47.toInt = x_7.toInt + 3) ∧ ∃ x_48 : Int32, (x_48 = p1 - p1 / 2 * 2) ∧ (x_48.toInt = p1.toInt % 2) ∧ ∃ x_49 : Int32, (D_X10_load_s10 A cd pk p2 Z cdz pkz g_3 g_43 x_47 x_48 x_49))
abbrev D_X10_load_s12 (A : AA) (cd : Int32) (pk : Int32) (p1 : Int32) (p2 : Int32) (p3 : Int32) (Z : AA) (cdz : Int32) (pkz : Int32) (g_3 : Nat → Int32) (x_7 : Int32) (g_17 : Nat → Int32) (n_28 : Nat) (n_31 : Nat) : Prop := ∃ g_30 : Nat → Int32, (g_30 = upd g_17 n_31 ((A 4) n_28)) ∧ (¬ p3.toInt ≤ 2) ∧ ∃ x_34 : Int32, (x_34 = x_7 + 2) ∧ (x_34.toInt = x_7.toInt + 2) ∧ ∃ x_35 : Int32, (x_35 = p1 - p1 / 2 * 2) ∧ ((x_35.toInt = p1.toInt % 2) ∧ ∃ x_36 : Int32, (x_36 = 32 * x_35) ∧ (x_36.toInt = 32 * x_35.toInt) ∧ ∃ x_37 : Int32, (x_37 = x_36 + p2) ∧ (x_37.toInt = x_36.toInt + p2.toInt) ∧ ∃ x_38 : Int32, (D_X10_load_s11 A cd pk p1 p2 p3 Z cdz pkz g_3 x_7 g_30 x_34 x_37 x_38))
abbrev D_X10_load_s13 (A : AA) (cd : Int32) (pk : Int32) (p1 : Int32) (p2 : Int32) (p3 : Int32) (Z : AA) (cdz : Int32) (pkz : Int32) (g_3 : Nat → Int32) (x_7 : Int32) (g_17 : Nat → Int32) (x_21 : Int32) : Prop := ∃ x_22 : Int32, (x_22 = p1 - p1 / 2 * 2) ∧ (x_22.toInt = p1.toInt % 2) ∧ ∃ x_23 : Int32, (x_23 = 32 * x_22) ∧ (x_23.toInt = 32 * x_22.toInt) ∧ ∃ x_24 : Int32, (x_24 = x_23 + p2) ∧ ((x_24.toInt = x_23.toInt + p2.toInt) ∧ ∃ x_25 : Int32, (x_25 = x_24 + 1) ∧ (x_25.toInt = x_24.toInt + 1) ∧ ∃ n_28 : Nat, ((n_28 : Int) = x_25.toInt) ∧ ∃ n_31 : Nat, ((n_31 : Int) = x_21.toInt) ∧ (D_X10_load_s12 A cd pk p1 p2 p3 Z cdz pkz g_3 x_7 g_17 n_28 n_31))
abbrev D_X10_load_s14 (A : AA) (cd : Int32) (pk : Int32) (p1 : Int32) (p2 : Int32) (p3 : Int32) (Z : AA) (cdz : Int32) (pkz : Int32) (g_3 : Nat → Int32) (x_7 : Int32) (x_8 : Int32) (x_10 : Int32) : Prop := ∃ x_11 : Int32, (x_11 = x_10 + p2) ∧ (x_11.toInt = x_10.toInt + p2.toInt) ∧ ∃ x_12 : Int32, (x_12 = x_11 + 0) ∧ (x_12.toInt = x_11.toInt + 0) ∧ ∃ n_15 : Nat, ((n_15 : Int) = x_12.toInt) ∧ (∃ n_18 : Nat, ((n_18 : Int) = x_8.toInt) ∧ ∃ g_17 : Nat → Int32, (g_17 = upd (A 48) n_18 ((A 4) n_15)) ∧ (¬ p3.toInt ≤ 1) ∧ ∃ x_21 : Int32, (x_21 = x_7 + 1) ∧ (x_21.toInt = x_7.toInt + 1) ∧ (D_X10_load_s13 A cd pk p1 p2 p3 Z cdz pkz g_3 x_7 g_17 x_21))
abbrev D_X10_load_s15 (A : AA) (cd : Int32) (pk : Int32) (p0 : Int32) (p1 : Int32) (p2 : Int32) (p3 : Int32) (Z : AA) (cdz : Int32) (pkz : Int32) (n_4 : Nat) : Prop := ((n_4 : Int) = p0.toInt) ∧ ∃ g_3 : Nat → Int32, (g_3 = upd (A 44) n_4 p3) ∧ (¬ p3.toInt ≤ 0) ∧ ∃ x_7 : Int32, (x_7 = 4 * p0) ∧ (x_7.toInt = 4 * p0.toInt) ∧ ∃ x_8 : Int32, ((x_8 = x_7 + 0) ∧ (x_8.toInt = x_7.toInt + 0) ∧ ∃ x_9 : Int32, (x_9 = p1 - p1 / 2 * 2) ∧ (x_9.toInt = p1.toInt % 2) ∧ ∃ x_10 : Int32, (x_10 = 32 * x_9) ∧ (x_10.toInt = 32 * x_9.toInt) ∧ (D_X10_load_s14 A cd pk p1 p2 p3 Z cdz pkz g_3 x_7 x_8 x_10))
def D_X10_load (A : AA) (cd pk : Int32) (p0 : Int32) (p1 : Int32) (p2 : Int32) (p3 : Int32) (Z : AA) (cdz pkz : Int32) : Prop := ((0 ≤ p0.toInt) ∧ ∃ n_4 : Nat, ((n_4 : Int) = p0.toInt) ∧ ∃ g_3 : Nat → Int32, (g_3 = upd (A 44) n_4 p3) ∧ (p3.toInt ≤ 0) ∧ (Z = (uA (uA A 44 g_3) 48 (A 48))) ∧ (cdz = cd) ∧ (pkz = pk)) ∨ (D_X10_load_s2 A cd pk p0 p1 p2 p3 Z cdz pkz) ∨ ((0 ≤ p0.toInt) ∧ ∃ n_4 : Nat, ((n_4 : Int) = p0.toInt) ∧ ∃ g_3 : Nat → Int32, (g_3 = upd (A 44) n_4 p3) ∧ (¬ p3.toInt ≤ 0) ∧ ∃ x_7 : Int32, (D_X10_load_s5 A cd pk p0 p1 p2 p3 Z cdz pkz g_3 x_7)) ∨ ((0 ≤ p0.toInt) ∧ ∃ n_4 : Nat, ((n_4 : Int) = p0.toInt) ∧ ∃ g_3 : Nat → Int32, (g_3 = upd (A 44) n_4 p3) ∧ ((¬ p3.toInt ≤ 0) ∧ ∃ x_7 : Int32, (x_7 = 4 * p0) ∧ (x_7.toInt = 4 * p0.toInt) ∧ ∃ x_8 : Int32, (x_8 = x_7 + 0) ∧ (x_8.toInt = x_7.toInt + 0) ∧ ∃ x_9 : Int32, (D_X10_load_s9 A cd pk p1 p2 p3 Z cdz pkz g_3 x_7 x_8 x_9))) ∨ ((0 ≤ p0.toInt) ∧ ∃ n_4 : Nat, (D_X10_load_s15 A cd pk p0 p1 p2 p3 Z cdz pkz n_4)) ∨ ((¬ 0 ≤ p0.toInt) ∧ (Z = (uA (uA A 44 (A 44)) 48 (A 48))) ∧ (cdz = cd) ∧ (pkz = pk))
abbrev D_X10_takeCells_s1 (A : AA) (cd : Int32) (pk : Int32) (p0 : Int32) (p1 : Int32) (Z : AA) (cdz : Int32) (pkz : Int32) : Prop := (¬ p1.toInt ≤ 0) ∧ ∃ x_2 : Int32, (x_2 = p0 + 0) ∧ ((x_2.toInt = p0.toInt + 0) ∧ ∃ n_6 : Nat, ((n_6 : Int) = x_2.toInt) ∧ ∃ g_5 : Nat → Int32, (g_5 = upd (A 4) n_6 ((A 48) 96)) ∧ (¬ p1.toInt ≤ 1) ∧ ∃ x_8 : Int32, (x_8 = p0 + 1) ∧ ((x_8.toInt = p0.toInt + 1) ∧ ∃ n_12 : Nat, ((n_12 : Int) = x_8.toInt) ∧ ∃ g_11 : Nat → Int32, (g_11 = upd g_5 n_12 ((A 48) 97)) ∧ (p1.toInt ≤ 2) ∧ (Z = (uA A 4 g_11)) ∧ (cdz = cd) ∧ (pkz = pk)))
abbrev D_X10_takeCells_s2 (A : AA) (cd : Int32) (pk : Int32) (p0 : Int32) (p1 : Int32) (Z : AA) (cdz : Int32) (pkz : Int32) (x_2 : Int32) : Prop := (x_2.toInt = p0.toInt + 0) ∧ ∃ n_6 : Nat, ((n_6 : Int) = x_2.toInt) ∧ ∃ g_5 : Nat → Int32, (g_5 = upd (A 4) n_6 ((A 48) 96)) ∧ (¬ p1.toInt ≤ 1) ∧ ∃ x_8 : Int32, (x_8 = p0 + 1) ∧ ((x_8.toInt = p0.toInt + 1) ∧ ∃ n_12 : Nat, ((n_12 : Int) = x_8.toInt) ∧ ∃ g_11 : Nat → Int32, (g_11 = upd g_5 n_12 ((A 48) 97)) ∧ (¬ p1.toInt ≤ 2) ∧ ∃ x_14 : Int32, (x_14 = p0 + 2) ∧ ((x_14.toInt = p0.toInt + 2) ∧ ∃ n_18 : Nat, ((n_18 : Int) = x_14.toInt) ∧ ∃ g_17 : Nat → Int32, (g_17 = upd g_11 n_18 ((A 48) 98)) ∧ (p1.toInt ≤ 3) ∧ (Z = (uA A 4 g_17)) ∧ (cdz = cd) ∧ (pkz = pk)))
abbrev D_X10_takeCells_s3 (A : AA) (cd : Int32) (pk : Int32) (p0 : Int32) (p1 : Int32) (Z : AA) (cdz : Int32) (pkz : Int32) (g_5 : Nat → Int32) (x_8 : Int32) : Prop := (x_8 = p0 + 1) ∧ (x_8.toInt = p0.toInt + 1) ∧ ∃ n_12 : Nat, ((n_12 : Int) = x_8.toInt) ∧ ∃ g_11 : Nat → Int32, (g_11 = upd g_5 n_12 ((A 48) 97)) ∧ (¬ p1.toInt ≤ 2) ∧ ∃ x_14 : Int32, ((x_14 = p0 + 2) ∧ (x_14.toInt = p0.toInt + 2) ∧ ∃ n_18 : Nat, ((n_18 : Int) = x_14.toInt) ∧ ∃ g_17 : Nat → Int32, (g_17 = upd g_11 n_18 ((A 48) 98)) ∧ (¬ p1.toInt ≤ 3) ∧ ∃ x_20 : Int32, ((x_20 = p0 + 3) ∧ (x_20.toInt = p0.toInt + 3) ∧ ∃ n_24 : Nat, ((n_24 : Int) = x_20.toInt) ∧ ∃ g_23 : Nat → Int32, (g_23 = upd g_17 n_24 ((A 48) 99)) ∧ (Z = (uA A 4 g_23)) ∧ (cdz = cd) ∧ (pkz = pk)))
def D_X10_takeCells (A : AA) (cd pk : Int32) (p0 : Int32) (p1 : Int32) (Z : AA) (cdz pkz : Int32) : Prop := ((p1.toInt ≤ 0) ∧ (Z = (uA A 4 (A 4))) ∧ (cdz = cd) ∧ (pkz = pk)) ∨ ((¬ p1.toInt ≤ 0) ∧ ∃ x_2 : Int32, (x_2 = p0 + 0) ∧ ((x_2.toInt = p0.toInt + 0) ∧ ∃ n_6 : Nat, ((n_6 : Int) = x_2.toInt) ∧ ∃ g_5 : Nat → Int32, (g_5 = upd (A 4) n_6 ((A 48) 96)) ∧ (p1.toInt ≤ 1) ∧ (Z = (uA A 4 g_5)) ∧ (cdz = cd) ∧ (pkz = pk))) ∨ (D_X10_takeCells_s1 A cd pk p0 p1 Z cdz pkz) ∨ ((¬ p1.toInt ≤ 0) ∧ ∃ x_2 : Int32, (x_2 = p0 + 0) ∧ (D_X10_takeCells_s2 A cd pk p0 p1 Z cdz pkz x_2)) ∨ ((¬ p1.toInt ≤ 0) ∧ ∃ x_2 : Int32, ((x_2 = p0 + 0) ∧ (x_2.toInt = p0.toInt + 0) ∧ ∃ n_6 : Nat, ((n_6 : Int) = x_2.toInt) ∧ ∃ g_5 : Nat → Int32, (g_5 = upd (A 4) n_6 ((A 48) 96)) ∧ (¬ p1.toInt ≤ 1) ∧ ∃ x_8 : Int32, (D_X10_takeCells_s3 A cd pk p0 p1 Z cdz pkz g_5 x_8)))
def D_X10_ack (A : AA) (cd pk : Int32) (p0 : Int32) (p1 : Int32) (Z : AA) (cdz pkz : Int32) : Prop :=
  (∃ ur_1 : (Nat → Int32) × (Nat → Int32) × (Nat → Int32) × (Nat → Int32) × (Nat → Int32) × (Nat → Int32) × (Nat → Int32) × Int32, ∃ r_1 : Int32, (D_X10_emit A cd pk p0 (5 : Int32) p1 (-1 : Int32) (-1 : Int32) (0 : Int32) (uA (uA (uA (uA (uA (uA (uA A 41 (ur_1.1)) 42 (ur_1.2.1)) 43 (ur_1.2.2.1)) 44 (ur_1.2.2.2.1)) 45 (ur_1.2.2.2.2.1)) 46 (ur_1.2.2.2.2.2.1)) 47 (ur_1.2.2.2.2.2.2.1)) cd (ur_1.2.2.2.2.2.2.2) r_1) ∧ (I7 (ur_1.1) (ur_1.2.1) (ur_1.2.2.2.1) (ur_1.2.2.2.2.1) (ur_1.2.2.2.2.2.1)) ∧ (0 ≤ ur_1.2.2.2.2.2.2.2.toInt ∧ ur_1.2.2.2.2.2.2.2.toInt ≤ 24) ∧ (-1 ≤ r_1.toInt ∧ r_1.toInt ≤ 23) ∧ (∀ n : Nat, (n : Int) = r_1.toInt → (ur_1.2.1) n = (5 : Int32)) ∧ (((ur_1.2.2.2.1) 24).toInt = ((A 44) 24).toInt ∧ ((ur_1.2.2.2.2.2.1) 24).toInt = ((A 46) 24).toInt) ∧ (r_1.toInt < 0) ∧ Z = (uA (uA (uA (uA (uA (uA (uA A 41 (ur_1.1)) 42 (ur_1.2.1)) 43 (ur_1.2.2.1)) 44 (ur_1.2.2.2.1)) 45 (ur_1.2.2.2.2.1)) 46 (ur_1.2.2.2.2.2.1)) 47 (ur_1.2.2.2.2.2.2.1)) ∧ cdz = cd ∧ pkz = ur_1.2.2.2.2.2.2.2)
  ∨ (∃ ur_1 : (Nat → Int32) × (Nat → Int32) × (Nat → Int32) × (Nat → Int32) × (Nat → Int32) × (Nat → Int32) × (Nat → Int32) × Int32, ∃ r_1 : Int32, (D_X10_emit A cd pk p0 (5 : Int32) p1 (-1 : Int32) (-1 : Int32) (0 : Int32) (uA (uA (uA (uA (uA (uA (uA A 41 (ur_1.1)) 42 (ur_1.2.1)) 43 (ur_1.2.2.1)) 44 (ur_1.2.2.2.1)) 45 (ur_1.2.2.2.2.1)) 46 (ur_1.2.2.2.2.2.1)) 47 (ur_1.2.2.2.2.2.2.1)) cd (ur_1.2.2.2.2.2.2.2) r_1) ∧ (I7 (ur_1.1) (ur_1.2.1) (ur_1.2.2.2.1) (ur_1.2.2.2.2.1) (ur_1.2.2.2.2.2.1)) ∧ (0 ≤ ur_1.2.2.2.2.2.2.2.toInt ∧ ur_1.2.2.2.2.2.2.2.toInt ≤ 24) ∧ (-1 ≤ r_1.toInt ∧ r_1.toInt ≤ 23) ∧ (∀ n : Nat, (n : Int) = r_1.toInt → (ur_1.2.1) n = (5 : Int32)) ∧ (((ur_1.2.2.2.1) 24).toInt = ((A 44) 24).toInt ∧ ((ur_1.2.2.2.2.2.1) 24).toInt = ((A 46) 24).toInt) ∧ (¬ r_1.toInt < 0) ∧ ∃ n_5 : Nat, ((n_5 : Int) = r_1.toInt) ∧ ∃ g_4 : Nat → Int32, (g_4 = upd (ur_1.2.2.2.1) n_5 0) ∧ Z = (uA (uA (uA (uA (uA (uA (uA A 41 (ur_1.1)) 42 (ur_1.2.1)) 43 (ur_1.2.2.1)) 44 g_4) 45 (ur_1.2.2.2.2.1)) 46 (ur_1.2.2.2.2.2.1)) 47 (ur_1.2.2.2.2.2.2.1)) ∧ cdz = cd ∧ pkz = ur_1.2.2.2.2.2.2.2)
def D_X10_replyOld (A : AA) (cd pk : Int32) (p0 : Int32) (p1 : Int32) (Z : AA) (cdz pkz : Int32) : Prop :=
  (∃ ur_2 : (Nat → Int32) × (Nat → Int32) × (Nat → Int32) × (Nat → Int32) × (Nat → Int32) × (Nat → Int32) × (Nat → Int32) × Int32, ∃ r_2 : Int32, (D_X10_emit A cd pk p0 (4 : Int32) ((A 43) 24) (-1 : Int32) (-1 : Int32) (0 : Int32) (uA (uA (uA (uA (uA (uA (uA A 41 (ur_2.1)) 42 (ur_2.2.1)) 43 (ur_2.2.2.1)) 44 (ur_2.2.2.2.1)) 45 (ur_2.2.2.2.2.1)) 46 (ur_2.2.2.2.2.2.1)) 47 (ur_2.2.2.2.2.2.2.1)) cd (ur_2.2.2.2.2.2.2.2) r_2) ∧ (I7 (ur_2.1) (ur_2.2.1) (ur_2.2.2.2.1) (ur_2.2.2.2.2.1) (ur_2.2.2.2.2.2.1)) ∧ (0 ≤ ur_2.2.2.2.2.2.2.2.toInt ∧ ur_2.2.2.2.2.2.2.2.toInt ≤ 24) ∧ (-1 ≤ r_2.toInt ∧ r_2.toInt ≤ 23) ∧ (∀ n : Nat, (n : Int) = r_2.toInt → (ur_2.2.1) n = (4 : Int32)) ∧ (((ur_2.2.2.2.1) 24).toInt = ((A 44) 24).toInt ∧ ((ur_2.2.2.2.2.2.1) 24).toInt = ((A 46) 24).toInt) ∧ (0 ≤ r_2.toInt) ∧ ∃ n_6 : Nat, ((n_6 : Int) = r_2.toInt) ∧ ∃ g_5 : Nat → Int32, (g_5 = upd (ur_2.2.2.2.1) n_6 1) ∧ ∃ x_7 : Int32, (x_7 = 4 * r_2) ∧ (x_7.toInt = 4 * r_2.toInt) ∧ ∃ n_10 : Nat, ((n_10 : Int) = x_7.toInt) ∧ ∃ g_9 : Nat → Int32, (g_9 = upd (A 48) n_10 p1) ∧ Z = (uA (uA (uA (uA (uA (uA (uA (uA A 41 (ur_2.1)) 42 (ur_2.2.1)) 43 (ur_2.2.2.1)) 44 g_5) 45 (ur_2.2.2.2.2.1)) 46 (ur_2.2.2.2.2.2.1)) 47 (ur_2.2.2.2.2.2.2.1)) 48 g_9) ∧ cdz = cd ∧ pkz = ur_2.2.2.2.2.2.2.2)
  ∨ (∃ ur_2 : (Nat → Int32) × (Nat → Int32) × (Nat → Int32) × (Nat → Int32) × (Nat → Int32) × (Nat → Int32) × (Nat → Int32) × Int32, ∃ r_2 : Int32, (D_X10_emit A cd pk p0 (4 : Int32) ((A 43) 24) (-1 : Int32) (-1 : Int32) (0 : Int32) (uA (uA (uA (uA (uA (uA (uA A 41 (ur_2.1)) 42 (ur_2.2.1)) 43 (ur_2.2.2.1)) 44 (ur_2.2.2.2.1)) 45 (ur_2.2.2.2.2.1)) 46 (ur_2.2.2.2.2.2.1)) 47 (ur_2.2.2.2.2.2.2.1)) cd (ur_2.2.2.2.2.2.2.2) r_2) ∧ (I7 (ur_2.1) (ur_2.2.1) (ur_2.2.2.2.1) (ur_2.2.2.2.2.1) (ur_2.2.2.2.2.2.1)) ∧ (0 ≤ ur_2.2.2.2.2.2.2.2.toInt ∧ ur_2.2.2.2.2.2.2.2.toInt ≤ 24) ∧ (-1 ≤ r_2.toInt ∧ r_2.toInt ≤ 23) ∧ (∀ n : Nat, (n : Int) = r_2.toInt → (ur_2.2.1) n = (4 : Int32)) ∧ (((ur_2.2.2.2.1) 24).toInt = ((A 44) 24).toInt ∧ ((ur_2.2.2.2.2.2.1) 24).toInt = ((A 46) 24).toInt) ∧ (¬ 0 ≤ r_2.toInt) ∧ Z = (uA (uA (uA (uA (uA (uA (uA (uA A 41 (ur_2.1)) 42 (ur_2.2.1)) 43 (ur_2.2.2.1)) 44 (ur_2.2.2.2.1)) 45 (ur_2.2.2.2.2.1)) 46 (ur_2.2.2.2.2.2.1)) 47 (ur_2.2.2.2.2.2.2.1)) 48 (A 48)) ∧ cdz = cd ∧ pkz = ur_2.2.2.2.2.2.2.2)
abbrev D_X10_reads_s1 (A : AA) (cd : Int32) (p0 : Int32) (Z : AA) (cdz : Int32) (pkz : Int32) (ur_8 : (Nat → Int32) × (Nat → Int32) × (Nat → Int32) × (Nat → Int32) × (Nat → Int32) × (Nat → Int32) × (Nat → Int32) × Int32) (ur_19 : (Nat → Int32) × (Nat → Int32)) (ur_27 : (Nat → Int32) × (Nat → Int32) × (Nat → Int32) × (Nat → Int32) × (Nat → Int32) × (Nat → Int32) × (Nat → Int32) × Int32) (ur_37 : (Nat → Int32) × (Nat → Int32)) (ur_45 : (Nat → Int32) × (Nat → Int32) × (Nat → Int32) × (Nat → Int32) × (Nat → Int32) × (Nat → Int32) × (Nat → Int32) × Int32) (r_45 : Int32) (x_49 : Int32) (x_53 : Int32) : Prop := (4 ≤ x_49.toInt) ∧ ∃ ur_55 : (Nat → Int32) × (Nat → Int32), (D_X10_load (uA (uA (uA (uA (uA (uA (uA (uA (uA (uA (uA (uA (uA (uA (uA (uA (uA (uA (uA (uA (uA (uA (uA (uA (uA A 41 (ur_8.1)) 42 (ur_8.2.1)) 43 (ur_8.2.2.1)) 44 (ur_8.2.2.2.1)) 45 (ur_8.2.2.2.2.1)) 46 (ur_8.2.2.2.2.2.1)) 47 (ur_8.2.2.2.2.2.2.1)) 44 (ur_19.1)) 48 (ur_19.2)) 41 (ur_27.1)) 42 (ur_27.2.1)) 43 (ur_27.2.2.1)) 44 (ur_27.2.2.2.1)) 45 (ur_27.2.2.2.2.1)) 46 (ur_27.2.2.2.2.2.1)) 47 (ur_27.2.2.2.2.2.2.1)) 44 (ur_37.1)) 48 (ur_37.2)) 41 (ur_45.1)) 42 (ur_45.2.1)) 43 (ur_45.2.2.1)) 44 (ur_45.2.2.2.1)) 45 (ur_45.2.2.2.2.1)) 46 (ur_45.2.2.2.2.2.1)) 47 (ur_45.2.2.2.2.2.2.1)) cd (ur_45.2.2.2.2.2.2.2) r_45 p0 x_53 (4 : Int32) (uA (uA (uA (uA (uA (uA (uA (uA (uA (uA (uA (uA (uA (uA (uA (uA (uA (uA (uA (uA (uA (uA (uA (uA (uA (uA (uA A 41 (ur_8.1)) 42 (ur_8.2.1)) 43 (ur_8.2.2.1)) 44 (ur_8.2.2.2.1)) 45 (ur_8.2.2.2.2.1)) 46 (ur_8.2.2.2.2.2.1)) 47 (ur_8.2.2.2.2.2.2.1)) 44 (ur_19.1)) 48 (ur_19.2)) 41 (ur_27.1)) 42 (ur_27.2.1)) 43 (ur_27.2.2.1)) 44 (ur_27.2.2.2.1)) 45 (ur_27.2.2.2.2.1)) 46 (ur_27.2.2.2.2.2.1)) 47 (ur_27.2.2.2.2.2.2.1)) 44 (ur_37.1)) 48 (ur_37.2)) 41 (ur_45.1)) 42 (ur_45.2.1)) 43 (ur_45.2.2.1)) 44 (ur_45.2.2.2.1)) 45 (ur_45.2.2.2.2.1)) 46 (ur_45.2.2.2.2.2.1)) 47 (ur_45.2.2.2.2.2.2.1)) 44 (ur_55.1)) 48 (ur_55.2)) cd (ur_45.2.2.2.2.2.2.2)) ∧ (I7 (ur_45.1) (ur_45.2.1) (ur_55.1) (ur_45.2.2.2.2.1) (ur_45.2.2.2.2.2.1)) ∧ (((ur_55.1) 24).toInt = ((ur_45.2.2.2.1) 24).toInt ∧ ((ur_45.2.2.2.2.2.1) 24).toInt = ((ur_45.2.2.2.2.2.1) 24).toInt) ∧ (Z = (uA (uA (uA (uA (uA (uA (uA (uA A 41 (ur_45.1)) 42 (ur_45.2.1)) 43 (ur_45.2.2.1)) 44 (ur_55.1)) 45 (ur_45.2.2.2.2.1)) 46 (ur_45.2.2.2.2.2.1)) 47 (ur_45.2.2.2.2.2.2.1)) 48 (ur_55.2))) ∧ (cdz = cd) ∧ (pkz = ur_45.2.2.2.2.2.2.2)
abbrev D_X10_reads_s2 (A : AA) (cd : Int32) (p0 : Int32) (Z : AA) (cdz : Int32) (pkz : Int32) (ur_8 : (Nat → Int32) × (Nat → Int32) × (Nat → Int32) × (Nat → Int32) × (Nat → Int32) × (Nat → Int32) × (Nat → Int32) × Int32) (ur_19 : (Nat → Int32) × (Nat → Int32)) (ur_27 : (Nat → Int32) × (Nat → Int32) × (Nat → Int32) × (Nat → Int32) × (Nat → Int32) × (Nat → Int32) × (Nat → Int32) × Int32) (ur_37 : (Nat → Int32) × (Nat → Int32)) (ur_45 : (Nat → Int32) × (Nat → Int32) × (Nat → Int32) × (Nat → Int32) × (Nat → Int32) × (Nat → Int32) × (Nat → Int32) × Int32) (r_45 : Int32) (x_49 : Int32) (x_53 : Int32) : Prop := (¬ 4 ≤ x_49.toInt) ∧ ∃ ur_60 : (Nat → Int32) × (Nat → Int32), (D_X10_load (uA (uA (uA (uA (uA (uA (uA (uA (uA (uA (uA (uA (uA (uA (uA (uA (uA (uA (uA (uA (uA (uA (uA (uA (uA A 41 (ur_8.1)) 42 (ur_8.2.1)) 43 (ur_8.2.2.1)) 44 (ur_8.2.2.2.1)) 45 (ur_8.2.2.2.2.1)) 46 (ur_8.2.2.2.2.2.1)) 47 (ur_8.2.2.2.2.2.2.1)) 44 (ur_19.1)) 48 (ur_19.2)) 41 (ur_27.1)) 42 (ur_27.2.1)) 43 (ur_27.2.2.1)) 44 (ur_27.2.2.2.1)) 45 (ur_27.2.2.2.2.1)) 46 (ur_27.2.2.2.2.2.1)) 47 (ur_27.2.2.2.2.2.2.1)) 44 (ur_37.1)) 48 (ur_37.2)) 41 (ur_45.1)) 42 (ur_45.2.1)) 43 (ur_45.2.2.1)) 44 (ur_45.2.2.2.1)) 45 (ur_45.2.2.2.2.1)) 46 (ur_45.2.2.2.2.2.1)) 47 (ur_45.2.2.2.2.2.2.1)) cd (ur_45.2.2.2.2.2.2.2) r_45 p0 x_53 x_49 (uA (uA (uA (uA (uA (uA (uA (uA (uA (uA (uA (uA (uA (uA (uA (uA (uA (uA (uA (uA (uA (uA (uA (uA (uA (uA (uA A 41 (ur_8.1)) 42 (ur_8.2.1)) 43 (ur_8.2.2.1)) 44 (ur_8.2.2.2.1)) 45 (ur_8.2.2.2.2.1)) 46 (ur_8.2.2.2.2.2.1)) 47 (ur_8.2.2.2.2.2.2.1)) 44 (ur_19.1)) 48 (ur_19.2)) 41 (ur_27.1)) 42 (ur_27.2.1)) 43 (ur_27.2.2.1)) 44 (ur_27.2.2.2.1)) 45 (ur_27.2.2.2.2.1)) 46 (ur_27.2.2.2.2.2.1)) 47 (ur_27.2.2.2.2.2.2.1)) 44 (ur_37.1)) 48 (ur_37.2)) 41 (ur_45.1)) 42 (ur_45.2.1)) 43 (ur_45.2.2.1)) 44 (ur_45.2.2.2.1)) 45 (ur_45.2.2.2.2.1)) 46 (ur_45.2.2.2.2.2.1)) 47 (ur_45.2.2.2.2.2.2.1)) 44 (ur_60.1)) 48 (ur_60.2)) cd (ur_45.2.2.2.2.2.2.2)) ∧ (I7 (ur_45.1) (ur_45.2.1) (ur_60.1) (ur_45.2.2.2.2.1) (ur_45.2.2.2.2.2.1)) ∧ (((ur_60.1) 24).toInt = ((ur_45.2.2.2.1) 24).toInt ∧ ((ur_45.2.2.2.2.2.1) 24).toInt = ((ur_45.2.2.2.2.2.1) 24).toInt) ∧ (Z = (uA (uA (uA (uA (uA (uA (uA (uA A 41 (ur_45.1)) 42 (ur_45.2.1)) 43 (ur_45.2.2.1)) 44 (ur_60.1)) 45 (ur_45.2.2.2.2.1)) 46 (ur_45.2.2.2.2.2.1)) 47 (ur_45.2.2.2.2.2.2.1)) 48 (ur_60.2))) ∧ (cdz = cd) ∧ (pkz = ur_45.2.2.2.2.2.2.2)
abbrev D_X10_reads_s3 (A : AA) (cd : Int32) (p0 : Int32) (Z : AA) (cdz : Int32) (pkz : Int32) (ur_8 : (Nat → Int32) × (Nat → Int32) × (Nat → Int32) × (Nat → Int32) × (Nat → Int32) × (Nat → Int32) × (Nat → Int32) × Int32) (ur_19 : (Nat → Int32) × (Nat → Int32)) (ur_27 : (Nat → Int32) × (Nat → Int32) × (Nat → Int32) × (Nat → Int32) × (Nat → Int32) × (Nat → Int32) × (Nat → Int32) × Int32) (ur_37 : (Nat → Int32) × (Nat → Int32)) (ur_45 : (Nat → Int32) × (Nat → Int32) × (Nat → Int32) × (Nat → Int32) × (Nat → Int32) × (Nat → Int32) × (Nat → Int32) × Int32) (r_45 : Int32) : Prop := (∀ n : Nat, (n : Int) = r_45.toInt → (ur_45.2.1) n = (4 : Int32)) ∧ (((ur_45.2.2.2.1) 24).toInt = ((ur_37.1) 24).toInt ∧ ((ur_45.2.2.2.2.2.1) 24).toInt = ((ur_27.2.2.2.2.2.1) 24).toInt) ∧ ∃ x_49 : Int32, (x_49 = ((ur_45.2.2.2.1) 24) - 8) ∧ (x_49.toInt = ((ur_45.2.2.2.1) 24).toInt - 8) ∧ ∃ x_53 : Int32, (x_53 = ((ur_45.2.2.2.2.2.1) 24) + 8) ∧ (x_53.toInt = ((ur_45.2.2.2.2.2.1) 24).toInt + 8) ∧ ((D_X10_reads_s1 A cd p0 Z cdz pkz ur_8 ur_19 ur_27 ur_37 ur_45 r_45 x_49 x_53) ∨ (D_X10_reads_s2 A cd p0 Z cdz pkz ur_8 ur_19 ur_27 ur_37 ur_45 r_45 x_49 x_53))
abbrev D_X10_reads_s4 (A : AA) (cd : Int32) (p0 : Int32) (Z : AA) (cdz : Int32) (pkz : Int32) (ur_8 : (Nat → Int32) × (Nat → Int32) × (Nat → Int32) × (Nat → Int32) × (Nat → Int32) × (Nat → Int32) × (Nat → Int32) × Int32) (ur_19 : (Nat → Int32) × (Nat → Int32)) (ur_27 : (Nat → Int32) × (Nat → Int32) × (Nat → Int32) × (Nat → Int32) × (Nat → Int32) × (Nat → Int32) × (Nat → Int32) × Int32) (ur_37 : (Nat → Int32) × (Nat → Int32)) (x_43 : Int32) : Prop := ∃ x_44 : Int32, (x_44 = x_43 - x_43 / 64 * 64) ∧ ∃ ur_45 : (Nat → Int32) × (Nat → Int32) × (Nat → Int32) × (Nat → Int32) × (Nat → Int32) × (Nat → Int32) × (Nat → Int32) × Int32, ∃ r_45 : Int32, (D_X10_emit (uA (uA (uA (uA (uA (uA (uA (uA (uA (uA (uA (uA (uA (uA (uA (uA (uA (uA A 41 (ur_8.1)) 42 (ur_8.2.1)) 43 (ur_8.2.2.1)) 44 (ur_8.2.2.2.1)) 45 (ur_8.2.2.2.2.1)) 46 (ur_8.2.2.2.2.2.1)) 47 (ur_8.2.2.2.2.2.2.1)) 44 (ur_19.1)) 48 (ur_19.2)) 41 (ur_27.1)) 42 (ur_27.2.1)) 43 (ur_27.2.2.1)) 44 (ur_27.2.2.2.1)) 45 (ur_27.2.2.2.2.1)) 46 (ur_27.2.2.2.2.2.1)) 47 (ur_27.2.2.2.2.2.2.1)) 44 (ur_37.1)) 48 (ur_37.2)) cd (ur_27.2.2.2.2.2.2.2) p0 (4 : Int32) x_44 (-1 : Int32) (-1 : Int32) (0 : Int32) (uA (uA (uA (uA (uA (uA (uA (uA (uA (uA (uA (uA (uA (uA (uA (uA (uA (uA (uA (uA (uA (uA (uA (uA (uA A 41 (ur_8.1)) 42 (ur_8.2.1)) 43 (ur_8.2.2.1)) 44 (ur_8.2.2.2.1)) 45 (ur_8.2.2.2.2.1)) 46 (ur_8.2.2.2.2.2.1)) 47 (ur_8.2.2.2.2.2.2.1)) 44 (ur_19.1)) 48 (ur_19.2)) 41 (ur_27.1)) 42 (ur_27.2.1)) 43 (ur_27.2.2.1)) 44 (ur_27.2.2.2.1)) 45 (ur_27.2.2.2.2.1)) 46 (ur_27.2.2.2.2.2.1)) 47 (ur_27.2.2.2.2.2.2.1)) 44 (ur_37.1)) 48 (ur_37.2)) 41 (ur_45.1)) 42 (ur_45.2.1)) 43 (ur_45.2.2.1)) 44 (ur_45.2.2.2.1)) 45 (ur_45.2.2.2.2.1)) 46 (ur_45.2.2.2.2.2.1)) 47 (ur_45.2.2.2.2.2.2.1)) cd (ur_45.2.2.2.2.2.2.2) r_45) ∧ (I7 (ur_45.1) (ur_45.2.1) (ur_45.2.2.2.1) (ur_45.2.2.2.2.1) (ur_45.2.2.2.2.2.1)) ∧ (0 ≤ ur_45.2.2.2.2.2.2.2.toInt ∧ ur_45.2.2.2.2.2.2.2.toInt ≤ 24) ∧ (-1 ≤ r_45.toInt ∧ r_45.toInt ≤ 23) ∧ (D_X10_reads_s3 A cd p0 Z cdz pkz ur_8 ur_19 ur_27 ur_37 ur_45 r_45)
abbrev D_X10_reads_s5 (A : AA) (cd : Int32) (p0 : Int32) (Z : AA) (cdz : Int32) (pkz : Int32) (ur_8 : (Nat → Int32) × (Nat → Int32) × (Nat → Int32) × (Nat → Int32) × (Nat → Int32) × (Nat → Int32) × (Nat → Int32) × Int32) (ur_19 : (Nat → Int32) × (Nat → Int32)) (ur_27 : (Nat → Int32) × (Nat → Int32) × (Nat → Int32) × (Nat → Int32) × (Nat → Int32) × (Nat → Int32) × (Nat → Int32) × Int32) (r_27 : Int32) (x_31 : Int32) (x_35 : Int32) : Prop := (4 ≤ x_31.toInt) ∧ ∃ ur_37 : (Nat → Int32) × (Nat → Int32), (D_X10_load (uA (uA (uA (uA (uA (uA (uA (uA (uA (uA (uA (uA (uA (uA (uA (uA A 41 (ur_8.1)) 42 (ur_8.2.1)) 43 (ur_8.2.2.1)) 44 (ur_8.2.2.2.1)) 45 (ur_8.2.2.2.2.1)) 46 (ur_8.2.2.2.2.2.1)) 47 (ur_8.2.2.2.2.2.2.1)) 44 (ur_19.1)) 48 (ur_19.2)) 41 (ur_27.1)) 42 (ur_27.2.1)) 43 (ur_27.2.2.1)) 44 (ur_27.2.2.2.1)) 45 (ur_27.2.2.2.2.1)) 46 (ur_27.2.2.2.2.2.1)) 47 (ur_27.2.2.2.2.2.2.1)) cd (ur_27.2.2.2.2.2.2.2) r_27 p0 x_35 (4 : Int32) (uA (uA (uA (uA (uA (uA (uA (uA (uA (uA (uA (uA (uA (uA (uA (uA (uA (uA A 41 (ur_8.1)) 42 (ur_8.2.1)) 43 (ur_8.2.2.1)) 44 (ur_8.2.2.2.1)) 45 (ur_8.2.2.2.2.1)) 46 (ur_8.2.2.2.2.2.1)) 47 (ur_8.2.2.2.2.2.2.1)) 44 (ur_19.1)) 48 (ur_19.2)) 41 (ur_27.1)) 42 (ur_27.2.1)) 43 (ur_27.2.2.1)) 44 (ur_27.2.2.2.1)) 45 (ur_27.2.2.2.2.1)) 46 (ur_27.2.2.2.2.2.1)) 47 (ur_27.2.2.2.2.2.2.1)) 44 (ur_37.1)) 48 (ur_37.2)) cd (ur_27.2.2.2.2.2.2.2)) ∧ (I7 (ur_27.1) (ur_27.2.1) (ur_37.1) (ur_27.2.2.2.2.1) (ur_27.2.2.2.2.2.1)) ∧ (((ur_37.1) 24).toInt = ((ur_27.2.2.2.1) 24).toInt ∧ ((ur_27.2.2.2.2.2.1) 24).toInt = ((ur_27.2.2.2.2.2.1) 24).toInt) ∧ (((((ur_37.1) 24).toInt ≤ 8) ∧ (Z = (uA (uA (uA (uA (uA (uA (uA (uA A 41 (ur_27.1)) 42 (ur_27.2.1)) 43 (ur_27.2.2.1)) 44 (ur_37.1)) 45 (ur_27.2.2.2.2.1)) 46 (ur_27.2.2.2.2.2.1)) 47 (ur_27.2.2.2.2.2.2.1)) 48 (ur_37.2))) ∧ (cdz = cd) ∧ (pkz = ur_27.2.2.2.2.2.2.2)) ∨ ((¬ ((ur_37.1) 24).toInt ≤ 8) ∧ ∃ x_43 : Int32, (x_43 = ((ur_27.2.2.1) 24) + 2) ∧ (D_X10_reads_s4 A cd p0 Z cdz pkz ur_8 ur_19 ur_27 ur_37 x_43)))
abbrev D_X10_reads_s6 (A : AA) (cd : Int32) (p0 : Int32) (Z : AA) (cdz : Int32) (pkz : Int32) (ur_8 : (Nat → Int32) × (Nat → Int32) × (Nat → Int32) × (Nat → Int32) × (Nat → Int32) × (Nat → Int32) × (Nat → Int32) × Int32) (ur_19 : (Nat → Int32) × (Nat → Int32)) (ur_27 : (Nat → Int32) × (Nat → Int32) × (Nat → Int32) × (Nat → Int32) × (Nat → Int32) × (Nat → Int32) × (Nat → Int32) × Int32) (ur_65 : (Nat → Int32) × (Nat → Int32)) (ur_73 : (Nat → Int32) × (Nat → Int32) × (Nat → Int32) × (Nat → Int32) × (Nat → Int32) × (Nat → Int32) × (Nat → Int32) × Int32) (r_73 : Int32) (x_77 : Int32) (x_81 : Int32) : Prop := (4 ≤ x_77.toInt) ∧ ∃ ur_83 : (Nat → Int32) × (Nat → Int32), (D_X10_load (uA (uA (uA (uA (uA (uA (uA (uA (uA (uA (uA (uA (uA (uA (uA (uA (uA (uA (uA (uA (uA (uA (uA (uA (uA A 41 (ur_8.1)) 42 (ur_8.2.1)) 43 (ur_8.2.2.1)) 44 (ur_8.2.2.2.1)) 45 (ur_8.2.2.2.2.1)) 46 (ur_8.2.2.2.2.2.1)) 47 (ur_8.2.2.2.2.2.2.1)) 44 (ur_19.1)) 48 (ur_19.2)) 41 (ur_27.1)) 42 (ur_27.2.1)) 43 (ur_27.2.2.1)) 44 (ur_27.2.2.2.1)) 45 (ur_27.2.2.2.2.1)) 46 (ur_27.2.2.2.2.2.1)) 47 (ur_27.2.2.2.2.2.2.1)) 44 (ur_65.1)) 48 (ur_65.2)) 41 (ur_73.1)) 42 (ur_73.2.1)) 43 (ur_73.2.2.1)) 44 (ur_73.2.2.2.1)) 45 (ur_73.2.2.2.2.1)) 46 (ur_73.2.2.2.2.2.1)) 47 (ur_73.2.2.2.2.2.2.1)) cd (ur_73.2.2.2.2.2.2.2) r_73 p0 x_81 (4 : Int32) (uA (uA (uA (uA (uA (uA (uA (uA (uA (uA (uA (uA (uA (uA (uA (uA (uA (uA (uA (uA (uA (uA (uA (uA (uA (uA (uA A 41 (ur_8.1)) 42 (ur_8.2.1)) 43 (ur_8.2.2.1)) 44 (ur_8.2.2.2.1)) 45 (ur_8.2.2.2.2.1)) 46 (ur_8.2.2.2.2.2.1)) 47 (ur_8.2.2.2.2.2.2.1)) 44 (ur_19.1)) 48 (ur_19.2)) 41 (ur_27.1)) 42 (ur_27.2.1)) 43 (ur_27.2.2.1)) 44 (ur_27.2.2.2.1)) 45 (ur_27.2.2.2.2.1)) 46 (ur_27.2.2.2.2.2.1)) 47 (ur_27.2.2.2.2.2.2.1)) 44 (ur_65.1)) 48 (ur_65.2)) 41 (ur_73.1)) 42 (ur_73.2.1)) 43 (ur_73.2.2.1)) 44 (ur_73.2.2.2.1)) 45 (ur_73.2.2.2.2.1)) 46 (ur_73.2.2.2.2.2.1)) 47 (ur_73.2.2.2.2.2.2.1)) 44 (ur_83.1)) 48 (ur_83.2)) cd (ur_73.2.2.2.2.2.2.2)) ∧ (I7 (ur_73.1) (ur_73.2.1) (ur_83.1) (ur_73.2.2.2.2.1) (ur_73.2.2.2.2.2.1)) ∧ (((ur_83.1) 24).toInt = ((ur_73.2.2.2.1) 24).toInt ∧ ((ur_73.2.2.2.2.2.1) 24).toInt = ((ur_73.2.2.2.2.2.1) 24).toInt) ∧ (Z = (uA (uA (uA (uA (uA (uA (uA (uA A 41 (ur_73.1)) 42 (ur_73.2.1)) 43 (ur_73.2.2.1)) 44 (ur_83.1)) 45 (ur_73.2.2.2.2.1)) 46 (ur_73.2.2.2.2.2.1)) 47 (ur_73.2.2.2.2.2.2.1)) 48 (ur_83.2))) ∧ (cdz = cd) ∧ (pkz = ur_73.2.2.2.2.2.2.2)
abbrev D_X10_reads_s7 (A : AA) (cd : Int32) (p0 : Int32) (Z : AA) (cdz : Int32) (pkz : Int32) (ur_8 : (Nat → Int32) × (Nat → Int32) × (Nat → Int32) × (Nat → Int32) × (Nat → Int32) × (Nat → Int32) × (Nat → Int32) × Int32) (ur_19 : (Nat → Int32) × (Nat → Int32)) (ur_27 : (Nat → Int32) × (Nat → Int32) × (Nat → Int32) × (Nat → Int32) × (Nat → Int32) × (Nat → Int32) × (Nat → Int32) × Int32) (ur_65 : (Nat → Int32) × (Nat → Int32)) (ur_73 : (Nat → Int32) × (Nat → Int32) × (Nat → Int32) × (Nat → Int32) × (Nat → Int32) × (Nat → Int32) × (Nat → Int32) × Int32) (r_73 : Int32) (x_77 : Int32) (x_81 : Int32) : Prop := (¬ 4 ≤ x_77.toInt) ∧ ∃ ur_88 : (Nat → Int32) × (Nat → Int32), (D_X10_load (uA (uA (uA (uA (uA (uA (uA (uA (uA (uA (uA (uA (uA (uA (uA (uA (uA (uA (uA (uA (uA (uA (uA (uA (uA A 41 (ur_8.1)) 42 (ur_8.2.1)) 43 (ur_8.2.2.1)) 44 (ur_8.2.2.2.1)) 45 (ur_8.2.2.2.2.1)) 46 (ur_8.2.2.2.2.2.1)) 47 (ur_8.2.2.2.2.2.2.1)) 44 (ur_19.1)) 48 (ur_19.2)) 41 (ur_27.1)) 42 (ur_27.2.1)) 43 (ur_27.2.2.1)) 44 (ur_27.2.2.2.1)) 45 (ur_27.2.2.2.2.1)) 46 (ur_27.2.2.2.2.2.1)) 47 (ur_27.2.2.2.2.2.2.1)) 44 (ur_65.1)) 48 (ur_65.2)) 41 (ur_73.1)) 42 (ur_73.2.1)) 43 (ur_73.2.2.1)) 44 (ur_73.2.2.2.1)) 45 (ur_73.2.2.2.2.1)) 46 (ur_73.2.2.2.2.2.1)) 47 (ur_73.2.2.2.2.2.2.1)) cd (ur_73.2.2.2.2.2.2.2) r_73 p0 x_81 x_77 (uA (uA (uA (uA (uA (uA (uA (uA (uA (uA (uA (uA (uA (uA (uA (uA (uA (uA (uA (uA (uA (uA (uA (uA (uA (uA (uA A 41 (ur_8.1)) 42 (ur_8.2.1)) 43 (ur_8.2.2.1)) 44 (ur_8.2.2.2.1)) 45 (ur_8.2.2.2.2.1)) 46 (ur_8.2.2.2.2.2.1)) 47 (ur_8.2.2.2.2.2.2.1)) 44 (ur_19.1)) 48 (ur_19.2)) 41 (ur_27.1)) 42 (ur_27.2.1)) 43 (ur_27.2.2.1)) 44 (ur_27.2.2.2.1)) 45 (ur_27.2.2.2.2.1)) 46 (ur_27.2.2.2.2.2.1)) 47 (ur_27.2.2.2.2.2.2.1)) 44 (ur_65.1)) 48 (ur_65.2)) 41 (ur_73.1)) 42 (ur_73.2.1)) 43 (ur_73.2.2.1)) 44 (ur_73.2.2.2.1)) 45 (ur_73.2.2.2.2.1)) 46 (ur_73.2.2.2.2.2.1)) 47 (ur_73.2.2.2.2.2.2.1)) 44 (ur_88.1)) 48 (ur_88.2)) cd (ur_73.2.2.2.2.2.2.2)) ∧ (I7 (ur_73.1) (ur_73.2.1) (ur_88.1) (ur_73.2.2.2.2.1) (ur_73.2.2.2.2.2.1)) ∧ (((ur_88.1) 24).toInt = ((ur_73.2.2.2.1) 24).toInt ∧ ((ur_73.2.2.2.2.2.1) 24).toInt = ((ur_73.2.2.2.2.2.1) 24).toInt) ∧ (Z = (uA (uA (uA (uA (uA (uA (uA (uA A 41 (ur_73.1)) 42 (ur_73.2.1)) 43 (ur_73.2.2.1)) 44 (ur_88.1)) 45 (ur_73.2.2.2.2.1)) 46 (ur_73.2.2.2.2.2.1)) 47 (ur_73.2.2.2.2.2.2.1)) 48 (ur_88.2))) ∧ (cdz = cd) ∧ (pkz = ur_73.2.2.2.2.2.2.2)
abbrev D_X10_reads_s8 (A : AA) (cd : Int32) (p0 : Int32) (Z : AA) (cdz : Int32) (pkz : Int32) (ur_8 : (Nat → Int32) × (Nat → Int32) × (Nat → Int32) × (Nat → Int32) × (Nat → Int32) × (Nat → Int32) × (Nat → Int32) × Int32) (ur_19 : (Nat → Int32) × (Nat → Int32)) (ur_27 : (Nat → Int32) × (Nat → Int32) × (Nat → Int32) × (Nat → Int32) × (Nat → Int32) × (Nat → Int32) × (Nat → Int32) × Int32) (ur_65 : (Nat → Int32) × (Nat → Int32)) (ur_73 : (Nat → Int32) × (Nat → Int32) × (Nat → Int32) × (Nat → Int32) × (Nat → Int32) × (Nat → Int32) × (Nat → Int32) × Int32) (r_73 : Int32) : Prop := (∀ n : Nat, (n : Int) = r_73.toInt → (ur_73.2.1) n = (4 : Int32)) ∧ (((ur_73.2.2.2.1) 24).toInt = ((ur_65.1) 24).toInt ∧ ((ur_73.2.2.2.2.2.1) 24).toInt = ((ur_27.2.2.2.2.2.1) 24).toInt) ∧ ∃ x_77 : Int32, (x_77 = ((ur_73.2.2.2.1) 24) - 8) ∧ (x_77.toInt = ((ur_73.2.2.2.1) 24).toInt - 8) ∧ ∃ x_81 : Int32, (x_81 = ((ur_73.2.2.2.2.2.1) 24) + 8) ∧ (x_81.toInt = ((ur_73.2.2.2.2.2.1) 24).toInt + 8) ∧ ((D_X10_reads_s6 A cd p0 Z cdz pkz ur_8 ur_19 ur_27 ur_65 ur_73 r_73 x_77 x_81) ∨ (D_X10_reads_s7 A cd p0 Z cdz pkz ur_8 ur_19 ur_27 ur_65 ur_73 r_73 x_77 x_81))
abbrev D_X10_reads_s9 (A : AA) (cd : Int32) (p0 : Int32) (Z : AA) (cdz : Int32) (pkz : Int32) (ur_8 : (Nat → Int32) × (Nat → Int32) × (Nat → Int32) × (Nat → Int32) × (Nat → Int32) × (Nat → Int32) × (Nat → Int32) × Int32) (ur_19 : (Nat → Int32) × (Nat → Int32)) (ur_27 : (Nat → Int32) × (Nat → Int32) × (Nat → Int32) × (Nat → Int32) × (Nat → Int32) × (Nat → Int32) × (Nat → Int32) × Int32) (ur_65 : (Nat → Int32) × (Nat → Int32)) (x_71 : Int32) : Prop := ∃ x_72 : Int32, (x_72 = x_71 - x_71 / 64 * 64) ∧ ∃ ur_73 : (Nat → Int32) × (Nat → Int32) × (Nat → Int32) × (Nat → Int32) × (Nat → Int32) × (Nat → Int32) × (Nat → Int32) × Int32, ∃ r_73 : Int32, (D_X10_emit (uA (uA (uA (uA (uA (uA (uA (uA (uA (uA (uA (uA (uA (uA (uA (uA (uA (uA A 41 (ur_8.1)) 42 (ur_8.2.1)) 43 (ur_8.2.2.1)) 44 (ur_8.2.2.2.1)) 45 (ur_8.2.2.2.2.1)) 46 (ur_8.2.2.2.2.2.1)) 47 (ur_8.2.2.2.2.2.2.1)) 44 (ur_19.1)) 48 (ur_19.2)) 41 (ur_27.1)) 42 (ur_27.2.1)) 43 (ur_27.2.2.1)) 44 (ur_27.2.2.2.1)) 45 (ur_27.2.2.2.2.1)) 46 (ur_27.2.2.2.2.2.1)) 47 (ur_27.2.2.2.2.2.2.1)) 44 (ur_65.1)) 48 (ur_65.2)) cd (ur_27.2.2.2.2.2.2.2) p0 (4 : Int32) x_72 (-1 : Int32) (-1 : Int32) (0 : Int32) (uA (uA (uA (uA (uA (uA (uA (uA (uA (uA (uA (uA (uA (uA (uA (uA (uA (uA (uA (uA (uA (uA (uA (uA (uA A 41 (ur_8.1)) 42 (ur_8.2.1)) 43 (ur_8.2.2.1)) 44 (ur_8.2.2.2.1)) 45 (ur_8.2.2.2.2.1)) 46 (ur_8.2.2.2.2.2.1)) 47 (ur_8.2.2.2.2.2.2.1)) 44 (ur_19.1)) 48 (ur_19.2)) 41 (ur_27.1)) 42 (ur_27.2.1)) 43 (ur_27.2.2.1)) 44 (ur_27.2.2.2.1)) 45 (ur_27.2.2.2.2.1)) 46 (ur_27.2.2.2.2.2.1)) 47 (ur_27.2.2.2.2.2.2.1)) 44 (ur_65.1)) 48 (ur_65.2)) 41 (ur_73.1)) 42 (ur_73.2.1)) 43 (ur_73.2.2.1)) 44 (ur_73.2.2.2.1)) 45 (ur_73.2.2.2.2.1)) 46 (ur_73.2.2.2.2.2.1)) 47 (ur_73.2.2.2.2.2.2.1)) cd (ur_73.2.2.2.2.2.2.2) r_73) ∧ (I7 (ur_73.1) (ur_73.2.1) (ur_73.2.2.2.1) (ur_73.2.2.2.2.1) (ur_73.2.2.2.2.2.1)) ∧ (0 ≤ ur_73.2.2.2.2.2.2.2.toInt ∧ ur_73.2.2.2.2.2.2.2.toInt ≤ 24) ∧ (-1 ≤ r_73.toInt ∧ r_73.toInt ≤ 23) ∧ (D_X10_reads_s8 A cd p0 Z cdz pkz ur_8 ur_19 ur_27 ur_65 ur_73 r_73)
abbrev D_X10_reads_s10 (A : AA) (cd : Int32) (p0 : Int32) (Z : AA) (cdz : Int32) (pkz : Int32) (ur_8 : (Nat → Int32) × (Nat → Int32) × (Nat → Int32) × (Nat → Int32) × (Nat → Int32) × (Nat → Int32) × (Nat → Int32) × Int32) (ur_19 : (Nat → Int32) × (Nat → Int32)) (ur_27 : (Nat → Int32) × (Nat → Int32) × (Nat → Int32) × (Nat → Int32) × (Nat → Int32) × (Nat → Int32) × (Nat → Int32) × Int32) (r_27 : Int32) (x_31 : Int32) (x_35 : Int32) : Prop := (¬ 4 ≤ x_31.toInt) ∧ ∃ ur_65 : (Nat → Int32) × (Nat → Int32), (D_X10_load (uA (uA (uA (uA (uA (uA (uA (uA (uA (uA (uA (uA (uA (uA (uA (uA A 41 (ur_8.1)) 42 (ur_8.2.1)) 43 (ur_8.2.2.1)) 44 (ur_8.2.2.2.1)) 45 (ur_8.2.2.2.2.1)) 46 (ur_8.2.2.2.2.2.1)) 47 (ur_8.2.2.2.2.2.2.1)) 44 (ur_19.1)) 48 (ur_19.2)) 41 (ur_27.1)) 42 (ur_27.2.1)) 43 (ur_27.2.2.1)) 44 (ur_27.2.2.2.1)) 45 (ur_27.2.2.2.2.1)) 46 (ur_27.2.2.2.2.2.1)) 47 (ur_27.2.2.2.2.2.2.1)) cd (ur_27.2.2.2.2.2.2.2) r_27 p0 x_35 x_31 (uA (uA (uA (uA (uA (uA (uA (uA (uA (uA (uA (uA (uA (uA (uA (uA (uA (uA A 41 (ur_8.1)) 42 (ur_8.2.1)) 43 (ur_8.2.2.1)) 44 (ur_8.2.2.2.1)) 45 (ur_8.2.2.2.2.1)) 46 (ur_8.2.2.2.2.2.1)) 47 (ur_8.2.2.2.2.2.2.1)) 44 (ur_19.1)) 48 (ur_19.2)) 41 (ur_27.1)) 42 (ur_27.2.1)) 43 (ur_27.2.2.1)) 44 (ur_27.2.2.2.1)) 45 (ur_27.2.2.2.2.1)) 46 (ur_27.2.2.2.2.2.1)) 47 (ur_27.2.2.2.2.2.2.1)) 44 (ur_65.1)) 48 (ur_65.2)) cd (ur_27.2.2.2.2.2.2.2)) ∧ (I7 (ur_27.1) (ur_27.2.1) (ur_65.1) (ur_27.2.2.2.2.1) (ur_27.2.2.2.2.2.1)) ∧ (((ur_65.1) 24).toInt = ((ur_27.2.2.2.1) 24).toInt ∧ ((ur_27.2.2.2.2.2.1) 24).toInt = ((ur_27.2.2.2.2.2.1) 24).toInt) ∧ (((((ur_65.1) 24).toInt ≤ 8) ∧ (Z = (uA (uA (uA (uA (uA (uA (uA (uA A 41 (ur_27.1)) 42 (ur_27.2.1)) 43 (ur_27.2.2.1)) 44 (ur_65.1)) 45 (ur_27.2.2.2.2.1)) 46 (ur_27.2.2.2.2.2.1)) 47 (ur_27.2.2.2.2.2.2.1)) 48 (ur_65.2))) ∧ (cdz = cd) ∧ (pkz = ur_27.2.2.2.2.2.2.2)) ∨ ((¬ ((ur_65.1) 24).toInt ≤ 8) ∧ ∃ x_71 : Int32, (x_71 = ((ur_27.2.2.1) 24) + 2) ∧ (D_X10_reads_s9 A cd p0 Z cdz pkz ur_8 ur_19 ur_27 ur_65 x_71)))
abbrev D_X10_reads_s11 (A : AA) (cd : Int32) (p0 : Int32) (Z : AA) (cdz : Int32) (pkz : Int32) (ur_8 : (Nat → Int32) × (Nat → Int32) × (Nat → Int32) × (Nat → Int32) × (Nat → Int32) × (Nat → Int32) × (Nat → Int32) × Int32) (ur_19 : (Nat → Int32) × (Nat → Int32)) (ur_27 : (Nat → Int32) × (Nat → Int32) × (Nat → Int32) × (Nat → Int32) × (Nat → Int32) × (Nat → Int32) × (Nat → Int32) × Int32) (r_27 : Int32) : Prop := (∀ n : Nat, (n : Int) = r_27.toInt → (ur_27.2.1) n = (4 : Int32)) ∧ (((ur_27.2.2.2.1) 24).toInt = ((ur_19.1) 24).toInt ∧ ((ur_27.2.2.2.2.2.1) 24).toInt = ((ur_8.2.2.2.2.2.1) 24).toInt) ∧ ∃ x_31 : Int32, (x_31 = ((ur_27.2.2.2.1) 24) - 4) ∧ (x_31.toInt = ((ur_27.2.2.2.1) 24).toInt - 4) ∧ ∃ x_35 : Int32, (x_35 = ((ur_27.2.2.2.2.2.1) 24) + 4) ∧ (x_35.toInt = ((ur_27.2.2.2.2.2.1) 24).toInt + 4) ∧ ((D_X10_reads_s5 A cd p0 Z cdz pkz ur_8 ur_19 ur_27 r_27 x_31 x_35) ∨ (D_X10_reads_s10 A cd p0 Z cdz pkz ur_8 ur_19 ur_27 r_27 x_31 x_35))
abbrev D_X10_reads_s12 (A : AA) (cd : Int32) (p0 : Int32) (Z : AA) (cdz : Int32) (pkz : Int32) (ur_8 : (Nat → Int32) × (Nat → Int32) × (Nat → Int32) × (Nat → Int32) × (Nat → Int32) × (Nat → Int32) × (Nat → Int32) × Int32) (ur_19 : (Nat → Int32) × (Nat → Int32)) (x_25 : Int32) : Prop := ∃ x_26 : Int32, (x_26 = x_25 - x_25 / 64 * 64) ∧ ∃ ur_27 : (Nat → Int32) × (Nat → Int32) × (Nat → Int32) × (Nat → Int32) × (Nat → Int32) × (Nat → Int32) × (Nat → Int32) × Int32, ∃ r_27 : Int32, (D_X10_emit (uA (uA (uA (uA (uA (uA (uA (uA (uA A 41 (ur_8.1)) 42 (ur_8.2.1)) 43 (ur_8.2.2.1)) 44 (ur_8.2.2.2.1)) 45 (ur_8.2.2.2.2.1)) 46 (ur_8.2.2.2.2.2.1)) 47 (ur_8.2.2.2.2.2.2.1)) 44 (ur_19.1)) 48 (ur_19.2)) cd (ur_8.2.2.2.2.2.2.2) p0 (4 : Int32) x_26 (-1 : Int32) (-1 : Int32) (0 : Int32) (uA (uA (uA (uA (uA (uA (uA (uA (uA (uA (uA (uA (uA (uA (uA (uA A 41 (ur_8.1)) 42 (ur_8.2.1)) 43 (ur_8.2.2.1)) 44 (ur_8.2.2.2.1)) 45 (ur_8.2.2.2.2.1)) 46 (ur_8.2.2.2.2.2.1)) 47 (ur_8.2.2.2.2.2.2.1)) 44 (ur_19.1)) 48 (ur_19.2)) 41 (ur_27.1)) 42 (ur_27.2.1)) 43 (ur_27.2.2.1)) 44 (ur_27.2.2.2.1)) 45 (ur_27.2.2.2.2.1)) 46 (ur_27.2.2.2.2.2.1)) 47 (ur_27.2.2.2.2.2.2.1)) cd (ur_27.2.2.2.2.2.2.2) r_27) ∧ (I7 (ur_27.1) (ur_27.2.1) (ur_27.2.2.2.1) (ur_27.2.2.2.2.1) (ur_27.2.2.2.2.2.1)) ∧ (0 ≤ ur_27.2.2.2.2.2.2.2.toInt ∧ ur_27.2.2.2.2.2.2.2.toInt ≤ 24) ∧ (-1 ≤ r_27.toInt ∧ r_27.toInt ≤ 23) ∧ (D_X10_reads_s11 A cd p0 Z cdz pkz ur_8 ur_19 ur_27 r_27)
abbrev D_X10_reads_s13 (A : AA) (cd : Int32) (p0 : Int32) (Z : AA) (cdz : Int32) (pkz : Int32) (ur_8 : (Nat → Int32) × (Nat → Int32) × (Nat → Int32) × (Nat → Int32) × (Nat → Int32) × (Nat → Int32) × (Nat → Int32) × Int32) (r_8 : Int32) (x_12 : Int32) (x_16 : Int32) : Prop := (x_16 = ((ur_8.2.2.2.2.2.1) 24) + 0) ∧ (x_16.toInt = ((ur_8.2.2.2.2.2.1) 24).toInt + 0) ∧ ∃ v_17 : Int32, (((4 ≤ x_12.toInt) ∧ v_17 = 4) ∨ ((¬ 4 ≤ x_12.toInt) ∧ v_17 = x_12)) ∧ ∃ ur_19 : (Nat → Int32) × (Nat → Int32), (D_X10_load (uA (uA (uA (uA (uA (uA (uA A 41 (ur_8.1)) 42 (ur_8.2.1)) 43 (ur_8.2.2.1)) 44 (ur_8.2.2.2.1)) 45 (ur_8.2.2.2.2.1)) 46 (ur_8.2.2.2.2.2.1)) 47 (ur_8.2.2.2.2.2.2.1)) cd (ur_8.2.2.2.2.2.2.2) r_8 p0 x_16 v_17 (uA (uA (uA (uA (uA (uA (uA (uA (uA A 41 (ur_8.1)) 42 (ur_8.2.1)) 43 (ur_8.2.2.1)) 44 (ur_8.2.2.2.1)) 45 (ur_8.2.2.2.2.1)) 46 (ur_8.2.2.2.2.2.1)) 47 (ur_8.2.2.2.2.2.2.1)) 44 (ur_19.1)) 48 (ur_19.2)) cd (ur_8.2.2.2.2.2.2.2)) ∧ (I7 (ur_8.1) (ur_8.2.1) (ur_19.1) (ur_8.2.2.2.2.1) (ur_8.2.2.2.2.2.1)) ∧ (((ur_19.1) 24).toInt = ((ur_8.2.2.2.1) 24).toInt ∧ ((ur_8.2.2.2.2.2.1) 24).toInt = ((ur_8.2.2.2.2.2.1) 24).toInt) ∧ (((((ur_19.1) 24).toInt ≤ 4) ∧ (Z = (uA (uA (uA (uA (uA (uA (uA (uA A 41 (ur_8.1)) 42 (ur_8.2.1)) 43 (ur_8.2.2.1)) 44 (ur_19.1)) 45 (ur_8.2.2.2.2.1)) 46 (ur_8.2.2.2.2.2.1)) 47 (ur_8.2.2.2.2.2.2.1)) 48 (ur_19.2))) ∧ (cdz = cd) ∧ (pkz = ur_8.2.2.2.2.2.2.2)) ∨ ((¬ ((ur_19.1) 24).toInt ≤ 4) ∧ ∃ x_25 : Int32, (x_25 = ((ur_8.2.2.1) 24) + 1) ∧ (D_X10_reads_s12 A cd p0 Z cdz pkz ur_8 ur_19 x_25)))
abbrev D_X10_reads_s14 (A : AA) (cd : Int32) (p0 : Int32) (Z : AA) (cdz : Int32) (pkz : Int32) (ur_8 : (Nat → Int32) × (Nat → Int32) × (Nat → Int32) × (Nat → Int32) × (Nat → Int32) × (Nat → Int32) × (Nat → Int32) × Int32) (r_8 : Int32) : Prop := (0 ≤ ur_8.2.2.2.2.2.2.2.toInt ∧ ur_8.2.2.2.2.2.2.2.toInt ≤ 24) ∧ (-1 ≤ r_8.toInt ∧ r_8.toInt ≤ 23) ∧ (∀ n : Nat, (n : Int) = r_8.toInt → (ur_8.2.1) n = (4 : Int32)) ∧ (((ur_8.2.2.2.1) 24).toInt = ((A 44) 24).toInt ∧ ((ur_8.2.2.2.2.2.1) 24).toInt = ((A 46) 24).toInt) ∧ ∃ x_12 : Int32, (x_12 = ((ur_8.2.2.2.1) 24) - 0) ∧ (x_12.toInt = ((ur_8.2.2.2.1) 24).toInt - 0) ∧ ∃ x_16 : Int32, (D_X10_reads_s13 A cd p0 Z cdz pkz ur_8 r_8 x_12 x_16)
abbrev D_X10_reads_s15 (A : AA) (cd : Int32) (pk : Int32) (p0 : Int32) (Z : AA) (cdz : Int32) (pkz : Int32) : Prop := ∃ x_6 : Int32, (x_6 = ((A 43) 24) + 0) ∧ ∃ x_7 : Int32, (x_7 = x_6 - x_6 / 64 * 64) ∧ ∃ ur_8 : (Nat → Int32) × (Nat → Int32) × (Nat → Int32) × (Nat → Int32) × (Nat → Int32) × (Nat → Int32) × (Nat → Int32) × Int32, ∃ r_8 : Int32, (D_X10_emit A cd pk p0 (4 : Int32) x_7 (-1 : Int32) (-1 : Int32) (0 : Int32) (uA (uA (uA (uA (uA (uA (uA A 41 (ur_8.1)) 42 (ur_8.2.1)) 43 (ur_8.2.2.1)) 44 (ur_8.2.2.2.1)) 45 (ur_8.2.2.2.2.1)) 46 (ur_8.2.2.2.2.2.1)) 47 (ur_8.2.2.2.2.2.2.1)) cd (ur_8.2.2.2.2.2.2.2) r_8) ∧ (I7 (ur_8.1) (ur_8.2.1) (ur_8.2.2.2.1) (ur_8.2.2.2.2.1) (ur_8.2.2.2.2.2.1)) ∧ (D_X10_reads_s14 A cd p0 Z cdz pkz ur_8 r_8)
def D_X10_reads (A : AA) (cd pk : Int32) (p0 : Int32) (Z : AA) (cdz pkz : Int32) : Prop := ((((A 44) 24).toInt ≤ 0) ∧ (Z = (uA (uA (uA (uA (uA (uA (uA (uA A 41 (A 41)) 42 (A 42)) 43 (A 43)) 44 (A 44)) 45 (A 45)) 46 (A 46)) 47 (A 47)) 48 (A 48))) ∧ (cdz = cd) ∧ (pkz = pk)) ∨ ((¬ ((A 44) 24).toInt ≤ 0) ∧ (D_X10_reads_s15 A cd pk p0 Z cdz pkz))
def Sh (f g : Nat → Int32) (a b : Nat) : Prop := ∀ n, g n = if a ≤ n ∧ n < b then f (n + 1) else f n
theorem Sh.z {f : Nat → Int32} {a : Nat} : Sh f f a a := fun n => by rw [if_neg (by omega)]
theorem Sh.s {f g g' : Nat → Int32} {a b : Nat} (h : Sh f g a b) (hab : a ≤ b) (h1 : g' b = g (b + 1)) (h2 : ∀ n, n ≠ b → g' n = g n) : Sh f g' a (b + 1) := fun n => by
  by_cases e : n = b
  · subst e
    rw [h1, h (n + 1), if_neg (by omega), if_pos (by omega)]
  · rw [h2 n e, h n]
    by_cases e2 : a ≤ n ∧ n < b
    · rw [if_pos e2, if_pos (by omega)]
    · rw [if_neg e2, if_neg (by omega)]
theorem Sh.u {f g g' : Nat → Int32} {a b : Nat} (h : Sh f g a b) (hab : a ≤ b) (e : g' = upd g b (g (b + 1))) : Sh f g' a (b + 1) := h.s hab (by rw [e]; exact upd_s) (fun n hn => by rw [e]; exact upd_n hn)
def Sh4 (f g : Nat → Int32) (a b : Nat) : Prop := ∀ n, g n = if 4 * a ≤ n ∧ n < 4 * b then f (n + 4) else f n
theorem Sh4.z {f : Nat → Int32} {a : Nat} : Sh4 f f a a := fun n => by rw [if_neg (by omega)]
theorem Sh4.u {f g g' : Nat → Int32} {a b : Nat} (h : Sh4 f g a b) (hab : a ≤ b) (e : ∀ n, g' n = if 4 * b ≤ n ∧ n < 4 * b + 4 then g (n - 4 * b + 4 * (b + 1)) else g n) : Sh4 f g' a (b + 1) := fun n => by
  rw [e n]
  by_cases e1 : 4 * b ≤ n ∧ n < 4 * b + 4
  · rw [if_pos e1, h, if_neg (by omega), if_pos (by omega), show n - 4 * b + 4 * (b + 1) = n + 4 by omega]
  · rw [if_neg e1, h n]
    by_cases e2 : 4 * a ≤ n ∧ n < 4 * b
    · rw [if_pos e2, if_pos (by omega)]
    · rw [if_neg e2, if_neg (by omega)]
def Sh5 (f g : Nat → Int32) (a b : Nat) : Prop := ∀ n, g n = if a ≤ n ∧ n < b then f (n + 5) else f n
theorem Sh5.z {f : Nat → Int32} {a : Nat} : Sh5 f f a a := fun n => by rw [if_neg (by omega)]
theorem Sh5.s {f g g' : Nat → Int32} {a b : Nat} (h : Sh5 f g a b) (hab : a ≤ b) (h1 : g' b = g (b + 5)) (h2 : ∀ n, n ≠ b → g' n = g n) : Sh5 f g' a (b + 1) := fun n => by
  by_cases e : n = b
  · subst e
    rw [h1, h (n + 5), if_neg (by omega), if_pos (by omega)]
  · rw [h2 n e, h n]
    by_cases e2 : a ≤ n ∧ n < b
    · rw [if_pos e2, if_pos (by omega)]
    · rw [if_neg e2, if_neg (by omega)]
theorem mv1 {A : AA} {cd pk p0 p1 : Int32} {Z : AA} {cdz pkz : Int32} (h : D_X10_move1 A cd pk p0 p1 Z cdz pkz) {n0 n1 : Nat} (h0 : (n0 : Int) = p0.toInt) (h1 : (n1 : Int) = p1.toInt) (hne : n0 ≠ n1) : Z 41 = upd (A 41) n1 (A 41 n0) ∧ Z 42 = upd (A 42) n1 (A 42 n0) ∧ Z 43 = upd (A 43) n1 (A 43 n0) ∧ Z 44 = upd (A 44) n1 (A 44 n0) ∧ Z 45 = upd (A 45) n1 (A 45 n0) ∧ Z 46 = upd (A 46) n1 (A 46 n0) ∧ Z 47 = upd (A 47) n1 (A 47 n0) ∧ ∀ n, Z 48 n = if 4 * n1 ≤ n ∧ n < 4 * n1 + 4 then A 48 (n - 4 * n1 + 4 * n0) else A 48 n := by
  obtain ⟨a, ha, b, hb, g1, e1, g2, e2, g3, e3, g4, e4, g5, e5, g6, e6, g7, e7, x1, -, f1, x2, -, f2, x3, -, f3, x4, -, f4, m1, k1, m2, k2, c1, d1, x5, -, f5, x6, -, f6, m3, k3, m4, k4, c2, d2, x7, -, f7, x8, -, f8, m5, k5, m6, k6, c3, d3, x9, -, f9, x10, -, f10, m7, k7, m8, k8, c4, d4, eZ, -, -⟩ := h
  obtain rfl : a = n0 := by omega
  obtain rfl : b = n1 := by omega
  subst eZ
  refine ⟨e1, e2, e3, e4, e5, e6, e7, fun n => ?_⟩
  obtain rfl : m1 = 4 * a := by omega
  obtain rfl : m2 = 4 * b := by omega
  obtain rfl : m3 = 4 * a + 1 := by omega
  obtain rfl : m4 = 4 * b + 1 := by omega
  obtain rfl : m5 = 4 * a + 2 := by omega
  obtain rfl : m6 = 4 * b + 2 := by omega
  obtain rfl : m7 = 4 * a + 3 := by omega
  obtain rfl : m8 = 4 * b + 3 := by omega
  show c4 n = _
  have o1 : ∀ k, k < 4 → c1 (4 * a + k) = A 48 (4 * a + k) := fun k hk => by rw [d1]; exact upd_n (by omega)
  have o2 : ∀ k, k < 4 → c2 (4 * a + k) = A 48 (4 * a + k) := fun k hk => by rw [d2, upd_n (by omega)]; exact o1 k hk
  have o3 : ∀ k, k < 4 → c3 (4 * a + k) = A 48 (4 * a + k) := fun k hk => by rw [d3, upd_n (by omega)]; exact o2 k hk
  have w1 := o1 1 (by omega)
  have w2 := o2 2 (by omega)
  have w3 := o3 3 (by omega)
  rw [w1] at d2
  rw [w2] at d3
  rw [w3] at d4
  by_cases q3 : n = 4 * b + 3
  · subst q3; rw [d4, upd_s, if_pos (by omega), show 4 * b + 3 - 4 * b + 4 * a = 4 * a + 3 by omega]
  rw [d4, upd_n q3]
  by_cases q2 : n = 4 * b + 2
  · subst q2; rw [d3, upd_s, if_pos (by omega), show 4 * b + 2 - 4 * b + 4 * a = 4 * a + 2 by omega]
  rw [d3, upd_n q2]
  by_cases q1 : n = 4 * b + 1
  · subst q1; rw [d2, upd_s, if_pos (by omega), show 4 * b + 1 - 4 * b + 4 * a = 4 * a + 1 by omega]
  rw [d2, upd_n q1]
  by_cases q0 : n = 4 * b
  · subst q0; rw [d1, upd_s, if_pos (by omega), show 4 * b - 4 * b + 4 * a = 4 * a by omega]
  rw [d1, upd_n q0, if_neg (by omega)]

def D_X10_drop (A : AA) (cd pk : Int32) (p0 : Int32) (Z : AA) (cdz pkz : Int32) : Prop :=
  (∃ n_1 : Nat, ((n_1 : Int) = p0.toInt) ∧ ∃ x_2 : Int32, (x_2 = pk - 1) ∧ (x_2.toInt = pk.toInt - 1) ∧ ∃ ix_3 : Int32, ∃ u_3 : (Nat → Int32) × (Nat → Int32) × (Nat → Int32) × (Nat → Int32) × (Nat → Int32) × (Nat → Int32) × (Nat → Int32) × (Nat → Int32), (0 ≤ ix_3.toInt ∧ ix_3.toInt ≤ x_2.toInt) ∧ (I7 (u_3.1) (u_3.2.1) (u_3.2.2.2.1) (u_3.2.2.2.2.1) (u_3.2.2.2.2.2.1)) ∧ (∃ b : Nat, (b : Int) = ix_3.toInt ∧ n_1 < b + 1 ∧ Sh (A 41) (u_3.1) n_1 b ∧ Sh (A 42) (u_3.2.1) n_1 b ∧ Sh (A 43) (u_3.2.2.1) n_1 b ∧ Sh (A 44) (u_3.2.2.2.1) n_1 b ∧ Sh (A 45) (u_3.2.2.2.2.1) n_1 b ∧ Sh (A 46) (u_3.2.2.2.2.2.1) n_1 b ∧ Sh (A 47) (u_3.2.2.2.2.2.2.1) n_1 b ∧ Sh4 (A 48) (u_3.2.2.2.2.2.2.2) n_1 b) ∧ (x_2.toInt ≤ ix_3.toInt) ∧ Z = (uA (uA (uA (uA (uA (uA (uA (uA A 41 (u_3.1)) 42 (u_3.2.1)) 43 (u_3.2.2.1)) 44 (u_3.2.2.2.1)) 45 (u_3.2.2.2.2.1)) 46 (u_3.2.2.2.2.2.1)) 47 (u_3.2.2.2.2.2.2.1)) 48 (u_3.2.2.2.2.2.2.2)) ∧ cdz = cd ∧ pkz = x_2)
def farI (a b : Int32) : Int32 := (b - a + 64) - (b - a + 64) / 64 * 64
theorem farI_t {a b : Int32} (ha : 0 ≤ a.toInt ∧ a.toInt ≤ 64) (hb : 0 ≤ b.toInt ∧ b.toInt ≤ 64) : (farI a b).toInt = (b.toInt - a.toInt + 64) % 64 := far_t ha hb
/-- the numbers that request n of the row takes -/
def NB (Z : Nat → Int32) (n : Nat) : Int := ((Z n).toInt + 3) / 4
def PJ (n : Int) (F Z : Nat → Int32) (q : Nat) (fo ol cu : Int32) : Prop :=
  0 ≤ n ∧ n ≤ 4 ∧ ∃ (a : Nat → Int) (o c : Int), (∀ i : Nat, (i : Int) < n → a (i + 1) = a i + NB Z (4 * q + i) ∧ 1 ≤ (Z (4 * q + i)).toInt ∧ (Z (4 * q + i)).toInt ≤ 12 ∧ (F (4 * q + i)).toInt = a i % 64) ∧ a 0 ≤ o ∧ o ≤ c ∧ c ≤ a n.toNat ∧ (0 < n → o < a 1) ∧ fo.toInt = a n.toNat % 64 ∧ ol.toInt = o % 64 ∧ cu.toInt = c % 64
def P4 (st n F Z fo ol cu : Nat → Int32) (q : Nat) : Prop := ((st q).toInt = 1 → PJ (n q).toInt F Z q (fo q) (ol q) (cu q)) ∧ ((st q).toInt = 1 ∨ (n q).toInt = 0)
def I4 (st n F Z fo ol cu : Nat → Int32) : Prop := ∀ q, q < 4 → P4 st n F Z fo ol cu q
def RO (F Z : Nat → Int32) (q : Nat) (p : Int32) (r : Int) : Prop := ∃ i : Nat, i < 4 ∧ r = 4 * (q : Int) + i ∧ (∀ j, j < i → NB Z (4 * q + j) ≤ (farI (F (4 * q + j)) p).toInt) ∧ (i = 3 ∨ (farI (F (4 * q + i)) p).toInt < NB Z (4 * q + i))
theorem PJ.rng {n : Int} {F Z : Nat → Int32} {q : Nat} {fo ol cu : Int32} (h : PJ n F Z q fo ol cu) : (0 ≤ fo.toInt ∧ fo.toInt ≤ 63) ∧ (0 ≤ ol.toInt ∧ ol.toInt ≤ 63) ∧ (0 ≤ cu.toInt ∧ cu.toInt ≤ 63) := by
  obtain ⟨_, _, a, o, c, _, _, _, _, _, h1, h2, h3⟩ := h
  omega
theorem pj_mono {a : Nat → Int} {n : Int} {N : Nat → Int} (h : ∀ i : Nat, (i : Int) < n → a (i + 1) = a i + N i ∧ 1 ≤ N i ∧ N i ≤ 3) : ∀ k j : Nat, ((j + k : Nat) : Int) ≤ n → a j + k ≤ a (j + k) ∧ a (j + k) ≤ a j + 3 * k := by
  intro k
  induction k with
  | zero => intro j _; simp
  | succ k ih =>
    intro j hj
    have h1 := ih j (by omega)
    have h2 := h (j + k) (by omega)
    rw [show j + (k + 1) = j + k + 1 by omega]
    omega
theorem pj_N {Z : Nat → Int32} {n : Nat} (h : 1 ≤ (Z n).toInt ∧ (Z n).toInt ≤ 12) : 1 ≤ NB Z n ∧ NB Z n ≤ 3 := by
  unfold NB
  omega
/-- the request of a number that lies in the row -/
theorem pj_find {n : Int} {F Z : Nat → Int32} {q : Nat} {a : Nat → Int} {x r : Int} {p : Int32} (hn : 0 ≤ n ∧ n ≤ 4) (h : ∀ i : Nat, (i : Int) < n → a (i + 1) = a i + NB Z (4 * q + i) ∧ 1 ≤ (Z (4 * q + i)).toInt ∧ (Z (4 * q + i)).toInt ≤ 12 ∧ (F (4 * q + i)).toInt = a i % 64) (h0 : a 0 ≤ x) (h1 : x < a n.toNat) (hp : p.toInt = x % 64) (hr : RO F Z q p r) : ∃ i : Nat, i < 4 ∧ (i : Int) < n ∧ r = 4 * (q : Int) + i ∧ a i ≤ x ∧ x < a (i + 1) ∧ (farI (F (4 * q + i)) p).toInt = x - a i := by
  have hm : ∀ i : Nat, (i : Int) < n → a (i + 1) = a i + NB Z (4 * q + i) ∧ 1 ≤ NB Z (4 * q + i) ∧ NB Z (4 * q + i) ≤ 3 := fun i hi => by
    obtain ⟨e1, e2, e3, _⟩ := h i hi
    exact ⟨e1, pj_N ⟨e2, e3⟩⟩
  have hmm := pj_mono hm
  have hf : ∀ j : Nat, (j : Int) < n → a j ≤ x → (farI (F (4 * q + j)) p).toInt = x - a j := fun j hj hx => by
    have e := (h j hj).2.2.2
    have e1 := farI_t (a := F (4 * q + j)) (b := p) (by omega) (by omega)
    have e2 := hmm (n.toNat - j) j (by omega)
    rw [show j + (n.toNat - j) = n.toNat by omega] at e2
    rw [e1]
    omega
  obtain ⟨i, hi, hr, hlt, hend⟩ := hr
  have up : ∀ j : Nat, j ≤ i → (j : Int) ≤ n → a j ≤ x := by
    intro j
    induction j with
    | zero => intro _ _; exact h0
    | succ j ih =>
      intro h2 h3
      have h4 := ih (by omega) (by omega)
      have h5 := hf j (by omega) h4
      have h6 := hlt j (by omega)
      have h7 := (hm j (by omega)).1
      omega
  have hin : (i : Int) < n := by
    by_cases c : (i : Int) < n
    · exact c
    · exfalso
      have := up n.toNat (by omega) (by omega)
      omega
  have h4 := up i (Nat.le_refl i) (by omega)
  have h5 := hf i hin h4
  refine ⟨i, hi, hin, hr, h4, ?_, h5⟩
  rcases hend with e | e
  · have : n.toNat = i + 1 := by omega
    rw [this] at h1
    exact h1
  · have h7 := (hm i hin).1
    omega
theorem PJ.push {n r : Int} {F Z : Nat → Int32} {q : Nat} {fo ol cu : Int32} (h : PJ n F Z q fo ol cu) (hne : cu.toInt ≠ fo.toInt) (hr : RO F Z q cu r) : ∃ i : Nat, i < 4 ∧ r = 4 * (q : Int) + i ∧ 0 ≤ (farI (F (4 * q + i)) cu).toInt ∧ (farI (F (4 * q + i)) cu).toInt < NB Z (4 * q + i) ∧ 1 ≤ (Z (4 * q + i)).toInt ∧ (Z (4 * q + i)).toInt ≤ 12 ∧ ∀ cu' : Int32, cu'.toInt = (cu.toInt + 1) % 64 ∨ cu'.toInt = (cu.toInt + (NB Z (4 * q + i) - (farI (F (4 * q + i)) cu).toInt)) % 64 → PJ n F Z q fo ol cu' := by
  obtain ⟨n0, n4, a, o, c, hR, h0, h1, h2, h3, e1, e2, e3⟩ := h
  have hc : c < a n.toNat := by
    rcases Int.lt_or_lt_of_ne (show c ≠ a n.toNat from fun e => hne (by rw [e3, e1, e])) with h | h
    · exact h
    · omega
  obtain ⟨i, i4, hin, er, ha, hb, ef⟩ := pj_find ⟨n0, n4⟩ hR (by omega) hc e3 hr
  have hi := hR i hin
  refine ⟨i, i4, er, by omega, by omega, hi.2.1, hi.2.2.1, fun cu' hcu => ?_⟩
  have hm : ∀ i : Nat, (i : Int) < n → a (i + 1) = a i + NB Z (4 * q + i) ∧ 1 ≤ NB Z (4 * q + i) ∧ NB Z (4 * q + i) ≤ 3 := fun i hi => by
    obtain ⟨e1, e2, e3, _⟩ := hR i hi
    exact ⟨e1, pj_N ⟨e2, e3⟩⟩
  have e4 := pj_mono hm (n.toNat - (i + 1)) (i + 1) (by omega)
  rw [show i + 1 + (n.toNat - (i + 1)) = n.toNat by omega] at e4
  rcases hcu with hcu | hcu
  · exact ⟨n0, n4, a, o, c + 1, hR, h0, by omega, by omega, h3, e1, e2, by omega⟩
  · refine ⟨n0, n4, a, o, a (i + 1), hR, h0, by omega, by omega, h3, e1, e2, ?_⟩
    rw [hcu, ef, hi.1]
    omega
theorem PJ.ans {n r : Int} {F Z : Nat → Int32} {q : Nat} {fo ol cu : Int32} (h : PJ n F Z q fo ol cu) (hne : cu.toInt ≠ ol.toInt) (hr : RO F Z q ol r) : r = 4 * (q : Int) ∧ 1 ≤ n ∧ 0 ≤ (farI (F (4 * q)) ol).toInt ∧ (farI (F (4 * q)) ol).toInt < NB Z (4 * q) ∧ 1 ≤ (Z (4 * q)).toInt ∧ (Z (4 * q)).toInt ≤ 12 ∧ (∀ ol' : Int32, ol'.toInt = (ol.toInt + 1) % 64 → (farI ol' cu).toInt = (farI ol cu).toInt - 1) ∧ ((farI (F (4 * q)) ol).toInt ≠ NB Z (4 * q) - 1 → ∀ ol' : Int32, ol'.toInt = (ol.toInt + 1) % 64 → PJ n F Z q fo ol' cu) ∧ ((farI (F (4 * q)) ol).toInt = NB Z (4 * q) - 1 → ∀ (ol' : Int32) (n' : Int) (F' Z' : Nat → Int32), ol'.toInt = (ol.toInt + 1) % 64 → n' = n - 1 → (∀ i : Nat, (i : Int) < n' → F' (4 * q + i) = F (4 * q + i + 1) ∧ Z' (4 * q + i) = Z (4 * q + i + 1)) → PJ n' F' Z' q fo ol' cu) := by
  obtain ⟨n0, n4, a, o, c, hR, h0, h1, h2, h3, e1, e2, e3⟩ := h
  have hoc : o < c := by
    rcases Int.lt_or_lt_of_ne (show c ≠ o from fun e => hne (by rw [e3, e2, e])) with h | h
    · omega
    · exact h
  have hm : ∀ i : Nat, (i : Int) < n → a (i + 1) = a i + NB Z (4 * q + i) ∧ 1 ≤ NB Z (4 * q + i) ∧ NB Z (4 * q + i) ≤ 3 := fun i hi => by
    obtain ⟨e1, e2, e3, _⟩ := hR i hi
    exact ⟨e1, pj_N ⟨e2, e3⟩⟩
  have ht := pj_mono hm n.toNat 0 (by omega)
  rw [Nat.zero_add] at ht
  obtain ⟨i, i4, hin, er, ha, hb, ef⟩ := pj_find ⟨n0, n4⟩ hR (by omega) (by omega) e2 hr
  have h1n : 0 < n := by omega
  have h4 := h3 h1n
  have i0 : i = 0 := by
    by_cases c : i = 0
    · exact c
    · exfalso
      have e4 := pj_mono hm (i - 1) 1 (by omega)
      rw [show 1 + (i - 1) = i by omega] at e4
      omega
  subst i0
  have hi := hR 0 h1n
  have hmi := hm 0 h1n
  simp only [Nat.add_zero, Nat.zero_add] at ef hi hmi hb
  refine ⟨by omega, by omega, by omega, by omega, hi.2.1, hi.2.2.1, fun ol' ho => ?_, fun hk ol' ho => ?_, fun hk ol' n' F' Z' ho hn' hs => ?_⟩
  · have q1 := farI_t (a := ol') (b := cu) (by omega) (by omega)
    have q2 := farI_t (a := ol) (b := cu) (by omega) (by omega)
    omega
  · exact ⟨n0, n4, a, o + 1, c, hR, by omega, by omega, h2, fun _ => by omega, e1, by omega, e3⟩
  · subst hn'
    have ej : (n - 1).toNat + 1 = n.toNat := by omega
    refine ⟨by omega, by omega, fun i => a (i + 1), o + 1, c, fun i hi => ?_, ?_, by omega, ?_, fun hp => ?_, ?_, by omega, e3⟩
    · obtain ⟨s1, s2⟩ := hs i hi
      have t := hR (i + 1) (by omega)
      have t2 : NB Z' (4 * q + i) = NB Z (4 * q + (i + 1)) := by unfold NB; rw [s2]; rfl
      rw [s1, s2, t2]
      exact t
    · show a 1 ≤ o + 1
      omega
    · show c ≤ a ((n - 1).toNat + 1)
      rw [ej]
      exact h2
    · show o + 1 < a (1 + 1)
      have := hm 1 (by omega)
      omega
    · show fo.toInt = a ((n - 1).toNat + 1) % 64
      rw [ej]
      exact e1
theorem PJ.post {n : Int} {F Z F' Z' : Nat → Int32} {q : Nat} {fo ol cu fo' : Int32} (h : PJ n F Z q fo ol cu) (hn : n ≠ 4) (k : Nat) (hk : (k : Int) = 4 * (q : Int) + n) (eF : ∀ j, j ≠ k → F' j = F j) (eZ : ∀ j, j ≠ k → Z' j = Z j) (hF : F' k = fo) (hZ : 1 ≤ (Z' k).toInt ∧ (Z' k).toInt ≤ 12) (hf : fo'.toInt = (fo.toInt + NB Z' k) % 64) : PJ (n + 1) F' Z' q fo' ol cu := by
  obtain ⟨n0, n4, a, o, c, hR, h0, h1, h2, h3, e1, e2, e3⟩ := h
  have hb := pj_N hZ
  have hk' : k = 4 * q + n.toNat := by omega
  have e5 : (n + 1).toNat = n.toNat + 1 := by omega
  refine ⟨by omega, by omega, fun i => if i ≤ n.toNat then a i else a n.toNat + NB Z' k, o, c, fun i hi => ?_, ?_, h1, ?_, fun _ => ?_, ?_, e2, e3⟩
  · by_cases c : i = n.toNat
    · subst c
      simp only [Nat.le_refl, if_true, show ¬ (n.toNat + 1 ≤ n.toNat) by omega, if_false]
      rw [← hk', hF]
      exact ⟨rfl, hZ.1, hZ.2, e1⟩
    · have t := hR i (by omega)
      have t2 : NB Z' (4 * q + i) = NB Z (4 * q + i) := by unfold NB; rw [eZ _ (by omega)]
      simp only [show i ≤ n.toNat by omega, show i + 1 ≤ n.toNat by omega, if_true]
      rw [eF _ (by omega), eZ _ (by omega), t2]
      exact t
  · simp only [Nat.zero_le, if_true]
    exact h0
  · simp only [e5, show ¬ (n.toNat + 1 ≤ n.toNat) by omega, if_false]
    omega
  · by_cases c : n = 0
    · subst c
      simp only [Int.toNat_zero, show ¬ (1 ≤ 0) by omega, if_false]
      simp only [Int.toNat_zero] at h2
      omega
    · simp only [show 1 ≤ n.toNat by omega, if_true]
      exact h3 (by omega)
  · simp only [e5, show ¬ (n.toNat + 1 ≤ n.toNat) by omega, if_false]
    rw [hf, e1]
    omega
theorem PJ.back {n : Int} {F Z : Nat → Int32} {q : Nat} {fo ol cu cu' : Int32} (h : PJ n F Z q fo ol cu) (e : cu' = ol) : PJ n F Z q fo ol cu' := by
  obtain ⟨n0, n4, a, o, c, hR, h0, h1, h2, h3, e1, e2, e3⟩ := h
  subst e
  exact ⟨n0, n4, a, o, o, hR, h0, by omega, by omega, h3, e1, e2, e2⟩
theorem PJ.new {F Z : Nat → Int32} {q : Nat} {x : Int32} (h : 0 ≤ x.toInt ∧ x.toInt ≤ 63) : PJ 0 F Z q x x x :=
  ⟨by omega, by omega, fun _ => x.toInt, x.toInt, x.toInt, fun i hi => absurd hi (by omega), Int.le_refl _, Int.le_refl _, Int.le_refl _, fun h => absurd h (by omega), (by show x.toInt = x.toInt % 64; omega), by omega, by omega⟩
theorem PJ.cg {n n' : Int} {F Z F' Z' : Nat → Int32} {q : Nat} {fo ol cu fo' ol' cu' : Int32} (h : PJ n F Z q fo ol cu) (en : n' = n) (eF : ∀ i, i < 4 → F' (4 * q + i) = F (4 * q + i)) (eZ : ∀ i, i < 4 → Z' (4 * q + i) = Z (4 * q + i)) (e1 : fo' = fo) (e2 : ol' = ol) (e3 : cu' = cu) : PJ n' F' Z' q fo' ol' cu' := by
  subst en e1 e2 e3
  obtain ⟨n0, n4, a, o, c, hR, h⟩ := h
  refine ⟨n0, n4, a, o, c, fun i hi => ?_, h⟩
  have t := hR i hi
  have t2 : NB Z' (4 * q + i) = NB Z (4 * q + i) := by unfold NB; rw [eZ _ (by omega)]
  rw [eF _ (by omega), eZ _ (by omega), t2]
  exact t
theorem P4.cg {st n F Z fo ol cu st' n' F' Z' fo' ol' cu' : Nat → Int32} {q : Nat} (h : P4 st n F Z fo ol cu q) (es : st' q = st q) (en : n' q = n q) (eF : ∀ i, i < 4 → F' (4 * q + i) = F (4 * q + i)) (eZ : ∀ i, i < 4 → Z' (4 * q + i) = Z (4 * q + i)) (e1 : fo' q = fo q) (e2 : ol' q = ol q) (e3 : cu' q = cu q) : P4 st' n' F' Z' fo' ol' cu' q :=
  ⟨fun hs => (h.1 (by rw [← es]; exact hs)).cg (by rw [en]) eF eZ e1 e2 e3, by rw [es, en]; exact h.2⟩

def D_X10_numbersOf (A : AA) (cd pk : Int32) (p0 : Int32) (r : Int32) : Prop :=
  (∃ n_3 : Nat, ((n_3 : Int) = p0.toInt) ∧ ∃ x_8 : Int32, (x_8 = ((A 24) n_3) + 3) ∧ (x_8.toInt = ((A 24) n_3).toInt + 3) ∧ ∃ x_9 : Int32, (x_9 = x_8 / 4) ∧ (x_9.toInt = x_8.toInt / 4) ∧ r = x_9)
def D_X10_hasCells (A : AA) (cd pk : Int32) (p0 : Int32) (r : Int32) : Prop :=
  (∃ n_3 : Nat, ((n_3 : Int) = p0.toInt) ∧ (((A 22) n_3).toInt < 2) ∧ r = 0)
  ∨ (∃ n_3 : Nat, ((n_3 : Int) = p0.toInt) ∧ (¬ ((A 22) n_3).toInt < 2) ∧ r = 1)
def D_X10_post (A : AA) (cd pk : Int32) (p0 : Int32) (p1 : Int32) (p2 : Int32) (p3 : Int32) (p4 : Int32) (p5 : Int32) (p6 : Int32) (Z : AA) (cdz pkz : Int32) (r : Int32) : Prop :=
  (∃ n_1 : Nat, ((n_1 : Int) = p0.toInt) ∧ ∃ x_2 : Int32, (x_2 = 4 * p0) ∧ (x_2.toInt = 4 * p0.toInt) ∧ ∃ x_8 : Int32, (x_8 = x_2 + ((A 20) n_1)) ∧ (x_8.toInt = x_2.toInt + ((A 20) n_1).toInt) ∧ ∃ n_11 : Nat, ((n_11 : Int) = x_8.toInt) ∧ ∃ g_10 : Nat → Int32, (g_10 = upd (A 22) n_11 p1) ∧ ∃ g_12 : Nat → Int32, (g_12 = upd (A 23) n_11 p2) ∧ ∃ g_13 : Nat → Int32, (g_13 = upd (A 24) n_11 p3) ∧ ∃ g_14 : Nat → Int32, (g_14 = upd (A 25) n_11 p4) ∧ ∃ g_15 : Nat → Int32, (g_15 = upd (A 26) n_11 p5) ∧ ∃ g_16 : Nat → Int32, (g_16 = upd (A 27) n_11 p6) ∧ ∃ g_18 : Nat → Int32, (g_18 = upd (A 28) n_11 ((A 21) n_1)) ∧ ∃ g_20 : Nat → Int32, (g_20 = upd (A 29) n_11 ((A 11) n_1)) ∧ ∃ r_23 : Int32, (D_X10_numbersOf (uA (uA (uA (uA (uA (uA (uA (uA A 22 g_10) 23 g_12) 24 g_13) 25 g_14) 26 g_15) 27 g_16) 28 g_18) 29 g_20) cd pk x_8 r_23) ∧ (0 ≤ r_23.toInt ∧ r_23.toInt ≤ 3) ∧ (∀ n : Nat, (n : Int) = x_8.toInt → r_23.toInt = NB g_13 n) ∧ ∃ x_24 : Int32, (x_24 = ((A 11) n_1) + r_23) ∧ (x_24.toInt = ((A 11) n_1).toInt + r_23.toInt) ∧ ∃ x_25 : Int32, (x_25 = x_24 - x_24 / 64 * 64) ∧ (x_25.toInt = x_24.toInt % 64) ∧ ∃ g_26 : Nat → Int32, (g_26 = upd (A 11) n_1 x_25) ∧ ∃ x_28 : Int32, (x_28 = ((A 20) n_1) + 1) ∧ (x_28.toInt = ((A 20) n_1).toInt + 1) ∧ ∃ g_29 : Nat → Int32, (g_29 = upd (A 20) n_1 x_28) ∧ ∃ x_31 : Int32, (x_31 = ((A 21) n_1) + 1) ∧ ∃ g_32 : Nat → Int32, (g_32 = upd (A 21) n_1 x_31) ∧ ∃ x_34 : Int32, (x_34 = x_31 - 1) ∧ Z = (uA (uA (uA (uA (uA (uA (uA (uA (uA (uA (uA A 11 g_26) 20 g_29) 21 g_32) 22 g_10) 23 g_12) 24 g_13) 25 g_14) 26 g_15) 27 g_16) 28 g_18) 29 g_20) ∧ cdz = cd ∧ pkz = pk ∧ r = x_34)
def D_X10_cellsGood (A : AA) (cd pk : Int32) (p0 : Int32) (p1 : Int32) (p2 : Int32) (r : Int32) : Prop :=
  ((¬ (0 ≤ p0.toInt ∧ p0.toInt ≤ (3 : Int32).toInt)) ∧ r = 0)
  ∨ ((0 ≤ p0.toInt ∧ p0.toInt ≤ (3 : Int32).toInt) ∧ (p2.toInt < 1) ∧ r = 0)
  ∨ ((0 ≤ p0.toInt ∧ p0.toInt ≤ (3 : Int32).toInt) ∧ (¬ p2.toInt < 1) ∧ (12 < p2.toInt) ∧ r = 0)
  ∨ ((0 ≤ p0.toInt ∧ p0.toInt ≤ (3 : Int32).toInt) ∧ (¬ p2.toInt < 1) ∧ (¬ 12 < p2.toInt) ∧ (p1.toInt < 0) ∧ r = 0)
  ∨ ((0 ≤ p0.toInt ∧ p0.toInt ≤ (3 : Int32).toInt) ∧ (¬ p2.toInt < 1) ∧ (¬ 12 < p2.toInt) ∧ (¬ p1.toInt < 0) ∧ ∃ x_5 : Int32, (x_5 = 32 - p2) ∧ (x_5.toInt = 32 - p2.toInt) ∧ (x_5.toInt < p1.toInt) ∧ r = 0)
  ∨ ((0 ≤ p0.toInt ∧ p0.toInt ≤ (3 : Int32).toInt) ∧ (¬ p2.toInt < 1) ∧ (¬ 12 < p2.toInt) ∧ (¬ p1.toInt < 0) ∧ ∃ x_5 : Int32, (x_5 = 32 - p2) ∧ (x_5.toInt = 32 - p2.toInt) ∧ (¬ x_5.toInt < p1.toInt) ∧ r = 1)
def D_X10_full (A : AA) (cd pk : Int32) (p0 : Int32) (r : Int32) : Prop :=
  (∃ n_3 : Nat, ((n_3 : Int) = p0.toInt) ∧ (¬ ((A 10) n_3).toInt = 1) ∧ r = 1)
  ∨ (∃ n_3 : Nat, ((n_3 : Int) = p0.toInt) ∧ (((A 10) n_3).toInt = 1) ∧ (¬ ((A 20) n_3).toInt = 4) ∧ r = 0)
  ∨ (∃ n_3 : Nat, ((n_3 : Int) = p0.toInt) ∧ (((A 10) n_3).toInt = 1) ∧ (((A 20) n_3).toInt = 4) ∧ r = 1)
def D_X10_send (A : AA) (cd pk : Int32) (p0 : Int32) (p1 : Int32) (p2 : Int32) (Z : AA) (cdz pkz : Int32) (r : Int32) : Prop :=
  (∃ r_1 : Int32, (D_X10_cellsGood A (0 : Int32) pk p0 p1 p2 r_1) ∧ (r_1 = 0 ∨ r_1 = 1) ∧ (¬ r_1.toInt = 0) ∧ ∃ r_3 : Int32, (D_X10_full A (0 : Int32) pk p0 r_3) ∧ (r_3 = 0 ∨ r_3 = 1) ∧ (∀ n : Nat, (n : Int) = p0.toInt → r_3.toInt = 1 ∨ (((A 10) n).toInt = 1 ∧ ((A 20) n).toInt ≠ 4)) ∧ ∃ n_4 : Nat, ((n_4 : Int) = p0.toInt) ∧ (r_3.toInt = 0) ∧ ∃ ur_6 : (Nat → Int32) × (Nat → Int32) × (Nat → Int32) × (Nat → Int32) × (Nat → Int32) × (Nat → Int32) × (Nat → Int32) × (Nat → Int32) × (Nat → Int32) × (Nat → Int32) × (Nat → Int32), ∃ r_6 : Int32, (D_X10_post A (0 : Int32) pk p0 (0 : Int32) p1 p2 (-1 : Int32) (-1 : Int32) (0 : Int32) (uA (uA (uA (uA (uA (uA (uA (uA (uA (uA (uA A 11 (ur_6.1)) 20 (ur_6.2.1)) 21 (ur_6.2.2.1)) 22 (ur_6.2.2.2.1)) 23 (ur_6.2.2.2.2.1)) 24 (ur_6.2.2.2.2.2.1)) 25 (ur_6.2.2.2.2.2.2.1)) 26 (ur_6.2.2.2.2.2.2.2.1)) 27 (ur_6.2.2.2.2.2.2.2.2.1)) 28 (ur_6.2.2.2.2.2.2.2.2.2.1)) 29 (ur_6.2.2.2.2.2.2.2.2.2.2)) (0 : Int32) pk r_6) ∧ (I4 (A 10) (ur_6.2.1) (ur_6.2.2.2.2.2.2.2.2.2.2) (ur_6.2.2.2.2.2.1) (ur_6.1) (A 12) (A 13)) ∧ (I6 (ur_6.2.2.2.1) (ur_6.2.2.2.2.1) (ur_6.2.2.2.2.2.1) (ur_6.2.2.2.2.2.2.1) (ur_6.2.2.2.2.2.2.2.1)) ∧ (I8 (ur_6.2.1) (A 30) (A 37) (A 36)) ∧ Z = (uA (uA (uA (uA (uA (uA (uA (uA (uA (uA (uA A 11 (ur_6.1)) 20 (ur_6.2.1)) 21 (ur_6.2.2.1)) 22 (ur_6.2.2.2.1)) 23 (ur_6.2.2.2.2.1)) 24 (ur_6.2.2.2.2.2.1)) 25 (ur_6.2.2.2.2.2.2.1)) 26 (ur_6.2.2.2.2.2.2.2.1)) 27 (ur_6.2.2.2.2.2.2.2.2.1)) 28 (ur_6.2.2.2.2.2.2.2.2.2.1)) 29 (ur_6.2.2.2.2.2.2.2.2.2.2)) ∧ cdz = 0 ∧ pkz = pk ∧ r = r_6)
  ∨ (∃ r_1 : Int32, (D_X10_cellsGood A (0 : Int32) pk p0 p1 p2 r_1) ∧ (r_1 = 0 ∨ r_1 = 1) ∧ (¬ r_1.toInt = 0) ∧ ∃ r_3 : Int32, (D_X10_full A (0 : Int32) pk p0 r_3) ∧ (r_3 = 0 ∨ r_3 = 1) ∧ (∀ n : Nat, (n : Int) = p0.toInt → r_3.toInt = 1 ∨ (((A 10) n).toInt = 1 ∧ ((A 20) n).toInt ≠ 4)) ∧ ∃ n_4 : Nat, ((n_4 : Int) = p0.toInt) ∧ (¬ r_3.toInt = 0) ∧ ∃ ur_7 : Int32, ∃ r_7 : Int32, (D_X10_fail A (0 : Int32) pk (2 : Int32) A ur_7 pk r_7) ∧ (ur_7 = (2 : Int32)) ∧ Z = (uA (uA (uA (uA (uA (uA (uA (uA (uA (uA (uA A 11 (A 11)) 20 (A 20)) 21 (A 21)) 22 (A 22)) 23 (A 23)) 24 (A 24)) 25 (A 25)) 26 (A 26)) 27 (A 27)) 28 (A 28)) 29 (A 29)) ∧ cdz = ur_7 ∧ pkz = pk ∧ r = r_7)
  ∨ (∃ r_1 : Int32, (D_X10_cellsGood A (0 : Int32) pk p0 p1 p2 r_1) ∧ (r_1 = 0 ∨ r_1 = 1) ∧ (r_1.toInt = 0) ∧ ∃ ur_8 : Int32, ∃ r_8 : Int32, (D_X10_fail A (0 : Int32) pk (1 : Int32) A ur_8 pk r_8) ∧ (ur_8 = (1 : Int32)) ∧ Z = (uA (uA (uA (uA (uA (uA (uA (uA (uA (uA (uA A 11 (A 11)) 20 (A 20)) 21 (A 21)) 22 (A 22)) 23 (A 23)) 24 (A 24)) 25 (A 25)) 26 (A 26)) 27 (A 27)) 28 (A 28)) 29 (A 29)) ∧ cdz = ur_8 ∧ pkz = pk ∧ r = r_8)
def D_X10_move (A : AA) (cd pk : Int32) (p0 : Int32) (p1 : Int32) (p2 : Int32) (p3 : Int32) (p4 : Int32) (p5 : Int32) (Z : AA) (cdz pkz : Int32) (r : Int32) : Prop :=
  (∃ r_1 : Int32, (D_X10_cellsGood A (0 : Int32) pk p0 p2 p3 r_1) ∧ (r_1 = 0 ∨ r_1 = 1) ∧ (r_1.toInt = 0) ∧ ∃ ur_3 : Int32, ∃ r_3 : Int32, (D_X10_fail A (0 : Int32) pk (1 : Int32) A ur_3 pk r_3) ∧ (ur_3 = (1 : Int32)) ∧ Z = (uA (uA (uA (uA (uA (uA (uA (uA (uA (uA (uA A 11 (A 11)) 20 (A 20)) 21 (A 21)) 22 (A 22)) 23 (A 23)) 24 (A 24)) 25 (A 25)) 26 (A 26)) 27 (A 27)) 28 (A 28)) 29 (A 29)) ∧ cdz = ur_3 ∧ pkz = pk ∧ r = r_3)
  ∨ (∃ r_1 : Int32, (D_X10_cellsGood A (0 : Int32) pk p0 p2 p3 r_1) ∧ (r_1 = 0 ∨ r_1 = 1) ∧ (¬ r_1.toInt = 0) ∧ (¬ (0 ≤ p4.toInt ∧ p4.toInt ≤ (5 : Int32).toInt)) ∧ ∃ ur_5 : Int32, ∃ r_5 : Int32, (D_X10_fail A (0 : Int32) pk (1 : Int32) A ur_5 pk r_5) ∧ (ur_5 = (1 : Int32)) ∧ Z = (uA (uA (uA (uA (uA (uA (uA (uA (uA (uA (uA A 11 (A 11)) 20 (A 20)) 21 (A 21)) 22 (A 22)) 23 (A 23)) 24 (A 24)) 25 (A 25)) 26 (A 26)) 27 (A 27)) 28 (A 28)) 29 (A 29)) ∧ cdz = ur_5 ∧ pkz = pk ∧ r = r_5)
  ∨ (∃ r_1 : Int32, (D_X10_cellsGood A (0 : Int32) pk p0 p2 p3 r_1) ∧ (r_1 = 0 ∨ r_1 = 1) ∧ (¬ r_1.toInt = 0) ∧ (0 ≤ p4.toInt ∧ p4.toInt ≤ (5 : Int32).toInt) ∧ (0 ≤ p5.toInt ∧ p5.toInt ≤ (31 : Int32).toInt) ∧ ∃ r_7 : Int32, (D_X10_full A (0 : Int32) pk p0 r_7) ∧ (r_7 = 0 ∨ r_7 = 1) ∧ (∀ n : Nat, (n : Int) = p0.toInt → r_7.toInt = 1 ∨ (((A 10) n).toInt = 1 ∧ ((A 20) n).toInt ≠ 4)) ∧ ∃ n_8 : Nat, ((n_8 : Int) = p0.toInt) ∧ (r_7.toInt = 0) ∧ (p1.toInt = 0) ∧ ∃ ur_11 : (Nat → Int32) × (Nat → Int32) × (Nat → Int32) × (Nat → Int32) × (Nat → Int32) × (Nat → Int32) × (Nat → Int32) × (Nat → Int32) × (Nat → Int32) × (Nat → Int32) × (Nat → Int32), ∃ r_11 : Int32, (D_X10_post A (0 : Int32) pk p0 (1 : Int32) p2 p3 p4 p5 (0 : Int32) (uA (uA (uA (uA (uA (uA (uA (uA (uA (uA (uA A 11 (ur_11.1)) 20 (ur_11.2.1)) 21 (ur_11.2.2.1)) 22 (ur_11.2.2.2.1)) 23 (ur_11.2.2.2.2.1)) 24 (ur_11.2.2.2.2.2.1)) 25 (ur_11.2.2.2.2.2.2.1)) 26 (ur_11.2.2.2.2.2.2.2.1)) 27 (ur_11.2.2.2.2.2.2.2.2.1)) 28 (ur_11.2.2.2.2.2.2.2.2.2.1)) 29 (ur_11.2.2.2.2.2.2.2.2.2.2)) (0 : Int32) pk r_11) ∧ (I4 (A 10) (ur_11.2.1) (ur_11.2.2.2.2.2.2.2.2.2.2) (ur_11.2.2.2.2.2.1) (ur_11.1) (A 12) (A 13)) ∧ (I6 (ur_11.2.2.2.1) (ur_11.2.2.2.2.1) (ur_11.2.2.2.2.2.1) (ur_11.2.2.2.2.2.2.1) (ur_11.2.2.2.2.2.2.2.1)) ∧ (I8 (ur_11.2.1) (A 30) (A 37) (A 36)) ∧ Z = (uA (uA (uA (uA (uA (uA (uA (uA (uA (uA (uA A 11 (ur_11.1)) 20 (ur_11.2.1)) 21 (ur_11.2.2.1)) 22 (ur_11.2.2.2.1)) 23 (ur_11.2.2.2.2.1)) 24 (ur_11.2.2.2.2.2.1)) 25 (ur_11.2.2.2.2.2.2.1)) 26 (ur_11.2.2.2.2.2.2.2.1)) 27 (ur_11.2.2.2.2.2.2.2.2.1)) 28 (ur_11.2.2.2.2.2.2.2.2.2.1)) 29 (ur_11.2.2.2.2.2.2.2.2.2.2)) ∧ cdz = 0 ∧ pkz = pk ∧ r = r_11)
  ∨ (∃ r_1 : Int32, (D_X10_cellsGood A (0 : Int32) pk p0 p2 p3 r_1) ∧ (r_1 = 0 ∨ r_1 = 1) ∧ (¬ r_1.toInt = 0) ∧ (0 ≤ p4.toInt ∧ p4.toInt ≤ (5 : Int32).toInt) ∧ (0 ≤ p5.toInt ∧ p5.toInt ≤ (31 : Int32).toInt) ∧ ∃ r_7 : Int32, (D_X10_full A (0 : Int32) pk p0 r_7) ∧ (r_7 = 0 ∨ r_7 = 1) ∧ (∀ n : Nat, (n : Int) = p0.toInt → r_7.toInt = 1 ∨ (((A 10) n).toInt = 1 ∧ ((A 20) n).toInt ≠ 4)) ∧ ∃ n_8 : Nat, ((n_8 : Int) = p0.toInt) ∧ (r_7.toInt = 0) ∧ (¬ p1.toInt = 0) ∧ ∃ ur_12 : (Nat → Int32) × (Nat → Int32) × (Nat → Int32) × (Nat → Int32) × (Nat → Int32) × (Nat → Int32) × (Nat → Int32) × (Nat → Int32) × (Nat → Int32) × (Nat → Int32) × (Nat → Int32), ∃ r_12 : Int32, (D_X10_post A (0 : Int32) pk p0 (2 : Int32) p2 p3 p4 p5 (0 : Int32) (uA (uA (uA (uA (uA (uA (uA (uA (uA (uA (uA A 11 (ur_12.1)) 20 (ur_12.2.1)) 21 (ur_12.2.2.1)) 22 (ur_12.2.2.2.1)) 23 (ur_12.2.2.2.2.1)) 24 (ur_12.2.2.2.2.2.1)) 25 (ur_12.2.2.2.2.2.2.1)) 26 (ur_12.2.2.2.2.2.2.2.1)) 27 (ur_12.2.2.2.2.2.2.2.2.1)) 28 (ur_12.2.2.2.2.2.2.2.2.2.1)) 29 (ur_12.2.2.2.2.2.2.2.2.2.2)) (0 : Int32) pk r_12) ∧ (I4 (A 10) (ur_12.2.1) (ur_12.2.2.2.2.2.2.2.2.2.2) (ur_12.2.2.2.2.2.1) (ur_12.1) (A 12) (A 13)) ∧ (I6 (ur_12.2.2.2.1) (ur_12.2.2.2.2.1) (ur_12.2.2.2.2.2.1) (ur_12.2.2.2.2.2.2.1) (ur_12.2.2.2.2.2.2.2.1)) ∧ (I8 (ur_12.2.1) (A 30) (A 37) (A 36)) ∧ Z = (uA (uA (uA (uA (uA (uA (uA (uA (uA (uA (uA A 11 (ur_12.1)) 20 (ur_12.2.1)) 21 (ur_12.2.2.1)) 22 (ur_12.2.2.2.1)) 23 (ur_12.2.2.2.2.1)) 24 (ur_12.2.2.2.2.2.1)) 25 (ur_12.2.2.2.2.2.2.1)) 26 (ur_12.2.2.2.2.2.2.2.1)) 27 (ur_12.2.2.2.2.2.2.2.2.1)) 28 (ur_12.2.2.2.2.2.2.2.2.2.1)) 29 (ur_12.2.2.2.2.2.2.2.2.2.2)) ∧ cdz = 0 ∧ pkz = pk ∧ r = r_12)
  ∨ (∃ r_1 : Int32, (D_X10_cellsGood A (0 : Int32) pk p0 p2 p3 r_1) ∧ (r_1 = 0 ∨ r_1 = 1) ∧ (¬ r_1.toInt = 0) ∧ (0 ≤ p4.toInt ∧ p4.toInt ≤ (5 : Int32).toInt) ∧ (0 ≤ p5.toInt ∧ p5.toInt ≤ (31 : Int32).toInt) ∧ ∃ r_7 : Int32, (D_X10_full A (0 : Int32) pk p0 r_7) ∧ (r_7 = 0 ∨ r_7 = 1) ∧ (∀ n : Nat, (n : Int) = p0.toInt → r_7.toInt = 1 ∨ (((A 10) n).toInt = 1 ∧ ((A 20) n).toInt ≠ 4)) ∧ ∃ n_8 : Nat, ((n_8 : Int) = p0.toInt) ∧ (¬ r_7.toInt = 0) ∧ ∃ ur_13 : Int32, ∃ r_13 : Int32, (D_X10_fail A (0 : Int32) pk (2 : Int32) A ur_13 pk r_13) ∧ (ur_13 = (2 : Int32)) ∧ Z = (uA (uA (uA (uA (uA (uA (uA (uA (uA (uA (uA A 11 (A 11)) 20 (A 20)) 21 (A 21)) 22 (A 22)) 23 (A 23)) 24 (A 24)) 25 (A 25)) 26 (A 26)) 27 (A 27)) 28 (A 28)) 29 (A 29)) ∧ cdz = ur_13 ∧ pkz = pk ∧ r = r_13)
  ∨ (∃ r_1 : Int32, (D_X10_cellsGood A (0 : Int32) pk p0 p2 p3 r_1) ∧ (r_1 = 0 ∨ r_1 = 1) ∧ (¬ r_1.toInt = 0) ∧ (0 ≤ p4.toInt ∧ p4.toInt ≤ (5 : Int32).toInt) ∧ (¬ (0 ≤ p5.toInt ∧ p5.toInt ≤ (31 : Int32).toInt)) ∧ ∃ ur_14 : Int32, ∃ r_14 : Int32, (D_X10_fail A (0 : Int32) pk (1 : Int32) A ur_14 pk r_14) ∧ (ur_14 = (1 : Int32)) ∧ Z = (uA (uA (uA (uA (uA (uA (uA (uA (uA (uA (uA A 11 (A 11)) 20 (A 20)) 21 (A 21)) 22 (A 22)) 23 (A 23)) 24 (A 24)) 25 (A 25)) 26 (A 26)) 27 (A 27)) 28 (A 28)) 29 (A 29)) ∧ cdz = ur_14 ∧ pkz = pk ∧ r = r_14)
def D_X10_add (A : AA) (cd pk : Int32) (p0 : Int32) (p1 : Int32) (p2 : Int32) (p3 : Int32) (p4 : Int32) (Z : AA) (cdz pkz : Int32) (r : Int32) : Prop :=
  (∃ r_1 : Int32, (D_X10_cellsGood A (0 : Int32) pk p0 p1 (1 : Int32) r_1) ∧ (r_1 = 0 ∨ r_1 = 1) ∧ (r_1.toInt = 0) ∧ ∃ ur_3 : Int32, ∃ r_3 : Int32, (D_X10_fail A (0 : Int32) pk (1 : Int32) A ur_3 pk r_3) ∧ (ur_3 = (1 : Int32)) ∧ Z = (uA (uA (uA (uA (uA (uA (uA (uA (uA (uA (uA A 11 (A 11)) 20 (A 20)) 21 (A 21)) 22 (A 22)) 23 (A 23)) 24 (A 24)) 25 (A 25)) 26 (A 26)) 27 (A 27)) 28 (A 28)) 29 (A 29)) ∧ cdz = ur_3 ∧ pkz = pk ∧ r = r_3)
  ∨ (∃ r_1 : Int32, (D_X10_cellsGood A (0 : Int32) pk p0 p1 (1 : Int32) r_1) ∧ (r_1 = 0 ∨ r_1 = 1) ∧ (¬ r_1.toInt = 0) ∧ (¬ (0 ≤ p2.toInt ∧ p2.toInt ≤ (5 : Int32).toInt)) ∧ ∃ ur_5 : Int32, ∃ r_5 : Int32, (D_X10_fail A (0 : Int32) pk (1 : Int32) A ur_5 pk r_5) ∧ (ur_5 = (1 : Int32)) ∧ Z = (uA (uA (uA (uA (uA (uA (uA (uA (uA (uA (uA A 11 (A 11)) 20 (A 20)) 21 (A 21)) 22 (A 22)) 23 (A 23)) 24 (A 24)) 25 (A 25)) 26 (A 26)) 27 (A 27)) 28 (A 28)) 29 (A 29)) ∧ cdz = ur_5 ∧ pkz = pk ∧ r = r_5)
  ∨ (∃ r_1 : Int32, (D_X10_cellsGood A (0 : Int32) pk p0 p1 (1 : Int32) r_1) ∧ (r_1 = 0 ∨ r_1 = 1) ∧ (¬ r_1.toInt = 0) ∧ (0 ≤ p2.toInt ∧ p2.toInt ≤ (5 : Int32).toInt) ∧ (0 ≤ p3.toInt ∧ p3.toInt ≤ (31 : Int32).toInt) ∧ ∃ r_7 : Int32, (D_X10_full A (0 : Int32) pk p0 r_7) ∧ (r_7 = 0 ∨ r_7 = 1) ∧ (∀ n : Nat, (n : Int) = p0.toInt → r_7.toInt = 1 ∨ (((A 10) n).toInt = 1 ∧ ((A 20) n).toInt ≠ 4)) ∧ ∃ n_8 : Nat, ((n_8 : Int) = p0.toInt) ∧ (r_7.toInt = 0) ∧ ∃ ur_10 : (Nat → Int32) × (Nat → Int32) × (Nat → Int32) × (Nat → Int32) × (Nat → Int32) × (Nat → Int32) × (Nat → Int32) × (Nat → Int32) × (Nat → Int32) × (Nat → Int32) × (Nat → Int32), ∃ r_10 : Int32, (D_X10_post A (0 : Int32) pk p0 (3 : Int32) p1 (1 : Int32) p2 p3 p4 (uA (uA (uA (uA (uA (uA (uA (uA (uA (uA (uA A 11 (ur_10.1)) 20 (ur_10.2.1)) 21 (ur_10.2.2.1)) 22 (ur_10.2.2.2.1)) 23 (ur_10.2.2.2.2.1)) 24 (ur_10.2.2.2.2.2.1)) 25 (ur_10.2.2.2.2.2.2.1)) 26 (ur_10.2.2.2.2.2.2.2.1)) 27 (ur_10.2.2.2.2.2.2.2.2.1)) 28 (ur_10.2.2.2.2.2.2.2.2.2.1)) 29 (ur_10.2.2.2.2.2.2.2.2.2.2)) (0 : Int32) pk r_10) ∧ (I4 (A 10) (ur_10.2.1) (ur_10.2.2.2.2.2.2.2.2.2.2) (ur_10.2.2.2.2.2.1) (ur_10.1) (A 12) (A 13)) ∧ (I6 (ur_10.2.2.2.1) (ur_10.2.2.2.2.1) (ur_10.2.2.2.2.2.1) (ur_10.2.2.2.2.2.2.1) (ur_10.2.2.2.2.2.2.2.1)) ∧ (I8 (ur_10.2.1) (A 30) (A 37) (A 36)) ∧ Z = (uA (uA (uA (uA (uA (uA (uA (uA (uA (uA (uA A 11 (ur_10.1)) 20 (ur_10.2.1)) 21 (ur_10.2.2.1)) 22 (ur_10.2.2.2.1)) 23 (ur_10.2.2.2.2.1)) 24 (ur_10.2.2.2.2.2.1)) 25 (ur_10.2.2.2.2.2.2.1)) 26 (ur_10.2.2.2.2.2.2.2.1)) 27 (ur_10.2.2.2.2.2.2.2.2.1)) 28 (ur_10.2.2.2.2.2.2.2.2.2.1)) 29 (ur_10.2.2.2.2.2.2.2.2.2.2)) ∧ cdz = 0 ∧ pkz = pk ∧ r = r_10)
  ∨ (∃ r_1 : Int32, (D_X10_cellsGood A (0 : Int32) pk p0 p1 (1 : Int32) r_1) ∧ (r_1 = 0 ∨ r_1 = 1) ∧ (¬ r_1.toInt = 0) ∧ (0 ≤ p2.toInt ∧ p2.toInt ≤ (5 : Int32).toInt) ∧ (0 ≤ p3.toInt ∧ p3.toInt ≤ (31 : Int32).toInt) ∧ ∃ r_7 : Int32, (D_X10_full A (0 : Int32) pk p0 r_7) ∧ (r_7 = 0 ∨ r_7 = 1) ∧ (∀ n : Nat, (n : Int) = p0.toInt → r_7.toInt = 1 ∨ (((A 10) n).toInt = 1 ∧ ((A 20) n).toInt ≠ 4)) ∧ ∃ n_8 : Nat, ((n_8 : Int) = p0.toInt) ∧ (¬ r_7.toInt = 0) ∧ ∃ ur_11 : Int32, ∃ r_11 : Int32, (D_X10_fail A (0 : Int32) pk (2 : Int32) A ur_11 pk r_11) ∧ (ur_11 = (2 : Int32)) ∧ Z = (uA (uA (uA (uA (uA (uA (uA (uA (uA (uA (uA A 11 (A 11)) 20 (A 20)) 21 (A 21)) 22 (A 22)) 23 (A 23)) 24 (A 24)) 25 (A 25)) 26 (A 26)) 27 (A 27)) 28 (A 28)) 29 (A 29)) ∧ cdz = ur_11 ∧ pkz = pk ∧ r = r_11)
  ∨ (∃ r_1 : Int32, (D_X10_cellsGood A (0 : Int32) pk p0 p1 (1 : Int32) r_1) ∧ (r_1 = 0 ∨ r_1 = 1) ∧ (¬ r_1.toInt = 0) ∧ (0 ≤ p2.toInt ∧ p2.toInt ≤ (5 : Int32).toInt) ∧ (¬ (0 ≤ p3.toInt ∧ p3.toInt ≤ (31 : Int32).toInt)) ∧ ∃ ur_12 : Int32, ∃ r_12 : Int32, (D_X10_fail A (0 : Int32) pk (1 : Int32) A ur_12 pk r_12) ∧ (ur_12 = (1 : Int32)) ∧ Z = (uA (uA (uA (uA (uA (uA (uA (uA (uA (uA (uA A 11 (A 11)) 20 (A 20)) 21 (A 21)) 22 (A 22)) 23 (A 23)) 24 (A 24)) 25 (A 25)) 26 (A 26)) 27 (A 27)) 28 (A 28)) 29 (A 29)) ∧ cdz = ur_12 ∧ pkz = pk ∧ r = r_12)
def D_X10_receive (A : AA) (cd pk : Int32) (p0 : Int32) (p1 : Int32) (p2 : Int32) (Z : AA) (cdz pkz : Int32) (r : Int32) : Prop :=
  (∃ r_1 : Int32, (D_X10_cellsGood A (0 : Int32) pk p0 p1 p2 r_1) ∧ (r_1 = 0 ∨ r_1 = 1) ∧ (¬ r_1.toInt = 0) ∧ ∃ n_5 : Nat, ((n_5 : Int) = p0.toInt) ∧ (((A 10) n_5).toInt = 2) ∧ ∃ ur_7 : Int32, ∃ r_7 : Int32, (D_X10_fail A (0 : Int32) pk (2 : Int32) A ur_7 pk r_7) ∧ (ur_7 = (2 : Int32)) ∧ Z = (uA (uA (uA (uA (uA (uA A 30 (A 30)) 31 (A 31)) 32 (A 32)) 33 (A 33)) 34 (A 34)) 35 (A 35)) ∧ cdz = ur_7 ∧ pkz = pk ∧ r = r_7)
  ∨ (∃ r_1 : Int32, (D_X10_cellsGood A (0 : Int32) pk p0 p1 p2 r_1) ∧ (r_1 = 0 ∨ r_1 = 1) ∧ (¬ r_1.toInt = 0) ∧ ∃ n_5 : Nat, ((n_5 : Int) = p0.toInt) ∧ (¬ ((A 10) n_5).toInt = 2) ∧ (¬ ((A 30) n_5).toInt = 4) ∧ ∃ x_13 : Int32, (x_13 = 4 * p0) ∧ (x_13.toInt = 4 * p0.toInt) ∧ ∃ x_15 : Int32, (x_15 = x_13 + ((A 30) n_5)) ∧ (x_15.toInt = x_13.toInt + ((A 30) n_5).toInt) ∧ ∃ n_18 : Nat, ((n_18 : Int) = x_15.toInt) ∧ ∃ g_17 : Nat → Int32, (g_17 = upd (A 32) n_18 p1) ∧ ∃ g_19 : Nat → Int32, (g_19 = upd (A 33) n_18 p2) ∧ ∃ g_21 : Nat → Int32, (g_21 = upd (A 34) n_18 ((A 31) n_5)) ∧ ∃ g_22 : Nat → Int32, (g_22 = upd (A 35) n_18 0) ∧ ∃ x_24 : Int32, (x_24 = ((A 30) n_5) + 1) ∧ (x_24.toInt = ((A 30) n_5).toInt + 1) ∧ ∃ g_25 : Nat → Int32, (g_25 = upd (A 30) n_5 x_24) ∧ ∃ x_27 : Int32, (x_27 = ((A 31) n_5) + 1) ∧ ∃ g_28 : Nat → Int32, (g_28 = upd (A 31) n_5 x_27) ∧ ∃ x_30 : Int32, (x_30 = x_27 - 1) ∧ Z = (uA (uA (uA (uA (uA (uA A 30 g_25) 31 g_28) 32 g_17) 33 g_19) 34 g_21) 35 g_22) ∧ cdz = 0 ∧ pkz = pk ∧ r = x_30)
  ∨ (∃ r_1 : Int32, (D_X10_cellsGood A (0 : Int32) pk p0 p1 p2 r_1) ∧ (r_1 = 0 ∨ r_1 = 1) ∧ (¬ r_1.toInt = 0) ∧ ∃ n_5 : Nat, ((n_5 : Int) = p0.toInt) ∧ (¬ ((A 10) n_5).toInt = 2) ∧ (((A 30) n_5).toInt = 4) ∧ ∃ ur_33 : Int32, ∃ r_33 : Int32, (D_X10_fail A (0 : Int32) pk (2 : Int32) A ur_33 pk r_33) ∧ (ur_33 = (2 : Int32)) ∧ Z = (uA (uA (uA (uA (uA (uA A 30 (A 30)) 31 (A 31)) 32 (A 32)) 33 (A 33)) 34 (A 34)) 35 (A 35)) ∧ cdz = ur_33 ∧ pkz = pk ∧ r = r_33)
  ∨ (∃ r_1 : Int32, (D_X10_cellsGood A (0 : Int32) pk p0 p1 p2 r_1) ∧ (r_1 = 0 ∨ r_1 = 1) ∧ (r_1.toInt = 0) ∧ ∃ ur_34 : Int32, ∃ r_34 : Int32, (D_X10_fail A (0 : Int32) pk (1 : Int32) A ur_34 pk r_34) ∧ (ur_34 = (1 : Int32)) ∧ Z = (uA (uA (uA (uA (uA (uA A 30 (A 30)) 31 (A 31)) 32 (A 32)) 33 (A 33)) 34 (A 34)) 35 (A 35)) ∧ cdz = ur_34 ∧ pkz = pk ∧ r = r_34)
def D_X10_ready (A : AA) (cd pk : Int32) (p0 : Int32) (p1 : Int32) (p2 : Int32) (Z : AA) (cdz pkz : Int32) : Prop :=
  ((¬ (0 ≤ p0.toInt ∧ p0.toInt ≤ (3 : Int32).toInt)) ∧ Z = (uA (uA (uA (uA (uA A 10 (A 10)) 11 (A 11)) 12 (A 12)) 13 (A 13)) 14 (A 14)) ∧ cdz = 1 ∧ pkz = pk)
  ∨ ((0 ≤ p0.toInt ∧ p0.toInt ≤ (3 : Int32).toInt) ∧ (¬ (0 ≤ p1.toInt ∧ p1.toInt ≤ (63 : Int32).toInt)) ∧ Z = (uA (uA (uA (uA (uA A 10 (A 10)) 11 (A 11)) 12 (A 12)) 13 (A 13)) 14 (A 14)) ∧ cdz = 1 ∧ pkz = pk)
  ∨ ((0 ≤ p0.toInt ∧ p0.toInt ≤ (3 : Int32).toInt) ∧ (0 ≤ p1.toInt ∧ p1.toInt ≤ (63 : Int32).toInt) ∧ (0 ≤ p2.toInt ∧ p2.toInt ≤ (63 : Int32).toInt) ∧ ∃ n_8 : Nat, ((n_8 : Int) = p0.toInt) ∧ (((A 10) n_8).toInt = 0) ∧ ∃ g_11 : Nat → Int32, (g_11 = upd (A 10) n_8 1) ∧ ∃ g_12 : Nat → Int32, (g_12 = upd (A 11) n_8 p1) ∧ ∃ g_13 : Nat → Int32, (g_13 = upd (A 12) n_8 p1) ∧ ∃ g_14 : Nat → Int32, (g_14 = upd (A 13) n_8 p1) ∧ ∃ g_15 : Nat → Int32, (g_15 = upd (A 14) n_8 p2) ∧ Z = (uA (uA (uA (uA (uA A 10 g_11) 11 g_12) 12 g_13) 13 g_14) 14 g_15) ∧ cdz = 0 ∧ pkz = pk)
  ∨ ((0 ≤ p0.toInt ∧ p0.toInt ≤ (3 : Int32).toInt) ∧ (0 ≤ p1.toInt ∧ p1.toInt ≤ (63 : Int32).toInt) ∧ (0 ≤ p2.toInt ∧ p2.toInt ≤ (63 : Int32).toInt) ∧ ∃ n_8 : Nat, ((n_8 : Int) = p0.toInt) ∧ (¬ ((A 10) n_8).toInt = 0) ∧ Z = (uA (uA (uA (uA (uA A 10 (A 10)) 11 (A 11)) 12 (A 12)) 13 (A 13)) 14 (A 14)) ∧ cdz = 2 ∧ pkz = pk)
  ∨ ((0 ≤ p0.toInt ∧ p0.toInt ≤ (3 : Int32).toInt) ∧ (0 ≤ p1.toInt ∧ p1.toInt ≤ (63 : Int32).toInt) ∧ (¬ (0 ≤ p2.toInt ∧ p2.toInt ≤ (63 : Int32).toInt)) ∧ Z = (uA (uA (uA (uA (uA A 10 (A 10)) 11 (A 11)) 12 (A 12)) 13 (A 13)) 14 (A 14)) ∧ cdz = 1 ∧ pkz = pk)
def D_X10_reset (A : AA) (cd pk : Int32) (p0 : Int32) (Z : AA) (cdz pkz : Int32) (r : Int32) : Prop :=
  ((0 ≤ p0.toInt ∧ p0.toInt ≤ (3 : Int32).toInt) ∧ ∃ n_4 : Nat, ((n_4 : Int) = p0.toInt) ∧ ∃ g_3 : Nat → Int32, (g_3 = upd (A 10) n_4 0) ∧ ∃ g_5 : Nat → Int32, (g_5 = upd (A 20) n_4 0) ∧ ∃ g_6 : Nat → Int32, (g_6 = upd (A 21) n_4 0) ∧ ∃ g_7 : Nat → Int32, (g_7 = upd (A 30) n_4 0) ∧ ∃ g_8 : Nat → Int32, (g_8 = upd (A 31) n_4 0) ∧ ∃ g_9 : Nat → Int32, (g_9 = upd (A 36) n_4 0) ∧ ∃ g_10 : Nat → Int32, (g_10 = upd (A 19) n_4 0) ∧ ∃ g_11 : Nat → Int32, (g_11 = upd (A 18) n_4 0) ∧ ∃ g_12 : Nat → Int32, (g_12 = upd (A 15) n_4 0) ∧ ∃ g_13 : Nat → Int32, (g_13 = upd (A 16) n_4 0) ∧ ∃ g_14 : Nat → Int32, (g_14 = upd (A 17) n_4 0) ∧ ∃ g_15 : Nat → Int32, (g_15 = upd (A 37) n_4 0) ∧ Z = (uA (uA (uA (uA (uA (uA (uA (uA (uA (uA (uA (uA A 10 g_3) 15 g_12) 16 g_13) 17 g_14) 18 g_11) 19 g_10) 20 g_5) 21 g_6) 30 g_7) 31 g_8) 36 g_9) 37 g_15) ∧ cdz = 0 ∧ pkz = pk ∧ r = 1)
  ∨ ((¬ (0 ≤ p0.toInt ∧ p0.toInt ≤ (3 : Int32).toInt)) ∧ Z = (uA (uA (uA (uA (uA (uA (uA (uA (uA (uA (uA (uA A 10 (A 10)) 15 (A 15)) 16 (A 16)) 17 (A 17)) 18 (A 18)) 19 (A 19)) 20 (A 20)) 21 (A 21)) 30 (A 30)) 31 (A 31)) 36 (A 36)) 37 (A 37)) ∧ cdz = 0 ∧ pkz = pk ∧ r = 0)
def D_X10_packets (A : AA) (cd pk : Int32) (Z : AA) (cdz pkz : Int32) (r : Int32) : Prop :=
  (Z = A ∧ cdz = 0 ∧ pkz = pk ∧ r = pk)
def D_X10_packet (A : AA) (cd pk : Int32) (p0 : Int32) (p1 : Int32) (Z : AA) (cdz pkz : Int32) (r : Int32) : Prop :=
  ((p0.toInt < 0) ∧ Z = A ∧ cdz = 0 ∧ pkz = pk ∧ r = (-1))
  ∨ ((¬ p0.toInt < 0) ∧ (p0.toInt < pk.toInt) ∧ (p1.toInt = 0) ∧ ∃ n_6 : Nat, ((n_6 : Int) = p0.toInt) ∧ Z = A ∧ cdz = 0 ∧ pkz = pk ∧ r = ((A 41) n_6))
  ∨ ((¬ p0.toInt < 0) ∧ (p0.toInt < pk.toInt) ∧ (p1.toInt = 1) ∧ ∃ n_9 : Nat, ((n_9 : Int) = p0.toInt) ∧ Z = A ∧ cdz = 0 ∧ pkz = pk ∧ r = ((A 42) n_9))
  ∨ ((¬ p0.toInt < 0) ∧ (p0.toInt < pk.toInt) ∧ (p1.toInt = 2) ∧ ∃ n_12 : Nat, ((n_12 : Int) = p0.toInt) ∧ Z = A ∧ cdz = 0 ∧ pkz = pk ∧ r = ((A 43) n_12))
  ∨ ((¬ p0.toInt < 0) ∧ (p0.toInt < pk.toInt) ∧ (p1.toInt = 3) ∧ ∃ n_15 : Nat, ((n_15 : Int) = p0.toInt) ∧ Z = A ∧ cdz = 0 ∧ pkz = pk ∧ r = ((A 44) n_15))
  ∨ ((¬ p0.toInt < 0) ∧ (p0.toInt < pk.toInt) ∧ (p1.toInt = 4) ∧ ∃ n_18 : Nat, ((n_18 : Int) = p0.toInt) ∧ Z = A ∧ cdz = 0 ∧ pkz = pk ∧ r = ((A 45) n_18))
  ∨ ((¬ p0.toInt < 0) ∧ (p0.toInt < pk.toInt) ∧ (p1.toInt = 5) ∧ ∃ n_21 : Nat, ((n_21 : Int) = p0.toInt) ∧ Z = A ∧ cdz = 0 ∧ pkz = pk ∧ r = ((A 46) n_21))
  ∨ ((¬ p0.toInt < 0) ∧ (p0.toInt < pk.toInt) ∧ (p1.toInt < 0 ∨ 5 < p1.toInt) ∧ Z = A ∧ cdz = 0 ∧ pkz = pk ∧ r = (-1))
  ∨ ((¬ p0.toInt < 0) ∧ (¬ p0.toInt < pk.toInt) ∧ Z = A ∧ cdz = 0 ∧ pkz = pk ∧ r = (-1))
def D_X10_pair (A : AA) (cd pk : Int32) (p0 : Int32) (p1 : Int32) (Z : AA) (cdz pkz : Int32) (r : Int32) : Prop :=
  ((0 ≤ p0.toInt ∧ p0.toInt ≤ (3 : Int32).toInt) ∧ ∃ n_4 : Nat, ((n_4 : Int) = p0.toInt) ∧ (¬ ((A 10) n_4).toInt = 1) ∧ (p1.toInt = 0) ∧ Z = A ∧ cdz = 0 ∧ pkz = pk ∧ r = ((A 10) n_4))
  ∨ ((0 ≤ p0.toInt ∧ p0.toInt ≤ (3 : Int32).toInt) ∧ ∃ n_4 : Nat, ((n_4 : Int) = p0.toInt) ∧ (¬ ((A 10) n_4).toInt = 1) ∧ (p1.toInt = 1) ∧ Z = A ∧ cdz = 0 ∧ pkz = pk ∧ r = (-1))
  ∨ ((0 ≤ p0.toInt ∧ p0.toInt ≤ (3 : Int32).toInt) ∧ ∃ n_4 : Nat, ((n_4 : Int) = p0.toInt) ∧ (¬ ((A 10) n_4).toInt = 1) ∧ (p1.toInt = 2) ∧ Z = A ∧ cdz = 0 ∧ pkz = pk ∧ r = (-1))
  ∨ ((0 ≤ p0.toInt ∧ p0.toInt ≤ (3 : Int32).toInt) ∧ ∃ n_4 : Nat, ((n_4 : Int) = p0.toInt) ∧ (¬ ((A 10) n_4).toInt = 1) ∧ (p1.toInt = 3) ∧ Z = A ∧ cdz = 0 ∧ pkz = pk ∧ r = (-1))
  ∨ ((0 ≤ p0.toInt ∧ p0.toInt ≤ (3 : Int32).toInt) ∧ ∃ n_4 : Nat, ((n_4 : Int) = p0.toInt) ∧ (¬ ((A 10) n_4).toInt = 1) ∧ (p1.toInt = 4) ∧ Z = A ∧ cdz = 0 ∧ pkz = pk ∧ r = (-1))
  ∨ ((0 ≤ p0.toInt ∧ p0.toInt ≤ (3 : Int32).toInt) ∧ ∃ n_4 : Nat, ((n_4 : Int) = p0.toInt) ∧ (¬ ((A 10) n_4).toInt = 1) ∧ (p1.toInt = 5) ∧ Z = A ∧ cdz = 0 ∧ pkz = pk ∧ r = ((A 20) n_4))
  ∨ ((0 ≤ p0.toInt ∧ p0.toInt ≤ (3 : Int32).toInt) ∧ ∃ n_4 : Nat, ((n_4 : Int) = p0.toInt) ∧ (¬ ((A 10) n_4).toInt = 1) ∧ (p1.toInt = 6) ∧ Z = A ∧ cdz = 0 ∧ pkz = pk ∧ r = ((A 30) n_4))
  ∨ ((0 ≤ p0.toInt ∧ p0.toInt ≤ (3 : Int32).toInt) ∧ ∃ n_4 : Nat, ((n_4 : Int) = p0.toInt) ∧ (¬ ((A 10) n_4).toInt = 1) ∧ (p1.toInt = 7) ∧ (((A 18) n_4).toInt = 0) ∧ Z = A ∧ cdz = 0 ∧ pkz = pk ∧ r = 0)
  ∨ ((0 ≤ p0.toInt ∧ p0.toInt ≤ (3 : Int32).toInt) ∧ ∃ n_4 : Nat, ((n_4 : Int) = p0.toInt) ∧ (¬ ((A 10) n_4).toInt = 1) ∧ (p1.toInt = 7) ∧ (¬ ((A 18) n_4).toInt = 0) ∧ Z = A ∧ cdz = 0 ∧ pkz = pk ∧ r = 1)
  ∨ ((0 ≤ p0.toInt ∧ p0.toInt ≤ (3 : Int32).toInt) ∧ ∃ n_4 : Nat, ((n_4 : Int) = p0.toInt) ∧ (¬ ((A 10) n_4).toInt = 1) ∧ (p1.toInt < 0 ∨ 7 < p1.toInt) ∧ Z = A ∧ cdz = 0 ∧ pkz = pk ∧ r = (-1))
  ∨ ((0 ≤ p0.toInt ∧ p0.toInt ≤ (3 : Int32).toInt) ∧ ∃ n_4 : Nat, ((n_4 : Int) = p0.toInt) ∧ (((A 10) n_4).toInt = 1) ∧ (p1.toInt = 0) ∧ Z = A ∧ cdz = 0 ∧ pkz = pk ∧ r = ((A 10) n_4))
  ∨ ((0 ≤ p0.toInt ∧ p0.toInt ≤ (3 : Int32).toInt) ∧ ∃ n_4 : Nat, ((n_4 : Int) = p0.toInt) ∧ (((A 10) n_4).toInt = 1) ∧ (p1.toInt = 1) ∧ Z = A ∧ cdz = 0 ∧ pkz = pk ∧ r = ((A 11) n_4))
  ∨ ((0 ≤ p0.toInt ∧ p0.toInt ≤ (3 : Int32).toInt) ∧ ∃ n_4 : Nat, ((n_4 : Int) = p0.toInt) ∧ (((A 10) n_4).toInt = 1) ∧ (p1.toInt = 2) ∧ Z = A ∧ cdz = 0 ∧ pkz = pk ∧ r = ((A 12) n_4))
  ∨ ((0 ≤ p0.toInt ∧ p0.toInt ≤ (3 : Int32).toInt) ∧ ∃ n_4 : Nat, ((n_4 : Int) = p0.toInt) ∧ (((A 10) n_4).toInt = 1) ∧ (p1.toInt = 3) ∧ Z = A ∧ cdz = 0 ∧ pkz = pk ∧ r = ((A 13) n_4))
  ∨ ((0 ≤ p0.toInt ∧ p0.toInt ≤ (3 : Int32).toInt) ∧ ∃ n_4 : Nat, ((n_4 : Int) = p0.toInt) ∧ (((A 10) n_4).toInt = 1) ∧ (p1.toInt = 4) ∧ Z = A ∧ cdz = 0 ∧ pkz = pk ∧ r = ((A 14) n_4))
  ∨ ((0 ≤ p0.toInt ∧ p0.toInt ≤ (3 : Int32).toInt) ∧ ∃ n_4 : Nat, ((n_4 : Int) = p0.toInt) ∧ (((A 10) n_4).toInt = 1) ∧ (p1.toInt = 5) ∧ Z = A ∧ cdz = 0 ∧ pkz = pk ∧ r = ((A 20) n_4))
  ∨ ((0 ≤ p0.toInt ∧ p0.toInt ≤ (3 : Int32).toInt) ∧ ∃ n_4 : Nat, ((n_4 : Int) = p0.toInt) ∧ (((A 10) n_4).toInt = 1) ∧ (p1.toInt = 6) ∧ Z = A ∧ cdz = 0 ∧ pkz = pk ∧ r = ((A 30) n_4))
  ∨ ((0 ≤ p0.toInt ∧ p0.toInt ≤ (3 : Int32).toInt) ∧ ∃ n_4 : Nat, ((n_4 : Int) = p0.toInt) ∧ (((A 10) n_4).toInt = 1) ∧ (p1.toInt = 7) ∧ (((A 18) n_4).toInt = 0) ∧ Z = A ∧ cdz = 0 ∧ pkz = pk ∧ r = 0)
  ∨ ((0 ≤ p0.toInt ∧ p0.toInt ≤ (3 : Int32).toInt) ∧ ∃ n_4 : Nat, ((n_4 : Int) = p0.toInt) ∧ (((A 10) n_4).toInt = 1) ∧ (p1.toInt = 7) ∧ (¬ ((A 18) n_4).toInt = 0) ∧ Z = A ∧ cdz = 0 ∧ pkz = pk ∧ r = 1)
  ∨ ((0 ≤ p0.toInt ∧ p0.toInt ≤ (3 : Int32).toInt) ∧ ∃ n_4 : Nat, ((n_4 : Int) = p0.toInt) ∧ (((A 10) n_4).toInt = 1) ∧ (p1.toInt < 0 ∨ 7 < p1.toInt) ∧ Z = A ∧ cdz = 0 ∧ pkz = pk ∧ r = (-1))
  ∨ ((¬ (0 ≤ p0.toInt ∧ p0.toInt ≤ (3 : Int32).toInt)) ∧ Z = A ∧ cdz = 0 ∧ pkz = pk ∧ r = (-1))
def D_X10_completions (A : AA) (cd pk : Int32) (p0 : Int32) (Z : AA) (cdz pkz : Int32) (r : Int32) : Prop :=
  ((¬ (0 ≤ p0.toInt ∧ p0.toInt ≤ (1 : Int32).toInt)) ∧ Z = A ∧ cdz = 0 ∧ pkz = pk ∧ r = (-1))
  ∨ ((0 ≤ p0.toInt ∧ p0.toInt ≤ (1 : Int32).toInt) ∧ ∃ n_4 : Nat, ((n_4 : Int) = p0.toInt) ∧ Z = A ∧ cdz = 0 ∧ pkz = pk ∧ r = ((A 8) n_4))
def D_X10_dropEnd (A : AA) (cd pk : Int32) (p0 : Int32) (Z : AA) (cdz pkz : Int32) (r : Int32) : Prop :=
  (∃ n_1 : Nat, ((n_1 : Int) = p0.toInt) ∧ ∃ x_7 : Int32, (x_7 = ((A 8) n_1) - 1) ∧ (x_7.toInt = ((A 8) n_1).toInt - 1) ∧ ∃ g_8 : Nat → Int32, (g_8 = upd (A 8) n_1 x_7) ∧ ∃ x_9 : Int32, (x_9 = 80 * p0) ∧ (x_9.toInt = 80 * p0.toInt) ∧ ∃ ix_10 : Int32, ∃ u_10 : (Nat → Int32), (80 * p0.toInt ≤ ix_10.toInt ∧ ix_10.toInt ≤ 80 * p0.toInt + 5 * x_7.toInt) ∧ (∃ b : Nat, (b : Int) = ix_10.toInt ∧ Sh5 (A 9) u_10 (80 * n_1) b) ∧ ∃ x_13 : Int32, (x_13 = 5 * x_7) ∧ (x_13.toInt = 5 * x_7.toInt) ∧ ∃ x_14 : Int32, (x_14 = x_9 + x_13) ∧ (x_14.toInt = x_9.toInt + x_13.toInt) ∧ (x_14.toInt ≤ ix_10.toInt) ∧ Z = (uA (uA A 8 g_8) 9 u_10) ∧ cdz = cd ∧ pkz = pk ∧ r = 0)
def D_X10_poll (A : AA) (cd pk : Int32) (p0 : Int32) (p1 : Int32) (Z : AA) (cdz pkz : Int32) (r : Int32) : Prop :=
  ((¬ (0 ≤ p0.toInt ∧ p0.toInt ≤ (1 : Int32).toInt)) ∧ ∃ ur_2 : Int32, ∃ r_2 : Int32, (D_X10_fail A (0 : Int32) pk (1 : Int32) A ur_2 pk r_2) ∧ (ur_2 = (1 : Int32)) ∧ Z = (uA (uA A 8 (A 8)) 9 (A 9)) ∧ cdz = ur_2 ∧ pkz = pk ∧ r = r_2)
  ∨ ((0 ≤ p0.toInt ∧ p0.toInt ≤ (1 : Int32).toInt) ∧ (p1.toInt < -1) ∧ ∃ ur_4 : Int32, ∃ r_4 : Int32, (D_X10_fail A (0 : Int32) pk (1 : Int32) A ur_4 pk r_4) ∧ (ur_4 = (1 : Int32)) ∧ Z = (uA (uA A 8 (A 8)) 9 (A 9)) ∧ cdz = ur_4 ∧ pkz = pk ∧ r = r_4)
  ∨ ((0 ≤ p0.toInt ∧ p0.toInt ≤ (1 : Int32).toInt) ∧ (¬ p1.toInt < -1) ∧ (p1.toInt ≤ 4) ∧ ∃ n_8 : Nat, ((n_8 : Int) = p0.toInt) ∧ (¬ ((A 8) n_8).toInt = 0) ∧ (0 ≤ p1.toInt) ∧ ∃ x_14 : Int32, (x_14 = 80 * p0) ∧ (x_14.toInt = 80 * p0.toInt) ∧ ∃ x_15 : Int32, (x_15 = x_14 + p1) ∧ (x_15.toInt = x_14.toInt + p1.toInt) ∧ ∃ n_18 : Nat, ((n_18 : Int) = x_15.toInt) ∧ Z = (uA (uA A 8 (A 8)) 9 (A 9)) ∧ cdz = 0 ∧ pkz = pk ∧ r = ((A 9) n_18))
  ∨ ((0 ≤ p0.toInt ∧ p0.toInt ≤ (1 : Int32).toInt) ∧ (¬ p1.toInt < -1) ∧ (p1.toInt ≤ 4) ∧ ∃ n_8 : Nat, ((n_8 : Int) = p0.toInt) ∧ (¬ ((A 8) n_8).toInt = 0) ∧ (¬ 0 ≤ p1.toInt) ∧ ∃ ur_19 : (Nat → Int32) × (Nat → Int32), ∃ r_19 : Int32, (D_X10_dropEnd A (0 : Int32) pk p0 (uA (uA A 8 (ur_19.1)) 9 (ur_19.2)) (0 : Int32) pk r_19) ∧ (I3 (ur_19.1)) ∧ Z = (uA (uA A 8 (ur_19.1)) 9 (ur_19.2)) ∧ cdz = 0 ∧ pkz = pk ∧ r = r_19)
  ∨ ((0 ≤ p0.toInt ∧ p0.toInt ≤ (1 : Int32).toInt) ∧ (¬ p1.toInt < -1) ∧ (p1.toInt ≤ 4) ∧ ∃ n_8 : Nat, ((n_8 : Int) = p0.toInt) ∧ (((A 8) n_8).toInt = 0) ∧ ∃ ur_20 : Int32, ∃ r_20 : Int32, (D_X10_fail A (0 : Int32) pk (2 : Int32) A ur_20 pk r_20) ∧ (ur_20 = (2 : Int32)) ∧ Z = (uA (uA A 8 (A 8)) 9 (A 9)) ∧ cdz = ur_20 ∧ pkz = pk ∧ r = r_20)
  ∨ ((0 ≤ p0.toInt ∧ p0.toInt ≤ (1 : Int32).toInt) ∧ (¬ p1.toInt < -1) ∧ (¬ p1.toInt ≤ 4) ∧ ∃ ur_21 : Int32, ∃ r_21 : Int32, (D_X10_fail A (0 : Int32) pk (1 : Int32) A ur_21 pk r_21) ∧ (ur_21 = (1 : Int32)) ∧ Z = (uA (uA A 8 (A 8)) 9 (A 9)) ∧ cdz = ur_21 ∧ pkz = pk ∧ r = r_21)
def FPQ (A : AA) (cd pk q st : Int32) (n : Nat) : Nat → AA → Prop
  | 0, Z => Z = A
  | i + 1, Z => ∃ Y : AA, FPQ A cd pk q st n i Y ∧ ∃ v : Int32, (v = if i = 0 ∧ 0 < st.toInt then st else 5) ∧ D_X10_complete Y cd pk q (A 22 (4 * n + i)) (A 28 (4 * n + i)) v (A 24 (4 * n + i)) Z cd pk
def FPV (A : AA) (cd pk q st : Int32) (n : Nat) : Nat → AA → Prop
  | 0, Z => Z = A
  | i + 1, Z => ∃ Y : AA, FPV A cd pk q st n i Y ∧ ∃ v : Int32, (v = if i = 0 ∧ (A 36 n).toInt ≠ 0 ∧ 0 < st.toInt then st else 5) ∧ D_X10_complete Y cd pk q 4 (A 34 (4 * n + i)) v (A 35 (4 * n + i)) Z cd pk
def D_X10_failPair (A : AA) (cd pk : Int32) (p0 : Int32) (p1 : Int32) (p2 : Int32) (Z : AA) (cdz pkz : Int32) : Prop :=
  (∃ n_1 : Nat, ((n_1 : Int) = p0.toInt) ∧ ∃ g_3 : Nat → Int32, (g_3 = upd (A 10) n_1 2) ∧ ∃ ix_4 : Int32, ∃ u_4 : (Nat → Int32) × (Nat → Int32), (0 ≤ ix_4.toInt ∧ ix_4.toInt ≤ ((A 20) n_1).toInt ∧ ix_4.toInt ≤ 4) ∧ (I3 (u_4.1)) ∧ (∃ b : Nat, (b : Int) = ix_4.toInt ∧ FPQ (uA A 10 g_3) cd pk p0 p1 n_1 b (uA (uA (uA A 10 g_3) 8 (u_4.1)) 9 (u_4.2))) ∧ (((A 20) n_1).toInt ≤ ix_4.toInt) ∧ ∃ ix_11 : Int32, ∃ u_11 : (Nat → Int32) × (Nat → Int32), (0 ≤ ix_11.toInt ∧ ix_11.toInt ≤ ((A 30) n_1).toInt ∧ ix_11.toInt ≤ 4) ∧ (I3 (u_11.1)) ∧ (∃ b : Nat, (b : Int) = ix_11.toInt ∧ FPV (uA (uA (uA A 10 g_3) 8 (u_4.1)) 9 (u_4.2)) cd pk p0 p2 n_1 b (uA (uA (uA (uA (uA A 10 g_3) 8 (u_4.1)) 9 (u_4.2)) 8 (u_11.1)) 9 (u_11.2))) ∧ (((A 30) n_1).toInt ≤ ix_11.toInt) ∧ ∃ g_17 : Nat → Int32, (g_17 = upd (A 20) n_1 0) ∧ ∃ g_18 : Nat → Int32, (g_18 = upd (A 30) n_1 0) ∧ ∃ g_19 : Nat → Int32, (g_19 = upd (A 36) n_1 0) ∧ ∃ g_20 : Nat → Int32, (g_20 = upd (A 18) n_1 0) ∧ Z = (uA (uA (uA (uA (uA (uA (uA A 8 (u_11.1)) 9 (u_11.2)) 10 g_3) 18 g_20) 20 g_17) 30 g_18) 36 g_19) ∧ cdz = cd ∧ pkz = pk)
def D_X10_dropRequest (A : AA) (cd pk : Int32) (p0 : Int32) (Z : AA) (cdz pkz : Int32) : Prop :=
  (∃ n_1 : Nat, ((n_1 : Int) = p0.toInt) ∧ ∃ x_7 : Int32, (x_7 = ((A 20) n_1) - 1) ∧ (x_7.toInt = ((A 20) n_1).toInt - 1) ∧ ∃ g_8 : Nat → Int32, (g_8 = upd (A 20) n_1 x_7) ∧ ∃ x_9 : Int32, (x_9 = 4 * p0) ∧ (x_9.toInt = 4 * p0.toInt) ∧ ∃ ix_10 : Int32, ∃ u_10 : (Nat → Int32) × (Nat → Int32) × (Nat → Int32) × (Nat → Int32) × (Nat → Int32) × (Nat → Int32) × (Nat → Int32) × (Nat → Int32), (4 * p0.toInt ≤ ix_10.toInt ∧ ix_10.toInt ≤ 4 * p0.toInt + x_7.toInt) ∧ (I6 (u_10.1) (u_10.2.1) (u_10.2.2.1) (u_10.2.2.2.1) (u_10.2.2.2.2.1)) ∧ (∃ b : Nat, (b : Int) = ix_10.toInt ∧ Sh (A 29) (u_10.2.2.2.2.2.2.2) (4 * n_1) b ∧ Sh (A 24) (u_10.2.2.1) (4 * n_1) b ∧ Sh (A 22) (u_10.1) (4 * n_1) b ∧ Sh (A 23) (u_10.2.1) (4 * n_1) b ∧ Sh (A 25) (u_10.2.2.2.1) (4 * n_1) b ∧ Sh (A 26) (u_10.2.2.2.2.1) (4 * n_1) b ∧ Sh (A 27) (u_10.2.2.2.2.2.1) (4 * n_1) b ∧ Sh (A 28) (u_10.2.2.2.2.2.2.1) (4 * n_1) b) ∧ ∃ x_13 : Int32, (x_13 = x_9 + x_7) ∧ (x_13.toInt = x_9.toInt + x_7.toInt) ∧ (x_13.toInt ≤ ix_10.toInt) ∧ Z = (uA (uA (uA (uA (uA (uA (uA (uA (uA A 20 g_8) 22 (u_10.1)) 23 (u_10.2.1)) 24 (u_10.2.2.1)) 25 (u_10.2.2.2.1)) 26 (u_10.2.2.2.2.1)) 27 (u_10.2.2.2.2.2.1)) 28 (u_10.2.2.2.2.2.2.1)) 29 (u_10.2.2.2.2.2.2.2)) ∧ cdz = cd ∧ pkz = pk)
def D_X10_dropReceive (A : AA) (cd pk : Int32) (p0 : Int32) (Z : AA) (cdz pkz : Int32) : Prop :=
  (∃ n_1 : Nat, ((n_1 : Int) = p0.toInt) ∧ ∃ x_7 : Int32, (x_7 = ((A 30) n_1) - 1) ∧ (x_7.toInt = ((A 30) n_1).toInt - 1) ∧ ∃ g_8 : Nat → Int32, (g_8 = upd (A 30) n_1 x_7) ∧ ∃ x_9 : Int32, (x_9 = 4 * p0) ∧ (x_9.toInt = 4 * p0.toInt) ∧ ∃ ix_10 : Int32, ∃ u_10 : (Nat → Int32) × (Nat → Int32) × (Nat → Int32) × (Nat → Int32), (4 * p0.toInt ≤ ix_10.toInt ∧ ix_10.toInt ≤ 4 * p0.toInt + x_7.toInt) ∧ (I5 (u_10.1) (u_10.2.1) (u_10.2.2.2)) ∧ (∃ b : Nat, (b : Int) = ix_10.toInt ∧ Sh (A 32) (u_10.1) (4 * n_1) b ∧ Sh (A 33) (u_10.2.1) (4 * n_1) b ∧ Sh (A 34) (u_10.2.2.1) (4 * n_1) b ∧ Sh (A 35) (u_10.2.2.2) (4 * n_1) b) ∧ ∃ x_13 : Int32, (x_13 = x_9 + x_7) ∧ (x_13.toInt = x_9.toInt + x_7.toInt) ∧ (x_13.toInt ≤ ix_10.toInt) ∧ Z = (uA (uA (uA (uA (uA A 30 g_8) 32 (u_10.1)) 33 (u_10.2.1)) 34 (u_10.2.2.1)) 35 (u_10.2.2.2)) ∧ cdz = cd ∧ pkz = pk)
abbrev D_X10_answerOne_s1 (A : AA) (cd : Int32) (pk : Int32) (Z : AA) (cdz : Int32) (pkz : Int32) (n_1 : Nat) (g_16 : Nat → Int32) (g_17 : Nat → Int32) : Prop := ∃ g_18 : Nat → Int32, (g_18 = upd (A 16) n_1 0) ∧ ∃ g_19 : Nat → Int32, (g_19 = upd (A 17) n_1 0) ∧ ∃ g_20 : Nat → Int32, (g_20 = upd (A 18) n_1 0) ∧ (Z = (uA (uA (uA (uA (uA (uA (uA (uA (uA (uA (uA (uA (uA (uA (uA (uA A 8 (A 8)) 9 (A 9)) 12 g_16) 15 g_17) 16 g_18) 17 g_19) 18 g_20) 20 (A 20)) 22 (A 22)) 23 (A 23)) 24 (A 24)) 25 (A 25)) 26 (A 26)) 27 (A 27)) 28 (A 28)) 29 (A 29))) ∧ (cdz = cd) ∧ (pkz = pk)
abbrev D_X10_answerOne_s2 (A : AA) (cd : Int32) (pk : Int32) (Z : AA) (cdz : Int32) (pkz : Int32) (n_1 : Nat) (r_4 : Int32) (x_9 : Int32) (r_10 : Int32) : Prop := (0 ≤ r_10.toInt ∧ r_10.toInt ≤ 3) ∧ (∀ n : Nat, (n : Int) = r_4.toInt → r_10.toInt = NB (A 24) n) ∧ ∃ x_11 : Int32, (x_11 = r_10 - 1) ∧ (x_11.toInt = r_10.toInt - 1) ∧ (¬ x_9.toInt = x_11.toInt) ∧ ∃ x_14 : Int32, (x_14 = ((A 12) n_1) + 1) ∧ ((x_14.toInt = ((A 12) n_1).toInt + 1) ∧ ∃ x_15 : Int32, (x_15 = x_14 - x_14 / 64 * 64) ∧ (x_15.toInt = x_14.toInt % 64) ∧ ∃ g_16 : Nat → Int32, (g_16 = upd (A 12) n_1 x_15) ∧ ∃ g_17 : Nat → Int32, (g_17 = upd (A 15) n_1 0) ∧ (D_X10_answerOne_s1 A cd pk Z cdz pkz n_1 g_16 g_17))
abbrev D_X10_answerOne_s3 (A : AA) (cd : Int32) (pk : Int32) (p0 : Int32) (Z : AA) (cdz : Int32) (pkz : Int32) (n_1 : Nat) : Prop := ∃ r_4 : Int32, (0 ≤ r_4.toInt ∧ r_4.toInt ≤ 15) ∧ (∀ n : Nat, (n : Int) = p0.toInt → RO (A 29) (A 24) n ((A 12) n_1) r_4.toInt) ∧ (((4 * n_1 : Nat) : Int) = r_4.toInt) ∧ ∃ x_9 : Int32, (x_9 = ((((A 12) n_1) - ((A 29) (4 * n_1))) + 64) - ((((A 12) n_1) - ((A 29) (4 * n_1))) + 64) / 64 * 64) ∧ ∃ r_10 : Int32, (D_X10_numbersOf A cd pk r_4 r_10) ∧ (D_X10_answerOne_s2 A cd pk Z cdz pkz n_1 r_4 x_9 r_10)
abbrev D_X10_answerOne_s4 (A : AA) (cd : Int32) (pk : Int32) (p0 : Int32) (Z : AA) (cdz : Int32) (pkz : Int32) (g_26 : Nat → Int32) (g_27 : Nat → Int32) (g_28 : Nat → Int32) (g_29 : Nat → Int32) (g_30 : Nat → Int32) (ur_41 : (Nat → Int32) × (Nat → Int32)) : Prop := (I3 (ur_41.1)) ∧ ∃ ur_42 : (Nat → Int32) × (Nat → Int32) × (Nat → Int32) × (Nat → Int32) × (Nat → Int32) × (Nat → Int32) × (Nat → Int32) × (Nat → Int32) × (Nat → Int32), (D_X10_dropRequest (uA (uA (uA (uA (uA (uA (uA A 12 g_26) 15 g_27) 16 g_28) 17 g_29) 18 g_30) 8 (ur_41.1)) 9 (ur_41.2)) cd pk p0 (uA (uA (uA (uA (uA (uA (uA (uA (uA (uA (uA (uA (uA (uA (uA (uA A 12 g_26) 15 g_27) 16 g_28) 17 g_29) 18 g_30) 8 (ur_41.1)) 9 (ur_41.2)) 20 (ur_42.1)) 22 (ur_42.2.1)) 23 (ur_42.2.2.1)) 24 (ur_42.2.2.2.1)) 25 (ur_42.2.2.2.2.1)) 26 (ur_42.2.2.2.2.2.1)) 27 (ur_42.2.2.2.2.2.2.1)) 28 (ur_42.2.2.2.2.2.2.2.1)) 29 (ur_42.2.2.2.2.2.2.2.2)) cd pk) ∧ (I6 (ur_42.2.1) (ur_42.2.2.1) (ur_42.2.2.2.1) (ur_42.2.2.2.2.1) (ur_42.2.2.2.2.2.1)) ∧ (I8 (ur_42.1) (A 30) (A 37) (A 36)) ∧ (∀ n : Nat, (n : Int) = p0.toInt → ((ur_42.1) n).toInt = ((A 20) n).toInt - 1 ∧ (∀ k, k ≠ n → (ur_42.1) k = (A 20) k) ∧ ∃ b : Nat, (b : Int) = 4 * (n : Int) + ((A 20) n).toInt - 1 ∧ Sh (A 29) (ur_42.2.2.2.2.2.2.2.2) (4 * n) b ∧ Sh (A 24) (ur_42.2.2.2.1) (4 * n) b) ∧ (Z = (uA (uA (uA (uA (uA (uA (uA (uA (uA (uA (uA (uA (uA (uA (uA (uA A 8 (ur_41.1)) 9 (ur_41.2)) 12 g_26) 15 g_27) 16 g_28) 17 g_29) 18 g_30) 20 (ur_42.1)) 22 (ur_42.2.1)) 23 (ur_42.2.2.1)) 24 (ur_42.2.2.2.1)) 25 (ur_42.2.2.2.2.1)) 26 (ur_42.2.2.2.2.2.1)) 27 (ur_42.2.2.2.2.2.2.1)) 28 (ur_42.2.2.2.2.2.2.2.1)) 29 (ur_42.2.2.2.2.2.2.2.2))) ∧ (cdz = cd) ∧ (pkz = pk)
abbrev D_X10_answerOne_s5 (A : AA) (cd : Int32) (pk : Int32) (p0 : Int32) (Z : AA) (cdz : Int32) (pkz : Int32) (n_1 : Nat) (g_26 : Nat → Int32) (g_27 : Nat → Int32) : Prop := ∃ g_28 : Nat → Int32, (g_28 = upd (A 16) n_1 0) ∧ ∃ g_29 : Nat → Int32, (g_29 = upd (A 17) n_1 0) ∧ ∃ g_30 : Nat → Int32, (g_30 = upd (A 18) n_1 0) ∧ ∃ ur_41 : (Nat → Int32) × (Nat → Int32), (D_X10_complete (uA (uA (uA (uA (uA A 12 g_26) 15 g_27) 16 g_28) 17 g_29) 18 g_30) cd pk p0 ((A 22) (4 * n_1)) ((A 28) (4 * n_1)) (0 : Int32) ((A 24) (4 * n_1)) (uA (uA (uA (uA (uA (uA (uA A 12 g_26) 15 g_27) 16 g_28) 17 g_29) 18 g_30) 8 (ur_41.1)) 9 (ur_41.2)) cd pk) ∧ (D_X10_answerOne_s4 A cd pk p0 Z cdz pkz g_26 g_27 g_28 g_29 g_30 ur_41)
abbrev D_X10_answerOne_s6 (A : AA) (cd : Int32) (pk : Int32) (p0 : Int32) (Z : AA) (cdz : Int32) (pkz : Int32) (n_1 : Nat) (r_4 : Int32) (x_9 : Int32) (r_10 : Int32) : Prop := (0 ≤ r_10.toInt ∧ r_10.toInt ≤ 3) ∧ (∀ n : Nat, (n : Int) = r_4.toInt → r_10.toInt = NB (A 24) n) ∧ ∃ x_11 : Int32, (x_11 = r_10 - 1) ∧ (x_11.toInt = r_10.toInt - 1) ∧ (x_9.toInt = x_11.toInt) ∧ ∃ x_24 : Int32, (x_24 = ((A 12) n_1) + 1) ∧ ((x_24.toInt = ((A 12) n_1).toInt + 1) ∧ ∃ x_25 : Int32, (x_25 = x_24 - x_24 / 64 * 64) ∧ (x_25.toInt = x_24.toInt % 64) ∧ ∃ g_26 : Nat → Int32, (g_26 = upd (A 12) n_1 x_25) ∧ ∃ g_27 : Nat → Int32, (g_27 = upd (A 15) n_1 0) ∧ (D_X10_answerOne_s5 A cd pk p0 Z cdz pkz n_1 g_26 g_27))
abbrev D_X10_answerOne_s7 (A : AA) (cd : Int32) (pk : Int32) (p0 : Int32) (Z : AA) (cdz : Int32) (pkz : Int32) (n_1 : Nat) : Prop := ∃ r_4 : Int32, (0 ≤ r_4.toInt ∧ r_4.toInt ≤ 15) ∧ (∀ n : Nat, (n : Int) = p0.toInt → RO (A 29) (A 24) n ((A 12) n_1) r_4.toInt) ∧ (((4 * n_1 : Nat) : Int) = r_4.toInt) ∧ ∃ x_9 : Int32, (x_9 = ((((A 12) n_1) - ((A 29) (4 * n_1))) + 64) - ((((A 12) n_1) - ((A 29) (4 * n_1))) + 64) / 64 * 64) ∧ ∃ r_10 : Int32, (D_X10_numbersOf A cd pk r_4 r_10) ∧ (D_X10_answerOne_s6 A cd pk p0 Z cdz pkz n_1 r_4 x_9 r_10)
def D_X10_answerOne (A : AA) (cd pk : Int32) (p0 : Int32) (Z : AA) (cdz pkz : Int32) : Prop := (∃ n_1 : Nat, ((n_1 : Int) = p0.toInt) ∧ (D_X10_answerOne_s3 A cd pk p0 Z cdz pkz n_1)) ∨ (∃ n_1 : Nat, ((n_1 : Int) = p0.toInt) ∧ (D_X10_answerOne_s7 A cd pk p0 Z cdz pkz n_1))
def HC (Y : AA) (cd pk q : Int32) (n : Nat) (w : Int32) : Prop := ∃ r : Int32, RO (Y 29) (Y 24) n (Y 12 n) r.toInt ∧ D_X10_hasCells Y cd pk r w
def ASR (A : AA) (cd pk q : Int32) (n : Nat) : Nat → AA → Prop
  | 0, Z => Z = A
  | k + 1, Z => ∃ Y : AA, ASR A cd pk q n k Y ∧ HC Y cd pk q n 0 ∧ D_X10_answerOne Y cd pk q Z cd pk
theorem uu_as (A : AA) (a8 : Nat → Int32) (a9 : Nat → Int32) (a12 : Nat → Int32) (a15 : Nat → Int32) (a16 : Nat → Int32) (a17 : Nat → Int32) (a18 : Nat → Int32) (a20 : Nat → Int32) (a22 : Nat → Int32) (a23 : Nat → Int32) (a24 : Nat → Int32) (a25 : Nat → Int32) (a26 : Nat → Int32) (a27 : Nat → Int32) (a28 : Nat → Int32) (a29 : Nat → Int32) (b8 : Nat → Int32) (b9 : Nat → Int32) (b12 : Nat → Int32) (b15 : Nat → Int32) (b16 : Nat → Int32) (b17 : Nat → Int32) (b18 : Nat → Int32) (b20 : Nat → Int32) (b22 : Nat → Int32) (b23 : Nat → Int32) (b24 : Nat → Int32) (b25 : Nat → Int32) (b26 : Nat → Int32) (b27 : Nat → Int32) (b28 : Nat → Int32) (b29 : Nat → Int32) : (uA (uA (uA (uA (uA (uA (uA (uA (uA (uA (uA (uA (uA (uA (uA (uA (uA (uA (uA (uA (uA (uA (uA (uA (uA (uA (uA (uA (uA (uA (uA (uA A 8 a8) 9 a9) 12 a12) 15 a15) 16 a16) 17 a17) 18 a18) 20 a20) 22 a22) 23 a23) 24 a24) 25 a25) 26 a26) 27 a27) 28 a28) 29 a29) 8 b8) 9 b9) 12 b12) 15 b15) 16 b16) 17 b17) 18 b18) 20 b20) 22 b22) 23 b23) 24 b24) 25 b25) 26 b26) 27 b27) 28 b28) 29 b29) = (uA (uA (uA (uA (uA (uA (uA (uA (uA (uA (uA (uA (uA (uA (uA (uA A 8 b8) 9 b9) 12 b12) 15 b15) 16 b16) 17 b17) 18 b18) 20 b20) 22 b22) 23 b23) 24 b24) 25 b25) 26 b26) 27 b27) 28 b28) 29 b29) := by
  funext k
  by_cases h29 : k = 29
  · subst h29; rfl
  by_cases h28 : k = 28
  · subst h28; rfl
  by_cases h27 : k = 27
  · subst h27; rfl
  by_cases h26 : k = 26
  · subst h26; rfl
  by_cases h25 : k = 25
  · subst h25; rfl
  by_cases h24 : k = 24
  · subst h24; rfl
  by_cases h23 : k = 23
  · subst h23; rfl
  by_cases h22 : k = 22
  · subst h22; rfl
  by_cases h20 : k = 20
  · subst h20; rfl
  by_cases h18 : k = 18
  · subst h18; rfl
  by_cases h17 : k = 17
  · subst h17; rfl
  by_cases h16 : k = 16
  · subst h16; rfl
  by_cases h15 : k = 15
  · subst h15; rfl
  by_cases h12 : k = 12
  · subst h12; rfl
  by_cases h9 : k = 9
  · subst h9; rfl
  by_cases h8 : k = 8
  · subst h8; rfl
  rw [uA_n h29, uA_n h28, uA_n h27, uA_n h26, uA_n h25, uA_n h24, uA_n h23, uA_n h22, uA_n h20, uA_n h18, uA_n h17, uA_n h16, uA_n h15, uA_n h12, uA_n h9, uA_n h8, uA_n h29, uA_n h28, uA_n h27, uA_n h26, uA_n h25, uA_n h24, uA_n h23, uA_n h22, uA_n h20, uA_n h18, uA_n h17, uA_n h16, uA_n h15, uA_n h12, uA_n h9, uA_n h8, uA_n h29, uA_n h28, uA_n h27, uA_n h26, uA_n h25, uA_n h24, uA_n h23, uA_n h22, uA_n h20, uA_n h18, uA_n h17, uA_n h16, uA_n h15, uA_n h12, uA_n h9, uA_n h8]
theorem uu_ids {A : AA} : (uA (uA (uA (uA (uA (uA (uA (uA (uA (uA (uA (uA (uA (uA (uA (uA A 8 (A 8)) 9 (A 9)) 12 (A 12)) 15 (A 15)) 16 (A 16)) 17 (A 17)) 18 (A 18)) 20 (A 20)) 22 (A 22)) 23 (A 23)) 24 (A 24)) 25 (A 25)) 26 (A 26)) 27 (A 27)) 28 (A 28)) 29 (A 29)) = A := by simp only [uA_ii]
def D_X10_answerSome (A : AA) (cd pk : Int32) (p0 : Int32) (p1 : Int32) (Z : AA) (cdz pkz : Int32) : Prop :=
  (∃ n_1 : Nat, ((n_1 : Int) = p0.toInt) ∧ ∃ x_5 : Int32, (x_5 = ((((A 13) n_1) - ((A 12) n_1)) + 64) - ((((A 13) n_1) - ((A 12) n_1)) + 64) / 64 * 64) ∧ (x_5.toInt = (((A 13) n_1).toInt - ((A 12) n_1).toInt + 64) % 64) ∧ (p1.toInt ≤ x_5.toInt) ∧ ∃ ix_7 : Int32, ∃ u_7 : (Nat → Int32) × (Nat → Int32) × (Nat → Int32) × (Nat → Int32) × (Nat → Int32) × (Nat → Int32) × (Nat → Int32) × (Nat → Int32) × (Nat → Int32) × (Nat → Int32) × (Nat → Int32) × (Nat → Int32) × (Nat → Int32) × (Nat → Int32) × (Nat → Int32) × (Nat → Int32), (ix_7.toInt ≤ 63) ∧ (I3 (u_7.1)) ∧ (I4 (A 10) (u_7.2.2.2.2.2.2.2.1) (u_7.2.2.2.2.2.2.2.2.2.2.2.2.2.2.2) (u_7.2.2.2.2.2.2.2.2.2.2.1) (A 11) (u_7.2.2.1) (A 13)) ∧ (I6 (u_7.2.2.2.2.2.2.2.2.1) (u_7.2.2.2.2.2.2.2.2.2.1) (u_7.2.2.2.2.2.2.2.2.2.2.1) (u_7.2.2.2.2.2.2.2.2.2.2.2.1) (u_7.2.2.2.2.2.2.2.2.2.2.2.2.1)) ∧ (I8 (u_7.2.2.2.2.2.2.2.1) (A 30) (A 37) (A 36)) ∧ ((ix_7.toInt ≤ (farI ((u_7.2.2.1) n_1) ((A 13) n_1)).toInt ∧ (farI ((u_7.2.2.1) n_1) ((A 13) n_1)).toInt ≤ 63) ∧ ∃ b : Nat, ASR A cd pk p0 n_1 b (uA (uA (uA (uA (uA (uA (uA (uA (uA (uA (uA (uA (uA (uA (uA (uA A 8 (u_7.1)) 9 (u_7.2.1)) 12 (u_7.2.2.1)) 15 (u_7.2.2.2.1)) 16 (u_7.2.2.2.2.1)) 17 (u_7.2.2.2.2.2.1)) 18 (u_7.2.2.2.2.2.2.1)) 20 (u_7.2.2.2.2.2.2.2.1)) 22 (u_7.2.2.2.2.2.2.2.2.1)) 23 (u_7.2.2.2.2.2.2.2.2.2.1)) 24 (u_7.2.2.2.2.2.2.2.2.2.2.1)) 25 (u_7.2.2.2.2.2.2.2.2.2.2.2.1)) 26 (u_7.2.2.2.2.2.2.2.2.2.2.2.2.1)) 27 (u_7.2.2.2.2.2.2.2.2.2.2.2.2.2.1)) 28 (u_7.2.2.2.2.2.2.2.2.2.2.2.2.2.2.1)) 29 (u_7.2.2.2.2.2.2.2.2.2.2.2.2.2.2.2)) ∧ ((ix_7.toInt = p1.toInt - b ∧ (0 ≤ ix_7.toInt ∨ b = 0)) ∨ (ix_7.toInt = -1 ∧ (b : Int) < p1.toInt ∧ ∃ w : Int32, HC (uA (uA (uA (uA (uA (uA (uA (uA (uA (uA (uA (uA (uA (uA (uA (uA A 8 (u_7.1)) 9 (u_7.2.1)) 12 (u_7.2.2.1)) 15 (u_7.2.2.2.1)) 16 (u_7.2.2.2.2.1)) 17 (u_7.2.2.2.2.2.1)) 18 (u_7.2.2.2.2.2.2.1)) 20 (u_7.2.2.2.2.2.2.2.1)) 22 (u_7.2.2.2.2.2.2.2.2.1)) 23 (u_7.2.2.2.2.2.2.2.2.2.1)) 24 (u_7.2.2.2.2.2.2.2.2.2.2.1)) 25 (u_7.2.2.2.2.2.2.2.2.2.2.2.1)) 26 (u_7.2.2.2.2.2.2.2.2.2.2.2.2.1)) 27 (u_7.2.2.2.2.2.2.2.2.2.2.2.2.2.1)) 28 (u_7.2.2.2.2.2.2.2.2.2.2.2.2.2.2.1)) 29 (u_7.2.2.2.2.2.2.2.2.2.2.2.2.2.2.2)) cd pk p0 n_1 w ∧ w.toInt ≠ 0))) ∧ (ix_7.toInt ≤ 0) ∧ Z = (uA (uA (uA (uA (uA (uA (uA (uA (uA (uA (uA (uA (uA (uA (uA (uA A 8 (u_7.1)) 9 (u_7.2.1)) 12 (u_7.2.2.1)) 15 (u_7.2.2.2.1)) 16 (u_7.2.2.2.2.1)) 17 (u_7.2.2.2.2.2.1)) 18 (u_7.2.2.2.2.2.2.1)) 20 (u_7.2.2.2.2.2.2.2.1)) 22 (u_7.2.2.2.2.2.2.2.2.1)) 23 (u_7.2.2.2.2.2.2.2.2.2.1)) 24 (u_7.2.2.2.2.2.2.2.2.2.2.1)) 25 (u_7.2.2.2.2.2.2.2.2.2.2.2.1)) 26 (u_7.2.2.2.2.2.2.2.2.2.2.2.2.1)) 27 (u_7.2.2.2.2.2.2.2.2.2.2.2.2.2.1)) 28 (u_7.2.2.2.2.2.2.2.2.2.2.2.2.2.2.1)) 29 (u_7.2.2.2.2.2.2.2.2.2.2.2.2.2.2.2)) ∧ cdz = cd ∧ pkz = pk)
  ∨ (∃ n_1 : Nat, ((n_1 : Int) = p0.toInt) ∧ ∃ x_5 : Int32, (x_5 = ((((A 13) n_1) - ((A 12) n_1)) + 64) - ((((A 13) n_1) - ((A 12) n_1)) + 64) / 64 * 64) ∧ (x_5.toInt = (((A 13) n_1).toInt - ((A 12) n_1).toInt + 64) % 64) ∧ (¬ p1.toInt ≤ x_5.toInt) ∧ Z = (uA (uA (uA (uA (uA (uA (uA (uA (uA (uA (uA (uA (uA (uA (uA (uA A 8 (A 8)) 9 (A 9)) 12 (A 12)) 15 (A 15)) 16 (A 16)) 17 (A 17)) 18 (A 18)) 20 (A 20)) 22 (A 22)) 23 (A 23)) 24 (A 24)) 25 (A 25)) 26 (A 26)) 27 (A 27)) 28 (A 28)) 29 (A 29)) ∧ cdz = cd ∧ pkz = pk)
abbrev D_X10_push_s1 (A : AA) (Z : AA) (cdz : Int32) (pkz : Int32) (r : Int32) (n_4 : Nat) (x_24 : Int32) (u_29 : (Nat → Int32)) (ur_57 : (Nat → Int32) × (Nat → Int32) × (Nat → Int32) × (Nat → Int32) × (Nat → Int32) × (Nat → Int32) × (Nat → Int32) × Int32) : Prop := ∃ x_62 : Int32, (x_62 = x_24 - x_24 / 64 * 64) ∧ (x_62.toInt = x_24.toInt % 64) ∧ ∃ g_63 : Nat → Int32, (g_63 = upd (A 13) n_4 x_62) ∧ (Z = (uA (uA (uA (uA (uA (uA (uA (uA (uA (uA A 41 (ur_57.1)) 42 (ur_57.2.1)) 43 (ur_57.2.2.1)) 44 (ur_57.2.2.2.1)) 45 (ur_57.2.2.2.2.1)) 46 (ur_57.2.2.2.2.2.1)) 47 (ur_57.2.2.2.2.2.2.1)) 48 (A 48)) 13 g_63) 15 u_29)) ∧ (cdz = 0) ∧ (pkz = ur_57.2.2.2.2.2.2.2) ∧ (r = ((A 13) n_4))
abbrev D_X10_push_s2 (A : AA) (Z : AA) (cdz : Int32) (pkz : Int32) (r : Int32) (n_4 : Nat) (x_24 : Int32) (u_29 : (Nat → Int32)) (ur_57 : (Nat → Int32) × (Nat → Int32) × (Nat → Int32) × (Nat → Int32) × (Nat → Int32) × (Nat → Int32) × (Nat → Int32) × Int32) : Prop := ∃ x_66 : Int32, (x_66 = x_24 - x_24 / 64 * 64) ∧ (x_66.toInt = x_24.toInt % 64) ∧ ∃ g_67 : Nat → Int32, (g_67 = upd (A 13) n_4 x_66) ∧ (Z = (uA (uA (uA (uA (uA (uA (uA (uA (uA (uA A 41 (ur_57.1)) 42 (ur_57.2.1)) 43 (ur_57.2.2.1)) 44 (ur_57.2.2.2.1)) 45 (ur_57.2.2.2.2.1)) 46 (ur_57.2.2.2.2.2.1)) 47 (ur_57.2.2.2.2.2.2.1)) 48 (A 48)) 13 g_67) 15 u_29)) ∧ (cdz = 0) ∧ (pkz = ur_57.2.2.2.2.2.2.2) ∧ (r = ((A 13) n_4))
abbrev D_X10_push_s3 (A : AA) (Z : AA) (cdz : Int32) (pkz : Int32) (r : Int32) (n_4 : Nat) (x_24 : Int32) (u_29 : (Nat → Int32)) (ur_57 : (Nat → Int32) × (Nat → Int32) × (Nat → Int32) × (Nat → Int32) × (Nat → Int32) × (Nat → Int32) × (Nat → Int32) × Int32) (g_71 : Nat → Int32) : Prop := ∃ x_72 : Int32, (x_72 = x_24 - x_24 / 64 * 64) ∧ (x_72.toInt = x_24.toInt % 64) ∧ ∃ g_73 : Nat → Int32, (g_73 = upd (A 13) n_4 x_72) ∧ (Z = (uA (uA (uA (uA (uA (uA (uA (uA (uA (uA A 41 (ur_57.1)) 42 (ur_57.2.1)) 43 (ur_57.2.2.1)) 44 g_71) 45 (ur_57.2.2.2.2.1)) 46 (ur_57.2.2.2.2.2.1)) 47 (ur_57.2.2.2.2.2.2.1)) 48 (A 48)) 13 g_73) 15 u_29)) ∧ (cdz = 0) ∧ (pkz = ur_57.2.2.2.2.2.2.2) ∧ (r = ((A 13) n_4))
abbrev D_X10_push_s4 (A : AA) (Z : AA) (cdz : Int32) (pkz : Int32) (r : Int32) (n_4 : Nat) (i0 : Nat) (x_24 : Int32) (u_29 : (Nat → Int32)) (x_38 : Int32) (ur_57 : (Nat → Int32) × (Nat → Int32) × (Nat → Int32) × (Nat → Int32) × (Nat → Int32) × (Nat → Int32) × (Nat → Int32) × Int32) (r_57 : Int32) : Prop := (2 ≤ ((A 22) (4 * n_4 + i0)).toInt) ∧ (((¬ ((A 22) (4 * n_4 + i0)).toInt = 2) ∧ (D_X10_push_s1 A Z cdz pkz r n_4 x_24 u_29 ur_57)) ∨ ((((A 22) (4 * n_4 + i0)).toInt = 2) ∧ (((r_57.toInt < 0) ∧ (D_X10_push_s2 A Z cdz pkz r n_4 x_24 u_29 ur_57)) ∨ ((¬ r_57.toInt < 0) ∧ ∃ n_69 : Nat, ((n_69 : Int) = r_57.toInt) ∧ ∃ g_71 : Nat → Int32, (g_71 = upd (ur_57.2.2.2.1) n_69 x_38) ∧ (D_X10_push_s3 A Z cdz pkz r n_4 x_24 u_29 ur_57 g_71)))))
abbrev D_X10_push_s5 (A : AA) (Z : AA) (cdz : Int32) (pkz : Int32) (r : Int32) (n_4 : Nat) (x_24 : Int32) (u_29 : (Nat → Int32)) (ur_57 : (Nat → Int32) × (Nat → Int32) × (Nat → Int32) × (Nat → Int32) × (Nat → Int32) × (Nat → Int32) × (Nat → Int32) × Int32) (ur_80 : (Nat → Int32) × (Nat → Int32)) : Prop := ∃ x_83 : Int32, (x_83 = x_24 - x_24 / 64 * 64) ∧ (x_83.toInt = x_24.toInt % 64) ∧ ∃ g_84 : Nat → Int32, (g_84 = upd (A 13) n_4 x_83) ∧ (Z = (uA (uA (uA (uA (uA (uA (uA (uA (uA (uA A 41 (ur_57.1)) 42 (ur_57.2.1)) 43 (ur_57.2.2.1)) 44 (ur_80.1)) 45 (ur_57.2.2.2.2.1)) 46 (ur_57.2.2.2.2.2.1)) 47 (ur_57.2.2.2.2.2.2.1)) 48 (ur_80.2)) 13 g_84) 15 u_29)) ∧ (cdz = 0) ∧ (pkz = ur_57.2.2.2.2.2.2.2) ∧ (r = ((A 13) n_4))
abbrev D_X10_push_s6 (A : AA) (p0 : Int32) (Z : AA) (cdz : Int32) (pkz : Int32) (r : Int32) (n_4 : Nat) (x_24 : Int32) (u_29 : (Nat → Int32)) (x_38 : Int32) (ur_57 : (Nat → Int32) × (Nat → Int32) × (Nat → Int32) × (Nat → Int32) × (Nat → Int32) × (Nat → Int32) × (Nat → Int32) × Int32) (r_57 : Int32) (x_78 : Int32) : Prop := (4 ≤ x_38.toInt) ∧ ∃ ur_80 : (Nat → Int32) × (Nat → Int32), (D_X10_load (uA (uA (uA (uA (uA (uA (uA (uA A 15 u_29) 41 (ur_57.1)) 42 (ur_57.2.1)) 43 (ur_57.2.2.1)) 44 (ur_57.2.2.2.1)) 45 (ur_57.2.2.2.2.1)) 46 (ur_57.2.2.2.2.2.1)) 47 (ur_57.2.2.2.2.2.2.1)) (0 : Int32) (ur_57.2.2.2.2.2.2.2) r_57 p0 x_78 (4 : Int32) (uA (uA (uA (uA (uA (uA (uA (uA (uA (uA A 15 u_29) 41 (ur_57.1)) 42 (ur_57.2.1)) 43 (ur_57.2.2.1)) 44 (ur_57.2.2.2.1)) 45 (ur_57.2.2.2.2.1)) 46 (ur_57.2.2.2.2.2.1)) 47 (ur_57.2.2.2.2.2.2.1)) 44 (ur_80.1)) 48 (ur_80.2)) (0 : Int32) (ur_57.2.2.2.2.2.2.2)) ∧ (I7 (ur_57.1) (ur_57.2.1) (ur_80.1) (ur_57.2.2.2.2.1) (ur_57.2.2.2.2.2.1)) ∧ (((ur_80.1) 24).toInt = ((ur_57.2.2.2.1) 24).toInt ∧ ((ur_57.2.2.2.2.2.1) 24).toInt = ((ur_57.2.2.2.2.2.1) 24).toInt) ∧ (D_X10_push_s5 A Z cdz pkz r n_4 x_24 u_29 ur_57 ur_80)
abbrev D_X10_push_s7 (A : AA) (Z : AA) (cdz : Int32) (pkz : Int32) (r : Int32) (n_4 : Nat) (x_24 : Int32) (u_29 : (Nat → Int32)) (ur_57 : (Nat → Int32) × (Nat → Int32) × (Nat → Int32) × (Nat → Int32) × (Nat → Int32) × (Nat → Int32) × (Nat → Int32) × Int32) (ur_86 : (Nat → Int32) × (Nat → Int32)) : Prop := ∃ x_89 : Int32, (x_89 = x_24 - x_24 / 64 * 64) ∧ (x_89.toInt = x_24.toInt % 64) ∧ ∃ g_90 : Nat → Int32, (g_90 = upd (A 13) n_4 x_89) ∧ (Z = (uA (uA (uA (uA (uA (uA (uA (uA (uA (uA A 41 (ur_57.1)) 42 (ur_57.2.1)) 43 (ur_57.2.2.1)) 44 (ur_86.1)) 45 (ur_57.2.2.2.2.1)) 46 (ur_57.2.2.2.2.2.1)) 47 (ur_57.2.2.2.2.2.2.1)) 48 (ur_86.2)) 13 g_90) 15 u_29)) ∧ (cdz = 0) ∧ (pkz = ur_57.2.2.2.2.2.2.2) ∧ (r = ((A 13) n_4))
abbrev D_X10_push_s8 (A : AA) (p0 : Int32) (Z : AA) (cdz : Int32) (pkz : Int32) (r : Int32) (n_4 : Nat) (x_24 : Int32) (u_29 : (Nat → Int32)) (x_38 : Int32) (ur_57 : (Nat → Int32) × (Nat → Int32) × (Nat → Int32) × (Nat → Int32) × (Nat → Int32) × (Nat → Int32) × (Nat → Int32) × Int32) (r_57 : Int32) (x_78 : Int32) : Prop := (¬ 4 ≤ x_38.toInt) ∧ ∃ ur_86 : (Nat → Int32) × (Nat → Int32), (D_X10_load (uA (uA (uA (uA (uA (uA (uA (uA A 15 u_29) 41 (ur_57.1)) 42 (ur_57.2.1)) 43 (ur_57.2.2.1)) 44 (ur_57.2.2.2.1)) 45 (ur_57.2.2.2.2.1)) 46 (ur_57.2.2.2.2.2.1)) 47 (ur_57.2.2.2.2.2.2.1)) (0 : Int32) (ur_57.2.2.2.2.2.2.2) r_57 p0 x_78 x_38 (uA (uA (uA (uA (uA (uA (uA (uA (uA (uA A 15 u_29) 41 (ur_57.1)) 42 (ur_57.2.1)) 43 (ur_57.2.2.1)) 44 (ur_57.2.2.2.1)) 45 (ur_57.2.2.2.2.1)) 46 (ur_57.2.2.2.2.2.1)) 47 (ur_57.2.2.2.2.2.2.1)) 44 (ur_86.1)) 48 (ur_86.2)) (0 : Int32) (ur_57.2.2.2.2.2.2.2)) ∧ (I7 (ur_57.1) (ur_57.2.1) (ur_86.1) (ur_57.2.2.2.2.1) (ur_57.2.2.2.2.2.1)) ∧ (((ur_86.1) 24).toInt = ((ur_57.2.2.2.1) 24).toInt ∧ ((ur_57.2.2.2.2.2.1) 24).toInt = ((ur_57.2.2.2.2.2.1) 24).toInt) ∧ (D_X10_push_s7 A Z cdz pkz r n_4 x_24 u_29 ur_57 ur_86)
abbrev D_X10_push_s9 (A : AA) (pk : Int32) (p0 : Int32) (Z : AA) (cdz : Int32) (pkz : Int32) (r : Int32) (n_4 : Nat) (i0 : Nat) (x_24 : Int32) (u_29 : (Nat → Int32)) (x_37 : Int32) (x_38 : Int32) (x_55 : Int32) : Prop := ∃ ur_57 : (Nat → Int32) × (Nat → Int32) × (Nat → Int32) × (Nat → Int32) × (Nat → Int32) × (Nat → Int32) × (Nat → Int32) × Int32, ∃ r_57 : Int32, (D_X10_emit (uA A 15 u_29) (0 : Int32) pk p0 ((A 22) (4 * n_4 + i0)) ((A 13) n_4) ((A 25) (4 * n_4 + i0)) x_55 ((A 27) (4 * n_4 + i0)) (uA (uA (uA (uA (uA (uA (uA (uA A 15 u_29) 41 (ur_57.1)) 42 (ur_57.2.1)) 43 (ur_57.2.2.1)) 44 (ur_57.2.2.2.1)) 45 (ur_57.2.2.2.2.1)) 46 (ur_57.2.2.2.2.2.1)) 47 (ur_57.2.2.2.2.2.2.1)) (0 : Int32) (ur_57.2.2.2.2.2.2.2) r_57) ∧ (I7 (ur_57.1) (ur_57.2.1) (ur_57.2.2.2.1) (ur_57.2.2.2.2.1) (ur_57.2.2.2.2.2.1)) ∧ (0 ≤ ur_57.2.2.2.2.2.2.2.toInt ∧ ur_57.2.2.2.2.2.2.2.toInt ≤ 24) ∧ (-1 ≤ r_57.toInt ∧ r_57.toInt ≤ 23) ∧ (∀ n : Nat, (n : Int) = r_57.toInt → (ur_57.2.1) n = ((A 22) (4 * n_4 + i0))) ∧ (((ur_57.2.2.2.1) 24).toInt = ((A 44) 24).toInt ∧ ((ur_57.2.2.2.2.2.1) 24).toInt = ((A 46) 24).toInt) ∧ ((D_X10_push_s4 A Z cdz pkz r n_4 i0 x_24 u_29 x_38 ur_57 r_57) ∨ ((¬ 2 ≤ ((A 22) (4 * n_4 + i0)).toInt) ∧ ∃ x_78 : Int32, (x_78 = ((A 23) (4 * n_4 + i0)) + x_37) ∧ (x_78.toInt = ((A 23) (4 * n_4 + i0)).toInt + x_37.toInt) ∧ ((D_X10_push_s6 A p0 Z cdz pkz r n_4 x_24 u_29 x_38 ur_57 r_57 x_78) ∨ (D_X10_push_s8 A p0 Z cdz pkz r n_4 x_24 u_29 x_38 ur_57 r_57 x_78))))
abbrev D_X10_push_s10 (A : AA) (Z : AA) (cdz : Int32) (pkz : Int32) (r : Int32) (n_4 : Nat) (x_24 : Int32) (u_29 : (Nat → Int32)) (ur_99 : (Nat → Int32) × (Nat → Int32) × (Nat → Int32) × (Nat → Int32) × (Nat → Int32) × (Nat → Int32) × (Nat → Int32) × Int32) (ur_106 : (Nat → Int32) × (Nat → Int32)) : Prop := ∃ x_109 : Int32, (x_109 = x_24 - x_24 / 64 * 64) ∧ (x_109.toInt = x_24.toInt % 64) ∧ ∃ g_110 : Nat → Int32, (g_110 = upd (A 13) n_4 x_109) ∧ (Z = (uA (uA (uA (uA (uA (uA (uA (uA (uA (uA A 41 (ur_99.1)) 42 (ur_99.2.1)) 43 (ur_99.2.2.1)) 44 (ur_106.1)) 45 (ur_99.2.2.2.2.1)) 46 (ur_99.2.2.2.2.2.1)) 47 (ur_99.2.2.2.2.2.2.1)) 48 (ur_106.2)) 13 g_110) 15 u_29)) ∧ (cdz = 0) ∧ (pkz = ur_99.2.2.2.2.2.2.2) ∧ (r = ((A 13) n_4))
abbrev D_X10_push_s11 (A : AA) (p0 : Int32) (Z : AA) (cdz : Int32) (pkz : Int32) (r : Int32) (n_4 : Nat) (x_24 : Int32) (u_29 : (Nat → Int32)) (x_38 : Int32) (ur_99 : (Nat → Int32) × (Nat → Int32) × (Nat → Int32) × (Nat → Int32) × (Nat → Int32) × (Nat → Int32) × (Nat → Int32) × Int32) (r_99 : Int32) (x_104 : Int32) : Prop := (4 ≤ x_38.toInt) ∧ ∃ ur_106 : (Nat → Int32) × (Nat → Int32), (D_X10_load (uA (uA (uA (uA (uA (uA (uA (uA A 15 u_29) 41 (ur_99.1)) 42 (ur_99.2.1)) 43 (ur_99.2.2.1)) 44 (ur_99.2.2.2.1)) 45 (ur_99.2.2.2.2.1)) 46 (ur_99.2.2.2.2.2.1)) 47 (ur_99.2.2.2.2.2.2.1)) (0 : Int32) (ur_99.2.2.2.2.2.2.2) r_99 p0 x_104 (4 : Int32) (uA (uA (uA (uA (uA (uA (uA (uA (uA (uA A 15 u_29) 41 (ur_99.1)) 42 (ur_99.2.1)) 43 (ur_99.2.2.1)) 44 (ur_99.2.2.2.1)) 45 (ur_99.2.2.2.2.1)) 46 (ur_99.2.2.2.2.2.1)) 47 (ur_99.2.2.2.2.2.2.1)) 44 (ur_106.1)) 48 (ur_106.2)) (0 : Int32) (ur_99.2.2.2.2.2.2.2)) ∧ (I7 (ur_99.1) (ur_99.2.1) (ur_106.1) (ur_99.2.2.2.2.1) (ur_99.2.2.2.2.2.1)) ∧ (((ur_106.1) 24).toInt = ((ur_99.2.2.2.1) 24).toInt ∧ ((ur_99.2.2.2.2.2.1) 24).toInt = ((ur_99.2.2.2.2.2.1) 24).toInt) ∧ (D_X10_push_s10 A Z cdz pkz r n_4 x_24 u_29 ur_99 ur_106)
abbrev D_X10_push_s12 (A : AA) (Z : AA) (cdz : Int32) (pkz : Int32) (r : Int32) (n_4 : Nat) (x_24 : Int32) (u_29 : (Nat → Int32)) (ur_99 : (Nat → Int32) × (Nat → Int32) × (Nat → Int32) × (Nat → Int32) × (Nat → Int32) × (Nat → Int32) × (Nat → Int32) × Int32) (ur_112 : (Nat → Int32) × (Nat → Int32)) : Prop := ∃ x_115 : Int32, (x_115 = x_24 - x_24 / 64 * 64) ∧ (x_115.toInt = x_24.toInt % 64) ∧ ∃ g_116 : Nat → Int32, (g_116 = upd (A 13) n_4 x_115) ∧ (Z = (uA (uA (uA (uA (uA (uA (uA (uA (uA (uA A 41 (ur_99.1)) 42 (ur_99.2.1)) 43 (ur_99.2.2.1)) 44 (ur_112.1)) 45 (ur_99.2.2.2.2.1)) 46 (ur_99.2.2.2.2.2.1)) 47 (ur_99.2.2.2.2.2.2.1)) 48 (ur_112.2)) 13 g_116) 15 u_29)) ∧ (cdz = 0) ∧ (pkz = ur_99.2.2.2.2.2.2.2) ∧ (r = ((A 13) n_4))
abbrev D_X10_push_s13 (A : AA) (p0 : Int32) (Z : AA) (cdz : Int32) (pkz : Int32) (r : Int32) (n_4 : Nat) (x_24 : Int32) (u_29 : (Nat → Int32)) (x_38 : Int32) (ur_99 : (Nat → Int32) × (Nat → Int32) × (Nat → Int32) × (Nat → Int32) × (Nat → Int32) × (Nat → Int32) × (Nat → Int32) × Int32) (r_99 : Int32) (x_104 : Int32) : Prop := (¬ 4 ≤ x_38.toInt) ∧ ∃ ur_112 : (Nat → Int32) × (Nat → Int32), (D_X10_load (uA (uA (uA (uA (uA (uA (uA (uA A 15 u_29) 41 (ur_99.1)) 42 (ur_99.2.1)) 43 (ur_99.2.2.1)) 44 (ur_99.2.2.2.1)) 45 (ur_99.2.2.2.2.1)) 46 (ur_99.2.2.2.2.2.1)) 47 (ur_99.2.2.2.2.2.2.1)) (0 : Int32) (ur_99.2.2.2.2.2.2.2) r_99 p0 x_104 x_38 (uA (uA (uA (uA (uA (uA (uA (uA (uA (uA A 15 u_29) 41 (ur_99.1)) 42 (ur_99.2.1)) 43 (ur_99.2.2.1)) 44 (ur_99.2.2.2.1)) 45 (ur_99.2.2.2.2.1)) 46 (ur_99.2.2.2.2.2.1)) 47 (ur_99.2.2.2.2.2.2.1)) 44 (ur_112.1)) 48 (ur_112.2)) (0 : Int32) (ur_99.2.2.2.2.2.2.2)) ∧ (I7 (ur_99.1) (ur_99.2.1) (ur_112.1) (ur_99.2.2.2.2.1) (ur_99.2.2.2.2.2.1)) ∧ (((ur_112.1) 24).toInt = ((ur_99.2.2.2.1) 24).toInt ∧ ((ur_99.2.2.2.2.2.1) 24).toInt = ((ur_99.2.2.2.2.2.1) 24).toInt) ∧ (D_X10_push_s12 A Z cdz pkz r n_4 x_24 u_29 ur_99 ur_112)
abbrev D_X10_push_s14 (A : AA) (p0 : Int32) (Z : AA) (cdz : Int32) (pkz : Int32) (r : Int32) (n_4 : Nat) (i0 : Nat) (x_24 : Int32) (u_29 : (Nat → Int32)) (x_37 : Int32) (x_38 : Int32) (ur_99 : (Nat → Int32) × (Nat → Int32) × (Nat → Int32) × (Nat → Int32) × (Nat → Int32) × (Nat → Int32) × (Nat → Int32) × Int32) (r_99 : Int32) : Prop := (I7 (ur_99.1) (ur_99.2.1) (ur_99.2.2.2.1) (ur_99.2.2.2.2.1) (ur_99.2.2.2.2.2.1)) ∧ (0 ≤ ur_99.2.2.2.2.2.2.2.toInt ∧ ur_99.2.2.2.2.2.2.2.toInt ≤ 24) ∧ (-1 ≤ r_99.toInt ∧ r_99.toInt ≤ 23) ∧ (∀ n : Nat, (n : Int) = r_99.toInt → (ur_99.2.1) n = ((A 22) (4 * n_4 + i0))) ∧ (((ur_99.2.2.2.1) 24).toInt = ((A 44) 24).toInt ∧ ((ur_99.2.2.2.2.2.1) 24).toInt = ((A 46) 24).toInt) ∧ ∃ x_104 : Int32, (x_104 = ((A 23) (4 * n_4 + i0)) + x_37) ∧ (x_104.toInt = ((A 23) (4 * n_4 + i0)).toInt + x_37.toInt) ∧ ((D_X10_push_s11 A p0 Z cdz pkz r n_4 x_24 u_29 x_38 ur_99 r_99 x_104) ∨ (D_X10_push_s13 A p0 Z cdz pkz r n_4 x_24 u_29 x_38 ur_99 r_99 x_104))
abbrev D_X10_push_s15 (A : AA) (pk : Int32) (p0 : Int32) (Z : AA) (cdz : Int32) (pkz : Int32) (r : Int32) (n_4 : Nat) (i0 : Nat) (x_24 : Int32) (u_29 : (Nat → Int32)) (x_37 : Int32) (x_38 : Int32) (x_45 : Int32) : Prop := (¬ ((A 22) (4 * n_4 + i0)).toInt = 0) ∧ ∃ x_97 : Int32, (x_97 = ((A 26) (4 * n_4 + i0)) + x_37) ∧ (x_97.toInt = ((A 26) (4 * n_4 + i0)).toInt + x_37.toInt) ∧ ∃ ur_99 : (Nat → Int32) × (Nat → Int32) × (Nat → Int32) × (Nat → Int32) × (Nat → Int32) × (Nat → Int32) × (Nat → Int32) × Int32, ∃ r_99 : Int32, (D_X10_emit (uA A 15 u_29) (0 : Int32) pk p0 ((A 22) (4 * n_4 + i0)) ((A 13) n_4) x_45 x_97 ((A 27) (4 * n_4 + i0)) (uA (uA (uA (uA (uA (uA (uA (uA A 15 u_29) 41 (ur_99.1)) 42 (ur_99.2.1)) 43 (ur_99.2.2.1)) 44 (ur_99.2.2.2.1)) 45 (ur_99.2.2.2.2.1)) 46 (ur_99.2.2.2.2.2.1)) 47 (ur_99.2.2.2.2.2.2.1)) (0 : Int32) (ur_99.2.2.2.2.2.2.2) r_99) ∧ (D_X10_push_s14 A p0 Z cdz pkz r n_4 i0 x_24 u_29 x_37 x_38 ur_99 r_99)
abbrev D_X10_push_s16 (A : AA) (Z : AA) (cdz : Int32) (pkz : Int32) (r : Int32) (n_4 : Nat) (x_24 : Int32) (u_29 : (Nat → Int32)) (ur_119 : (Nat → Int32) × (Nat → Int32) × (Nat → Int32) × (Nat → Int32) × (Nat → Int32) × (Nat → Int32) × (Nat → Int32) × Int32) (ur_126 : (Nat → Int32) × (Nat → Int32)) : Prop := ∃ x_129 : Int32, (x_129 = x_24 - x_24 / 64 * 64) ∧ (x_129.toInt = x_24.toInt % 64) ∧ ∃ g_130 : Nat → Int32, (g_130 = upd (A 13) n_4 x_129) ∧ (Z = (uA (uA (uA (uA (uA (uA (uA (uA (uA (uA A 41 (ur_119.1)) 42 (ur_119.2.1)) 43 (ur_119.2.2.1)) 44 (ur_126.1)) 45 (ur_119.2.2.2.2.1)) 46 (ur_119.2.2.2.2.2.1)) 47 (ur_119.2.2.2.2.2.2.1)) 48 (ur_126.2)) 13 g_130) 15 u_29)) ∧ (cdz = 0) ∧ (pkz = ur_119.2.2.2.2.2.2.2) ∧ (r = ((A 13) n_4))
abbrev D_X10_push_s17 (A : AA) (p0 : Int32) (Z : AA) (cdz : Int32) (pkz : Int32) (r : Int32) (n_4 : Nat) (x_24 : Int32) (u_29 : (Nat → Int32)) (x_38 : Int32) (ur_119 : (Nat → Int32) × (Nat → Int32) × (Nat → Int32) × (Nat → Int32) × (Nat → Int32) × (Nat → Int32) × (Nat → Int32) × Int32) (r_119 : Int32) (x_124 : Int32) : Prop := (4 ≤ x_38.toInt) ∧ ∃ ur_126 : (Nat → Int32) × (Nat → Int32), (D_X10_load (uA (uA (uA (uA (uA (uA (uA (uA A 15 u_29) 41 (ur_119.1)) 42 (ur_119.2.1)) 43 (ur_119.2.2.1)) 44 (ur_119.2.2.2.1)) 45 (ur_119.2.2.2.2.1)) 46 (ur_119.2.2.2.2.2.1)) 47 (ur_119.2.2.2.2.2.2.1)) (0 : Int32) (ur_119.2.2.2.2.2.2.2) r_119 p0 x_124 (4 : Int32) (uA (uA (uA (uA (uA (uA (uA (uA (uA (uA A 15 u_29) 41 (ur_119.1)) 42 (ur_119.2.1)) 43 (ur_119.2.2.1)) 44 (ur_119.2.2.2.1)) 45 (ur_119.2.2.2.2.1)) 46 (ur_119.2.2.2.2.2.1)) 47 (ur_119.2.2.2.2.2.2.1)) 44 (ur_126.1)) 48 (ur_126.2)) (0 : Int32) (ur_119.2.2.2.2.2.2.2)) ∧ (I7 (ur_119.1) (ur_119.2.1) (ur_126.1) (ur_119.2.2.2.2.1) (ur_119.2.2.2.2.2.1)) ∧ (((ur_126.1) 24).toInt = ((ur_119.2.2.2.1) 24).toInt ∧ ((ur_119.2.2.2.2.2.1) 24).toInt = ((ur_119.2.2.2.2.2.1) 24).toInt) ∧ (D_X10_push_s16 A Z cdz pkz r n_4 x_24 u_29 ur_119 ur_126)
abbrev D_X10_push_s18 (A : AA) (Z : AA) (cdz : Int32) (pkz : Int32) (r : Int32) (n_4 : Nat) (x_24 : Int32) (u_29 : (Nat → Int32)) (ur_119 : (Nat → Int32) × (Nat → Int32) × (Nat → Int32) × (Nat → Int32) × (Nat → Int32) × (Nat → Int32) × (Nat → Int32) × Int32) (ur_132 : (Nat → Int32) × (Nat → Int32)) : Prop := ∃ x_135 : Int32, (x_135 = x_24 - x_24 / 64 * 64) ∧ (x_135.toInt = x_24.toInt % 64) ∧ ∃ g_136 : Nat → Int32, (g_136 = upd (A 13) n_4 x_135) ∧ (Z = (uA (uA (uA (uA (uA (uA (uA (uA (uA (uA A 41 (ur_119.1)) 42 (ur_119.2.1)) 43 (ur_119.2.2.1)) 44 (ur_132.1)) 45 (ur_119.2.2.2.2.1)) 46 (ur_119.2.2.2.2.2.1)) 47 (ur_119.2.2.2.2.2.2.1)) 48 (ur_132.2)) 13 g_136) 15 u_29)) ∧ (cdz = 0) ∧ (pkz = ur_119.2.2.2.2.2.2.2) ∧ (r = ((A 13) n_4))
abbrev D_X10_push_s19 (A : AA) (p0 : Int32) (Z : AA) (cdz : Int32) (pkz : Int32) (r : Int32) (n_4 : Nat) (x_24 : Int32) (u_29 : (Nat → Int32)) (x_38 : Int32) (ur_119 : (Nat → Int32) × (Nat → Int32) × (Nat → Int32) × (Nat → Int32) × (Nat → Int32) × (Nat → Int32) × (Nat → Int32) × Int32) (r_119 : Int32) (x_124 : Int32) : Prop := (¬ 4 ≤ x_38.toInt) ∧ ∃ ur_132 : (Nat → Int32) × (Nat → Int32), (D_X10_load (uA (uA (uA (uA (uA (uA (uA (uA A 15 u_29) 41 (ur_119.1)) 42 (ur_119.2.1)) 43 (ur_119.2.2.1)) 44 (ur_119.2.2.2.1)) 45 (ur_119.2.2.2.2.1)) 46 (ur_119.2.2.2.2.2.1)) 47 (ur_119.2.2.2.2.2.2.1)) (0 : Int32) (ur_119.2.2.2.2.2.2.2) r_119 p0 x_124 x_38 (uA (uA (uA (uA (uA (uA (uA (uA (uA (uA A 15 u_29) 41 (ur_119.1)) 42 (ur_119.2.1)) 43 (ur_119.2.2.1)) 44 (ur_119.2.2.2.1)) 45 (ur_119.2.2.2.2.1)) 46 (ur_119.2.2.2.2.2.1)) 47 (ur_119.2.2.2.2.2.2.1)) 44 (ur_132.1)) 48 (ur_132.2)) (0 : Int32) (ur_119.2.2.2.2.2.2.2)) ∧ (I7 (ur_119.1) (ur_119.2.1) (ur_132.1) (ur_119.2.2.2.2.1) (ur_119.2.2.2.2.2.1)) ∧ (((ur_132.1) 24).toInt = ((ur_119.2.2.2.1) 24).toInt ∧ ((ur_119.2.2.2.2.2.1) 24).toInt = ((ur_119.2.2.2.2.2.1) 24).toInt) ∧ (D_X10_push_s18 A Z cdz pkz r n_4 x_24 u_29 ur_119 ur_132)
abbrev D_X10_push_s20 (A : AA) (p0 : Int32) (Z : AA) (cdz : Int32) (pkz : Int32) (r : Int32) (n_4 : Nat) (i0 : Nat) (x_24 : Int32) (u_29 : (Nat → Int32)) (x_37 : Int32) (x_38 : Int32) (ur_119 : (Nat → Int32) × (Nat → Int32) × (Nat → Int32) × (Nat → Int32) × (Nat → Int32) × (Nat → Int32) × (Nat → Int32) × Int32) (r_119 : Int32) : Prop := (I7 (ur_119.1) (ur_119.2.1) (ur_119.2.2.2.1) (ur_119.2.2.2.2.1) (ur_119.2.2.2.2.2.1)) ∧ (0 ≤ ur_119.2.2.2.2.2.2.2.toInt ∧ ur_119.2.2.2.2.2.2.2.toInt ≤ 24) ∧ (-1 ≤ r_119.toInt ∧ r_119.toInt ≤ 23) ∧ (∀ n : Nat, (n : Int) = r_119.toInt → (ur_119.2.1) n = ((A 22) (4 * n_4 + i0))) ∧ (((ur_119.2.2.2.1) 24).toInt = ((A 44) 24).toInt ∧ ((ur_119.2.2.2.2.2.1) 24).toInt = ((A 46) 24).toInt) ∧ ∃ x_124 : Int32, (x_124 = ((A 23) (4 * n_4 + i0)) + x_37) ∧ (x_124.toInt = ((A 23) (4 * n_4 + i0)).toInt + x_37.toInt) ∧ ((D_X10_push_s17 A p0 Z cdz pkz r n_4 x_24 u_29 x_38 ur_119 r_119 x_124) ∨ (D_X10_push_s19 A p0 Z cdz pkz r n_4 x_24 u_29 x_38 ur_119 r_119 x_124))
abbrev D_X10_push_s21 (A : AA) (pk : Int32) (p0 : Int32) (Z : AA) (cdz : Int32) (pkz : Int32) (r : Int32) (n_4 : Nat) (i0 : Nat) (x_24 : Int32) (u_29 : (Nat → Int32)) (x_37 : Int32) (x_38 : Int32) (x_45 : Int32) : Prop := (((A 22) (4 * n_4 + i0)).toInt = 0) ∧ ∃ ur_119 : (Nat → Int32) × (Nat → Int32) × (Nat → Int32) × (Nat → Int32) × (Nat → Int32) × (Nat → Int32) × (Nat → Int32) × Int32, ∃ r_119 : Int32, (D_X10_emit (uA A 15 u_29) (0 : Int32) pk p0 ((A 22) (4 * n_4 + i0)) ((A 13) n_4) x_45 (-1 : Int32) ((A 27) (4 * n_4 + i0)) (uA (uA (uA (uA (uA (uA (uA (uA A 15 u_29) 41 (ur_119.1)) 42 (ur_119.2.1)) 43 (ur_119.2.2.1)) 44 (ur_119.2.2.2.1)) 45 (ur_119.2.2.2.2.1)) 46 (ur_119.2.2.2.2.2.1)) 47 (ur_119.2.2.2.2.2.2.1)) (0 : Int32) (ur_119.2.2.2.2.2.2.2) r_119) ∧ (D_X10_push_s20 A p0 Z cdz pkz r n_4 i0 x_24 u_29 x_37 x_38 ur_119 r_119)
abbrev D_X10_push_s22 (A : AA) (pk : Int32) (p0 : Int32) (Z : AA) (cdz : Int32) (pkz : Int32) (r : Int32) (n_4 : Nat) (r_12 : Int32) (i0 : Nat) (x_16 : Int32) (x_24 : Int32) (u_29 : (Nat → Int32)) (x_37 : Int32) (x_38 : Int32) (v_39 : Int32) (r_41 : Int32) : Prop := (D_X10_numbersOf (uA A 15 u_29) (0 : Int32) pk r_12 r_41) ∧ (0 ≤ r_41.toInt ∧ r_41.toInt ≤ 3) ∧ (∀ n : Nat, (n : Int) = r_12.toInt → r_41.toInt = NB (A 24) n) ∧ ∃ v_42 : Int32, ((∃ x_43 : Int32, (x_43 = r_41 - 1) ∧ (x_43.toInt = r_41.toInt - 1) ∧ (¬ x_16.toInt = x_43.toInt) ∧ v_42 = 0) ∨ (∃ x_43 : Int32, (x_43 = r_41 - 1) ∧ (x_43.toInt = r_41.toInt - 1) ∧ (x_16.toInt = x_43.toInt) ∧ v_42 = 2)) ∧ ∃ x_45 : Int32, (x_45 = v_39 + v_42) ∧ (x_45.toInt = v_39.toInt + v_42.toInt) ∧ (((¬ ((A 22) (4 * n_4 + i0)).toInt = 0) ∧ ∃ x_55 : Int32, (x_55 = ((A 26) (4 * n_4 + i0)) + x_37) ∧ (x_55.toInt = ((A 26) (4 * n_4 + i0)).toInt + x_37.toInt) ∧ (D_X10_push_s9 A pk p0 Z cdz pkz r n_4 i0 x_24 u_29 x_37 x_38 x_55)) ∨ ((((A 22) (4 * n_4 + i0)).toInt = 0) ∧ ((D_X10_push_s15 A pk p0 Z cdz pkz r n_4 i0 x_24 u_29 x_37 x_38 x_45) ∨ (D_X10_push_s21 A pk p0 Z cdz pkz r n_4 i0 x_24 u_29 x_37 x_38 x_45))))
abbrev D_X10_push_s23 (A : AA) (pk : Int32) (p0 : Int32) (Z : AA) (cdz : Int32) (pkz : Int32) (r : Int32) (n_4 : Nat) (r_12 : Int32) (i0 : Nat) (x_16 : Int32) (x_24 : Int32) (x_27 : Int32) : Prop := (x_27.toInt < 8) ∧ ∃ u_29 : (Nat → Int32), (((¬ ((A 13) n_4).toInt = ((A 12) n_4).toInt) ∧ u_29 = (A 15)) ∨ ((((A 13) n_4).toInt = ((A 12) n_4).toInt) ∧ ∃ g_32 : Nat → Int32, (g_32 = upd (A 15) n_4 0) ∧ u_29 = g_32)) ∧ ∃ x_37 : Int32, ((x_37 = 4 * x_16) ∧ (x_37.toInt = 4 * x_16.toInt) ∧ ∃ x_38 : Int32, (x_38 = ((A 24) (4 * n_4 + i0)) - x_37) ∧ (x_38.toInt = ((A 24) (4 * n_4 + i0)).toInt - x_37.toInt) ∧ ∃ v_39 : Int32, (((¬ x_16.toInt = 0) ∧ v_39 = 0) ∨ ((x_16.toInt = 0) ∧ v_39 = 1)) ∧ ∃ r_41 : Int32, (D_X10_push_s22 A pk p0 Z cdz pkz r n_4 r_12 i0 x_16 x_24 u_29 x_37 x_38 v_39 r_41))
abbrev D_X10_push_s24 (A : AA) (pk : Int32) (p0 : Int32) (Z : AA) (cdz : Int32) (pkz : Int32) (r : Int32) (n_4 : Nat) (r_12 : Int32) (i0 : Nat) (x_16 : Int32) (x_24 : Int32) (x_25 : Int32) : Prop := (x_25 = x_24 - 1) ∧ (x_25.toInt = x_24.toInt - 1) ∧ ∃ x_26 : Int32, (x_26 = x_25 - x_25 / 64 * 64) ∧ (x_26.toInt = x_25.toInt % 64) ∧ ∃ x_27 : Int32, (x_27 = ((x_26 - ((A 12) n_4)) + 64) - ((x_26 - ((A 12) n_4)) + 64) / 64 * 64) ∧ (x_27.toInt = (x_26.toInt - ((A 12) n_4).toInt + 64) % 64) ∧ ((D_X10_push_s23 A pk p0 Z cdz pkz r n_4 r_12 i0 x_16 x_24 x_27) ∨ ((¬ x_27.toInt < 8) ∧ (Z = (uA (uA (uA (uA (uA (uA (uA (uA (uA (uA A 41 (A 41)) 42 (A 42)) 43 (A 43)) 44 (A 44)) 45 (A 45)) 46 (A 46)) 47 (A 47)) 48 (A 48)) 13 (A 13)) 15 (A 15))) ∧ (cdz = 0) ∧ (pkz = pk) ∧ (r = (-1))))
abbrev D_X10_push_s25 (A : AA) (Z : AA) (cdz : Int32) (pkz : Int32) (r : Int32) (n_4 : Nat) (x_141 : Int32) (u_146 : (Nat → Int32)) (ur_174 : (Nat → Int32) × (Nat → Int32) × (Nat → Int32) × (Nat → Int32) × (Nat → Int32) × (Nat → Int32) × (Nat → Int32) × Int32) : Prop := ∃ x_179 : Int32, (x_179 = x_141 - x_141 / 64 * 64) ∧ (x_179.toInt = x_141.toInt % 64) ∧ ∃ g_180 : Nat → Int32, (g_180 = upd (A 13) n_4 x_179) ∧ (Z = (uA (uA (uA (uA (uA (uA (uA (uA (uA (uA A 41 (ur_174.1)) 42 (ur_174.2.1)) 43 (ur_174.2.2.1)) 44 (ur_174.2.2.2.1)) 45 (ur_174.2.2.2.2.1)) 46 (ur_174.2.2.2.2.2.1)) 47 (ur_174.2.2.2.2.2.2.1)) 48 (A 48)) 13 g_180) 15 u_146)) ∧ (cdz = 0) ∧ (pkz = ur_174.2.2.2.2.2.2.2) ∧ (r = ((A 13) n_4))
abbrev D_X10_push_s26 (A : AA) (Z : AA) (cdz : Int32) (pkz : Int32) (r : Int32) (n_4 : Nat) (x_141 : Int32) (u_146 : (Nat → Int32)) (ur_174 : (Nat → Int32) × (Nat → Int32) × (Nat → Int32) × (Nat → Int32) × (Nat → Int32) × (Nat → Int32) × (Nat → Int32) × Int32) : Prop := ∃ x_183 : Int32, (x_183 = x_141 - x_141 / 64 * 64) ∧ (x_183.toInt = x_141.toInt % 64) ∧ ∃ g_184 : Nat → Int32, (g_184 = upd (A 13) n_4 x_183) ∧ (Z = (uA (uA (uA (uA (uA (uA (uA (uA (uA (uA A 41 (ur_174.1)) 42 (ur_174.2.1)) 43 (ur_174.2.2.1)) 44 (ur_174.2.2.2.1)) 45 (ur_174.2.2.2.2.1)) 46 (ur_174.2.2.2.2.2.1)) 47 (ur_174.2.2.2.2.2.2.1)) 48 (A 48)) 13 g_184) 15 u_146)) ∧ (cdz = 0) ∧ (pkz = ur_174.2.2.2.2.2.2.2) ∧ (r = ((A 13) n_4))
abbrev D_X10_push_s27 (A : AA) (Z : AA) (cdz : Int32) (pkz : Int32) (r : Int32) (n_4 : Nat) (x_141 : Int32) (u_146 : (Nat → Int32)) (ur_174 : (Nat → Int32) × (Nat → Int32) × (Nat → Int32) × (Nat → Int32) × (Nat → Int32) × (Nat → Int32) × (Nat → Int32) × Int32) (g_188 : Nat → Int32) : Prop := ∃ x_189 : Int32, (x_189 = x_141 - x_141 / 64 * 64) ∧ (x_189.toInt = x_141.toInt % 64) ∧ ∃ g_190 : Nat → Int32, (g_190 = upd (A 13) n_4 x_189) ∧ (Z = (uA (uA (uA (uA (uA (uA (uA (uA (uA (uA A 41 (ur_174.1)) 42 (ur_174.2.1)) 43 (ur_174.2.2.1)) 44 g_188) 45 (ur_174.2.2.2.2.1)) 46 (ur_174.2.2.2.2.2.1)) 47 (ur_174.2.2.2.2.2.2.1)) 48 (A 48)) 13 g_190) 15 u_146)) ∧ (cdz = 0) ∧ (pkz = ur_174.2.2.2.2.2.2.2) ∧ (r = ((A 13) n_4))
abbrev D_X10_push_s28 (A : AA) (pk : Int32) (p0 : Int32) (Z : AA) (cdz : Int32) (pkz : Int32) (r : Int32) (n_4 : Nat) (i0 : Nat) (x_141 : Int32) (u_146 : (Nat → Int32)) (x_155 : Int32) (x_172 : Int32) : Prop := ∃ ur_174 : (Nat → Int32) × (Nat → Int32) × (Nat → Int32) × (Nat → Int32) × (Nat → Int32) × (Nat → Int32) × (Nat → Int32) × Int32, ∃ r_174 : Int32, (D_X10_emit (uA A 15 u_146) (0 : Int32) pk p0 ((A 22) (4 * n_4 + i0)) ((A 13) n_4) ((A 25) (4 * n_4 + i0)) x_172 ((A 27) (4 * n_4 + i0)) (uA (uA (uA (uA (uA (uA (uA (uA A 15 u_146) 41 (ur_174.1)) 42 (ur_174.2.1)) 43 (ur_174.2.2.1)) 44 (ur_174.2.2.2.1)) 45 (ur_174.2.2.2.2.1)) 46 (ur_174.2.2.2.2.2.1)) 47 (ur_174.2.2.2.2.2.2.1)) (0 : Int32) (ur_174.2.2.2.2.2.2.2) r_174) ∧ (I7 (ur_174.1) (ur_174.2.1) (ur_174.2.2.2.1) (ur_174.2.2.2.2.1) (ur_174.2.2.2.2.2.1)) ∧ (0 ≤ ur_174.2.2.2.2.2.2.2.toInt ∧ ur_174.2.2.2.2.2.2.2.toInt ≤ 24) ∧ (-1 ≤ r_174.toInt ∧ r_174.toInt ≤ 23) ∧ (∀ n : Nat, (n : Int) = r_174.toInt → (ur_174.2.1) n = ((A 22) (4 * n_4 + i0))) ∧ (((ur_174.2.2.2.1) 24).toInt = ((A 44) 24).toInt ∧ ((ur_174.2.2.2.2.2.1) 24).toInt = ((A 46) 24).toInt) ∧ (((¬ ((A 22) (4 * n_4 + i0)).toInt = 2) ∧ (D_X10_push_s25 A Z cdz pkz r n_4 x_141 u_146 ur_174)) ∨ ((((A 22) (4 * n_4 + i0)).toInt = 2) ∧ (((r_174.toInt < 0) ∧ (D_X10_push_s26 A Z cdz pkz r n_4 x_141 u_146 ur_174)) ∨ ((¬ r_174.toInt < 0) ∧ ∃ n_186 : Nat, ((n_186 : Int) = r_174.toInt) ∧ ∃ g_188 : Nat → Int32, (g_188 = upd (ur_174.2.2.2.1) n_186 x_155) ∧ (D_X10_push_s27 A Z cdz pkz r n_4 x_141 u_146 ur_174 g_188)))))
abbrev D_X10_push_s29 (A : AA) (pk : Int32) (p0 : Int32) (Z : AA) (cdz : Int32) (pkz : Int32) (r : Int32) (n_4 : Nat) (i0 : Nat) (x_16 : Int32) (x_141 : Int32) (u_146 : (Nat → Int32)) (x_154 : Int32) (x_155 : Int32) (v_156 : Int32) (r_158 : Int32) : Prop := ∃ v_159 : Int32, ((∃ x_160 : Int32, (x_160 = r_158 - 1) ∧ (x_160.toInt = r_158.toInt - 1) ∧ (¬ x_16.toInt = x_160.toInt) ∧ v_159 = 0) ∨ (∃ x_160 : Int32, (x_160 = r_158 - 1) ∧ (x_160.toInt = r_158.toInt - 1) ∧ (x_16.toInt = x_160.toInt) ∧ v_159 = 2)) ∧ ∃ x_162 : Int32, (x_162 = v_156 + v_159) ∧ (x_162.toInt = v_156.toInt + v_159.toInt) ∧ ∃ x_172 : Int32, (x_172 = ((A 26) (4 * n_4 + i0)) + x_154) ∧ (x_172.toInt = ((A 26) (4 * n_4 + i0)).toInt + x_154.toInt) ∧ (D_X10_push_s28 A pk p0 Z cdz pkz r n_4 i0 x_141 u_146 x_155 x_172)
abbrev D_X10_push_s30 (A : AA) (pk : Int32) (p0 : Int32) (Z : AA) (cdz : Int32) (pkz : Int32) (r : Int32) (n_4 : Nat) (r_12 : Int32) (i0 : Nat) (x_16 : Int32) (x_141 : Int32) (u_146 : (Nat → Int32)) (x_154 : Int32) (x_155 : Int32) : Prop := (x_155 = ((A 24) (4 * n_4 + i0)) - x_154) ∧ (x_155.toInt = ((A 24) (4 * n_4 + i0)).toInt - x_154.toInt) ∧ ∃ v_156 : Int32, (((¬ x_16.toInt = 0) ∧ v_156 = 0) ∨ ((x_16.toInt = 0) ∧ v_156 = 1)) ∧ ∃ r_158 : Int32, (D_X10_numbersOf (uA A 15 u_146) (0 : Int32) pk r_12 r_158) ∧ (0 ≤ r_158.toInt ∧ r_158.toInt ≤ 3) ∧ (∀ n : Nat, (n : Int) = r_12.toInt → r_158.toInt = NB (A 24) n) ∧ (D_X10_push_s29 A pk p0 Z cdz pkz r n_4 i0 x_16 x_141 u_146 x_154 x_155 v_156 r_158)
abbrev D_X10_push_s31 (A : AA) (pk : Int32) (p0 : Int32) (Z : AA) (cdz : Int32) (pkz : Int32) (r : Int32) (n_4 : Nat) (r_12 : Int32) (i0 : Nat) (x_16 : Int32) (x_141 : Int32) (x_142 : Int32) : Prop := (x_142 = x_141 - 1) ∧ (x_142.toInt = x_141.toInt - 1) ∧ ∃ x_143 : Int32, (x_143 = x_142 - x_142 / 64 * 64) ∧ (x_143.toInt = x_142.toInt % 64) ∧ ∃ x_144 : Int32, (x_144 = ((x_143 - ((A 12) n_4)) + 64) - ((x_143 - ((A 12) n_4)) + 64) / 64 * 64) ∧ (x_144.toInt = (x_143.toInt - ((A 12) n_4).toInt + 64) % 64) ∧ (((x_144.toInt < 8) ∧ ∃ u_146 : (Nat → Int32), (((¬ ((A 13) n_4).toInt = ((A 12) n_4).toInt) ∧ u_146 = (A 15)) ∨ ((((A 13) n_4).toInt = ((A 12) n_4).toInt) ∧ ∃ g_149 : Nat → Int32, (g_149 = upd (A 15) n_4 0) ∧ u_146 = g_149)) ∧ ∃ x_154 : Int32, (x_154 = 4 * x_16) ∧ (x_154.toInt = 4 * x_16.toInt) ∧ ∃ x_155 : Int32, (D_X10_push_s30 A pk p0 Z cdz pkz r n_4 r_12 i0 x_16 x_141 u_146 x_154 x_155)) ∨ ((¬ x_144.toInt < 8) ∧ (Z = (uA (uA (uA (uA (uA (uA (uA (uA (uA (uA A 41 (A 41)) 42 (A 42)) 43 (A 43)) 44 (A 44)) 45 (A 45)) 46 (A 46)) 47 (A 47)) 48 (A 48)) 13 (A 13)) 15 (A 15))) ∧ (cdz = 0) ∧ (pkz = pk) ∧ (r = (-1))))
abbrev D_X10_push_s32 (A : AA) (pk : Int32) (p0 : Int32) (Z : AA) (cdz : Int32) (pkz : Int32) (r : Int32) (n_4 : Nat) (r_12 : Int32) (i0 : Nat) (x_16 : Int32) : Prop := (((A 22) (4 * n_4 + i0)).toInt = 2) ∧ ∃ r_138 : Int32, (D_X10_numbersOf A (0 : Int32) pk r_12 r_138) ∧ (0 ≤ r_138.toInt ∧ r_138.toInt ≤ 3) ∧ ((∀ n : Nat, (n : Int) = r_12.toInt → r_138.toInt = NB (A 24) n) ∧ ∃ x_139 : Int32, (x_139 = r_138 - x_16) ∧ (x_139.toInt = r_138.toInt - x_16.toInt) ∧ ∃ x_141 : Int32, (x_141 = ((A 13) n_4) + x_139) ∧ (x_141.toInt = ((A 13) n_4).toInt + x_139.toInt) ∧ ∃ x_142 : Int32, (D_X10_push_s31 A pk p0 Z cdz pkz r n_4 r_12 i0 x_16 x_141 x_142))
abbrev D_X10_push_s33 (A : AA) (pk : Int32) (p0 : Int32) (Z : AA) (cdz : Int32) (pkz : Int32) (r : Int32) (n_4 : Nat) : Prop := ∃ r_12 : Int32, (0 ≤ r_12.toInt ∧ r_12.toInt ≤ 15) ∧ (∀ n : Nat, (n : Int) = p0.toInt → RO (A 29) (A 24) n ((A 13) n_4) r_12.toInt) ∧ ∃ i0 : Nat, (i0 < 4) ∧ (((4 * n_4 + i0 : Nat) : Int) = r_12.toInt) ∧ ∃ x_16 : Int32, (x_16 = ((((A 13) n_4) - ((A 29) (4 * n_4 + i0))) + 64) - ((((A 13) n_4) - ((A 29) (4 * n_4 + i0))) + 64) / 64 * 64) ∧ (((¬ ((A 22) (4 * n_4 + i0)).toInt = 2) ∧ ∃ x_24 : Int32, (x_24 = ((A 13) n_4) + 1) ∧ (x_24.toInt = ((A 13) n_4).toInt + 1) ∧ ∃ x_25 : Int32, (D_X10_push_s24 A pk p0 Z cdz pkz r n_4 r_12 i0 x_16 x_24 x_25)) ∨ (D_X10_push_s32 A pk p0 Z cdz pkz r n_4 r_12 i0 x_16))
abbrev D_X10_push_s34 (A : AA) (pk : Int32) (p0 : Int32) (Z : AA) (cdz : Int32) (pkz : Int32) (r : Int32) (n_4 : Nat) : Prop := (((A 10) n_4).toInt = 1) ∧ (((((A 13) n_4).toInt = ((A 11) n_4).toInt) ∧ (Z = (uA (uA (uA (uA (uA (uA (uA (uA (uA (uA A 41 (A 41)) 42 (A 42)) 43 (A 43)) 44 (A 44)) 45 (A 45)) 46 (A 46)) 47 (A 47)) 48 (A 48)) 13 (A 13)) 15 (A 15))) ∧ (cdz = 0) ∧ (pkz = pk) ∧ (r = (-1))) ∨ ((¬ ((A 13) n_4).toInt = ((A 11) n_4).toInt) ∧ (((((A 18) n_4).toInt = 0) ∧ (D_X10_push_s33 A pk p0 Z cdz pkz r n_4)) ∨ ((¬ ((A 18) n_4).toInt = 0) ∧ (Z = (uA (uA (uA (uA (uA (uA (uA (uA (uA (uA A 41 (A 41)) 42 (A 42)) 43 (A 43)) 44 (A 44)) 45 (A 45)) 46 (A 46)) 47 (A 47)) 48 (A 48)) 13 (A 13)) 15 (A 15))) ∧ (cdz = 0) ∧ (pkz = pk) ∧ (r = (-1))))))
def D_X10_push (A : AA) (cd pk : Int32) (p0 : Int32) (Z : AA) (cdz pkz : Int32) (r : Int32) : Prop := ((0 ≤ p0.toInt ∧ p0.toInt ≤ (3 : Int32).toInt) ∧ ∃ n_4 : Nat, ((n_4 : Int) = p0.toInt) ∧ (((¬ ((A 10) n_4).toInt = 1) ∧ (Z = (uA (uA (uA (uA (uA (uA (uA (uA (uA (uA A 41 (A 41)) 42 (A 42)) 43 (A 43)) 44 (A 44)) 45 (A 45)) 46 (A 46)) 47 (A 47)) 48 (A 48)) 13 (A 13)) 15 (A 15))) ∧ (cdz = 0) ∧ (pkz = pk) ∧ (r = (-1))) ∨ (D_X10_push_s34 A pk p0 Z cdz pkz r n_4))) ∨ ((¬ (0 ≤ p0.toInt ∧ p0.toInt ≤ (3 : Int32).toInt)) ∧ (Z = (uA (uA (uA (uA (uA (uA (uA (uA (uA (uA A 41 (A 41)) 42 (A 42)) 43 (A 43)) 44 (A 44)) 45 (A 45)) 46 (A 46)) 47 (A 47)) 48 (A 48)) 13 (A 13)) 15 (A 15))) ∧ (cdz = 0) ∧ (pkz = pk) ∧ (r = (-1)))
def D_X10_refuse (A : AA) (cd pk : Int32) (p0 : Int32) (p1 : Int32) (Z : AA) (cdz pkz : Int32) : Prop :=
  (∃ ur_2 : (Nat → Int32) × (Nat → Int32) × (Nat → Int32) × (Nat → Int32) × (Nat → Int32) × (Nat → Int32) × (Nat → Int32) × Int32, ∃ r_2 : Int32, (D_X10_emit A cd pk p0 (6 : Int32) ((A 43) 24) p1 (-1 : Int32) (0 : Int32) (uA (uA (uA (uA (uA (uA (uA A 41 (ur_2.1)) 42 (ur_2.2.1)) 43 (ur_2.2.2.1)) 44 (ur_2.2.2.2.1)) 45 (ur_2.2.2.2.2.1)) 46 (ur_2.2.2.2.2.2.1)) 47 (ur_2.2.2.2.2.2.2.1)) cd (ur_2.2.2.2.2.2.2.2) r_2) ∧ (I7 (ur_2.1) (ur_2.2.1) (ur_2.2.2.2.1) (ur_2.2.2.2.2.1) (ur_2.2.2.2.2.2.1)) ∧ (0 ≤ ur_2.2.2.2.2.2.2.2.toInt ∧ ur_2.2.2.2.2.2.2.2.toInt ≤ 24) ∧ (-1 ≤ r_2.toInt ∧ r_2.toInt ≤ 23) ∧ (∀ n : Nat, (n : Int) = r_2.toInt → (ur_2.2.1) n = (6 : Int32)) ∧ (((ur_2.2.2.2.1) 24).toInt = ((A 44) 24).toInt ∧ ((ur_2.2.2.2.2.2.1) 24).toInt = ((A 46) 24).toInt) ∧ ∃ v_3 : Int32, (((¬ p1.toInt = 4) ∧ v_3 = 0) ∨ ((p1.toInt = 4) ∧ v_3 = 4)) ∧ ∃ ur_6 : (Nat → Int32) × (Nat → Int32) × (Nat → Int32) × (Nat → Int32) × (Nat → Int32) × (Nat → Int32) × (Nat → Int32), (D_X10_failPair (uA (uA (uA (uA (uA (uA (uA A 41 (ur_2.1)) 42 (ur_2.2.1)) 43 (ur_2.2.2.1)) 44 (ur_2.2.2.2.1)) 45 (ur_2.2.2.2.2.1)) 46 (ur_2.2.2.2.2.2.1)) 47 (ur_2.2.2.2.2.2.2.1)) cd (ur_2.2.2.2.2.2.2.2) p0 (0 : Int32) v_3 (uA (uA (uA (uA (uA (uA (uA (uA (uA (uA (uA (uA (uA (uA A 41 (ur_2.1)) 42 (ur_2.2.1)) 43 (ur_2.2.2.1)) 44 (ur_2.2.2.2.1)) 45 (ur_2.2.2.2.2.1)) 46 (ur_2.2.2.2.2.2.1)) 47 (ur_2.2.2.2.2.2.2.1)) 8 (ur_6.1)) 9 (ur_6.2.1)) 10 (ur_6.2.2.1)) 18 (ur_6.2.2.2.1)) 20 (ur_6.2.2.2.2.1)) 30 (ur_6.2.2.2.2.2.1)) 36 (ur_6.2.2.2.2.2.2)) cd (ur_2.2.2.2.2.2.2.2)) ∧ (I3 (ur_6.1)) ∧ (I4 (ur_6.2.2.1) (ur_6.2.2.2.2.1) (A 29) (A 24) (A 11) (A 12) (A 13)) ∧ (I8 (ur_6.2.2.2.2.1) (ur_6.2.2.2.2.2.1) (A 37) (ur_6.2.2.2.2.2.2)) ∧ Z = (uA (uA (uA (uA (uA (uA (uA (uA (uA (uA (uA (uA (uA (uA A 41 (ur_2.1)) 42 (ur_2.2.1)) 43 (ur_2.2.2.1)) 44 (ur_2.2.2.2.1)) 45 (ur_2.2.2.2.2.1)) 46 (ur_2.2.2.2.2.2.1)) 47 (ur_2.2.2.2.2.2.2.1)) 8 (ur_6.1)) 9 (ur_6.2.1)) 10 (ur_6.2.2.1)) 18 (ur_6.2.2.2.1)) 20 (ur_6.2.2.2.2.1)) 30 (ur_6.2.2.2.2.2.1)) 36 (ur_6.2.2.2.2.2.2)) ∧ cdz = cd ∧ pkz = ur_2.2.2.2.2.2.2.2)
def D_X10_accept (A : AA) (cd pk : Int32) (p0 : Int32) (p1 : Int32) (Z : AA) (cdz pkz : Int32) : Prop :=
  (∃ n_3 : Nat, ((n_3 : Int) = p0.toInt) ∧ ∃ x_4 : Int32, (x_4 = ((A 14) n_3) + p1) ∧ ∃ x_5 : Int32, (x_5 = x_4 - x_4 / 64 * 64) ∧ ∃ g_6 : Nat → Int32, (g_6 = upd (A 14) n_3 x_5) ∧ ∃ g_7 : Nat → Int32, (g_7 = upd (A 19) n_3 0) ∧ Z = (uA (uA A 14 g_6) 19 g_7) ∧ cdz = cd ∧ pkz = pk)
abbrev D_X10_freshSend_s1 (A : AA) (cd : Int32) (Z : AA) (cdz : Int32) (pkz : Int32) (ur_18 : (Nat → Int32) × (Nat → Int32) × (Nat → Int32) × (Nat → Int32) × (Nat → Int32) × (Nat → Int32) × (Nat → Int32) × Int32) (r_18 : Int32) : Prop := (I7 (ur_18.1) (ur_18.2.1) (ur_18.2.2.2.1) (ur_18.2.2.2.2.1) (ur_18.2.2.2.2.2.1)) ∧ (0 ≤ ur_18.2.2.2.2.2.2.2.toInt ∧ ur_18.2.2.2.2.2.2.2.toInt ≤ 24) ∧ (-1 ≤ r_18.toInt ∧ r_18.toInt ≤ 23) ∧ (∀ n : Nat, (n : Int) = r_18.toInt → (ur_18.2.1) n = (6 : Int32)) ∧ (((ur_18.2.2.2.1) 24).toInt = ((A 44) 24).toInt ∧ ((ur_18.2.2.2.2.2.1) 24).toInt = ((A 46) 24).toInt) ∧ (r_18.toInt < 0) ∧ (Z = (uA (uA (uA (uA (uA (uA (uA A 41 (ur_18.1)) 42 (ur_18.2.1)) 43 (ur_18.2.2.1)) 44 (ur_18.2.2.2.1)) 45 (ur_18.2.2.2.2.1)) 46 (ur_18.2.2.2.2.2.1)) 47 (ur_18.2.2.2.2.2.2.1))) ∧ (cdz = cd) ∧ (pkz = ur_18.2.2.2.2.2.2.2)
abbrev D_X10_freshSend_s2 (A : AA) (cd : Int32) (pk : Int32) (p0 : Int32) (Z : AA) (cdz : Int32) (pkz : Int32) (n_1 : Nat) (x_4 : Int32) : Prop := ∃ v_5 : Int32, (((¬ x_4.toInt = 1) ∧ v_5 = 0) ∨ ((x_4.toInt = 1) ∧ v_5 = 1)) ∧ (¬ v_5.toInt = ((A 36) n_1).toInt) ∧ (¬ v_5.toInt = 0) ∧ (((A 30) n_1).toInt = 0) ∧ ∃ ur_18 : (Nat → Int32) × (Nat → Int32) × (Nat → Int32) × (Nat → Int32) × (Nat → Int32) × (Nat → Int32) × (Nat → Int32) × Int32, ∃ r_18 : Int32, (D_X10_emit A cd pk p0 (6 : Int32) ((A 43) 24) (2 : Int32) (-1 : Int32) (0 : Int32) (uA (uA (uA (uA (uA (uA (uA A 41 (ur_18.1)) 42 (ur_18.2.1)) 43 (ur_18.2.2.1)) 44 (ur_18.2.2.2.1)) 45 (ur_18.2.2.2.2.1)) 46 (ur_18.2.2.2.2.2.1)) 47 (ur_18.2.2.2.2.2.2.1)) cd (ur_18.2.2.2.2.2.2.2) r_18) ∧ (D_X10_freshSend_s1 A cd Z cdz pkz ur_18 r_18)
abbrev D_X10_freshSend_s3 (A : AA) (cd : Int32) (Z : AA) (cdz : Int32) (pkz : Int32) (ur_18 : (Nat → Int32) × (Nat → Int32) × (Nat → Int32) × (Nat → Int32) × (Nat → Int32) × (Nat → Int32) × (Nat → Int32) × Int32) (r_18 : Int32) : Prop := (((ur_18.2.2.2.1) 24).toInt = ((A 44) 24).toInt ∧ ((ur_18.2.2.2.2.2.1) 24).toInt = ((A 46) 24).toInt) ∧ (¬ r_18.toInt < 0) ∧ ∃ n_22 : Nat, ((n_22 : Int) = r_18.toInt) ∧ ∃ g_21 : Nat → Int32, (g_21 = upd (ur_18.2.2.2.1) n_22 0) ∧ (Z = (uA (uA (uA (uA (uA (uA (uA (uA A 41 (ur_18.1)) 42 (ur_18.2.1)) 43 (ur_18.2.2.1)) 44 (ur_18.2.2.2.1)) 45 (ur_18.2.2.2.2.1)) 46 (ur_18.2.2.2.2.2.1)) 47 (ur_18.2.2.2.2.2.2.1)) 44 g_21)) ∧ (cdz = cd) ∧ (pkz = ur_18.2.2.2.2.2.2.2)
abbrev D_X10_freshSend_s4 (A : AA) (cd : Int32) (pk : Int32) (p0 : Int32) (Z : AA) (cdz : Int32) (pkz : Int32) (n_1 : Nat) : Prop := (((A 30) n_1).toInt = 0) ∧ ∃ ur_18 : (Nat → Int32) × (Nat → Int32) × (Nat → Int32) × (Nat → Int32) × (Nat → Int32) × (Nat → Int32) × (Nat → Int32) × Int32, ∃ r_18 : Int32, (D_X10_emit A cd pk p0 (6 : Int32) ((A 43) 24) (2 : Int32) (-1 : Int32) (0 : Int32) (uA (uA (uA (uA (uA (uA (uA A 41 (ur_18.1)) 42 (ur_18.2.1)) 43 (ur_18.2.2.1)) 44 (ur_18.2.2.2.1)) 45 (ur_18.2.2.2.2.1)) 46 (ur_18.2.2.2.2.2.1)) 47 (ur_18.2.2.2.2.2.2.1)) cd (ur_18.2.2.2.2.2.2.2) r_18) ∧ (I7 (ur_18.1) (ur_18.2.1) (ur_18.2.2.2.1) (ur_18.2.2.2.2.1) (ur_18.2.2.2.2.2.1)) ∧ (0 ≤ ur_18.2.2.2.2.2.2.2.toInt ∧ ur_18.2.2.2.2.2.2.2.toInt ≤ 24) ∧ (-1 ≤ r_18.toInt ∧ r_18.toInt ≤ 23) ∧ (∀ n : Nat, (n : Int) = r_18.toInt → (ur_18.2.1) n = (6 : Int32)) ∧ (D_X10_freshSend_s3 A cd Z cdz pkz ur_18 r_18)
abbrev D_X10_freshSend_s5 (A : AA) (cd : Int32) (p0 : Int32) (Z : AA) (cdz : Int32) (pkz : Int32) (n_1 : Nat) (g_25 : Nat → Int32) (ur_48 : (Nat → Int32)) (g_52 : Nat → Int32) (ur_53 : (Nat → Int32) × (Nat → Int32)) (ur_55 : (Nat → Int32) × (Nat → Int32) × (Nat → Int32) × (Nat → Int32) × (Nat → Int32) × (Nat → Int32) × (Nat → Int32) × Int32) (ur_61 : (Nat → Int32) × (Nat → Int32)) : Prop := ∃ g_62 : Nat → Int32, (g_62 = upd g_25 n_1 0) ∧ ∃ ur_65 : (Nat → Int32) × (Nat → Int32) × (Nat → Int32) × (Nat → Int32) × (Nat → Int32), (D_X10_dropReceive (uA (uA (uA (uA (uA (uA (uA (uA (uA (uA (uA (uA (uA (uA (uA A 36 g_25) 4 ur_48) 35 g_52) 14 (ur_53.1)) 19 (ur_53.2)) 41 (ur_55.1)) 42 (ur_55.2.1)) 43 (ur_55.2.2.1)) 44 (ur_55.2.2.2.1)) 45 (ur_55.2.2.2.2.1)) 46 (ur_55.2.2.2.2.2.1)) 47 (ur_55.2.2.2.2.2.2.1)) 8 (ur_61.1)) 9 (ur_61.2)) 36 g_62) cd (ur_55.2.2.2.2.2.2.2) p0 (uA (uA (uA (uA (uA (uA (uA (uA (uA (uA (uA (uA (uA (uA (uA (uA (uA (uA (uA (uA A 36 g_25) 4 ur_48) 35 g_52) 14 (ur_53.1)) 19 (ur_53.2)) 41 (ur_55.1)) 42 (ur_55.2.1)) 43 (ur_55.2.2.1)) 44 (ur_55.2.2.2.1)) 45 (ur_55.2.2.2.2.1)) 46 (ur_55.2.2.2.2.2.1)) 47 (ur_55.2.2.2.2.2.2.1)) 8 (ur_61.1)) 9 (ur_61.2)) 36 g_62) 30 (ur_65.1)) 32 (ur_65.2.1)) 33 (ur_65.2.2.1)) 34 (ur_65.2.2.2.1)) 35 (ur_65.2.2.2.2)) cd (ur_55.2.2.2.2.2.2.2)) ∧ (I5 (ur_65.2.1) (ur_65.2.2.1) (ur_65.2.2.2.2)) ∧ (I8 (A 20) (ur_65.1) (A 37) g_62) ∧ (Z = (uA (uA (uA (uA (uA (uA (uA (uA (uA (uA (uA (uA (uA (uA (uA (uA (uA (uA (uA (uA A 36 g_25) 4 ur_48) 35 g_52) 14 (ur_53.1)) 19 (ur_53.2)) 41 (ur_55.1)) 42 (ur_55.2.1)) 43 (ur_55.2.2.1)) 44 (ur_55.2.2.2.1)) 45 (ur_55.2.2.2.2.1)) 46 (ur_55.2.2.2.2.2.1)) 47 (ur_55.2.2.2.2.2.2.1)) 8 (ur_61.1)) 9 (ur_61.2)) 36 g_62) 30 (ur_65.1)) 32 (ur_65.2.1)) 33 (ur_65.2.2.1)) 34 (ur_65.2.2.2.1)) 35 (ur_65.2.2.2.2))) ∧ (cdz = cd) ∧ (pkz = ur_55.2.2.2.2.2.2.2)
abbrev D_X10_freshSend_s6 (A : AA) (cd : Int32) (pk : Int32) (p0 : Int32) (Z : AA) (cdz : Int32) (pkz : Int32) (n_1 : Nat) (g_25 : Nat → Int32) (n_28 : Nat) (ur_48 : (Nat → Int32)) (x_51 : Int32) (g_52 : Nat → Int32) (ur_53 : (Nat → Int32) × (Nat → Int32)) (ur_55 : (Nat → Int32) × (Nat → Int32) × (Nat → Int32) × (Nat → Int32) × (Nat → Int32) × (Nat → Int32) × (Nat → Int32) × Int32) : Prop := (D_X10_ack (uA (uA (uA (uA (uA A 36 g_25) 4 ur_48) 35 g_52) 14 (ur_53.1)) 19 (ur_53.2)) cd pk p0 ((A 43) 24) (uA (uA (uA (uA (uA (uA (uA (uA (uA (uA (uA (uA A 36 g_25) 4 ur_48) 35 g_52) 14 (ur_53.1)) 19 (ur_53.2)) 41 (ur_55.1)) 42 (ur_55.2.1)) 43 (ur_55.2.2.1)) 44 (ur_55.2.2.2.1)) 45 (ur_55.2.2.2.2.1)) 46 (ur_55.2.2.2.2.2.1)) 47 (ur_55.2.2.2.2.2.2.1)) cd (ur_55.2.2.2.2.2.2.2)) ∧ (I7 (ur_55.1) (ur_55.2.1) (ur_55.2.2.2.1) (ur_55.2.2.2.2.1) (ur_55.2.2.2.2.2.1)) ∧ (0 ≤ ur_55.2.2.2.2.2.2.2.toInt ∧ ur_55.2.2.2.2.2.2.2.toInt ≤ 24) ∧ (((ur_55.2.2.2.1) 24).toInt = ((A 44) 24).toInt ∧ ((ur_55.2.2.2.2.2.1) 24).toInt = ((A 46) 24).toInt) ∧ (2 ≤ ((ur_55.2.2.2.2.1) 24).toInt) ∧ ∃ ur_61 : (Nat → Int32) × (Nat → Int32), (D_X10_complete (uA (uA (uA (uA (uA (uA (uA (uA (uA (uA (uA (uA A 36 g_25) 4 ur_48) 35 g_52) 14 (ur_53.1)) 19 (ur_53.2)) 41 (ur_55.1)) 42 (ur_55.2.1)) 43 (ur_55.2.2.1)) 44 (ur_55.2.2.2.1)) 45 (ur_55.2.2.2.2.1)) 46 (ur_55.2.2.2.2.2.1)) 47 (ur_55.2.2.2.2.2.2.1)) cd (ur_55.2.2.2.2.2.2.2) p0 (4 : Int32) ((A 34) n_28) (0 : Int32) x_51 (uA (uA (uA (uA (uA (uA (uA (uA (uA (uA (uA (uA (uA (uA A 36 g_25) 4 ur_48) 35 g_52) 14 (ur_53.1)) 19 (ur_53.2)) 41 (ur_55.1)) 42 (ur_55.2.1)) 43 (ur_55.2.2.1)) 44 (ur_55.2.2.2.1)) 45 (ur_55.2.2.2.2.1)) 46 (ur_55.2.2.2.2.2.1)) 47 (ur_55.2.2.2.2.2.2.1)) 8 (ur_61.1)) 9 (ur_61.2)) cd (ur_55.2.2.2.2.2.2.2)) ∧ (I3 (ur_61.1)) ∧ (D_X10_freshSend_s5 A cd p0 Z cdz pkz n_1 g_25 ur_48 g_52 ur_53 ur_55 ur_61)
abbrev D_X10_freshSend_s7 (A : AA) (cd : Int32) (pk : Int32) (p0 : Int32) (Z : AA) (cdz : Int32) (pkz : Int32) (n_1 : Nat) (g_25 : Nat → Int32) (n_28 : Nat) (ur_48 : (Nat → Int32)) : Prop := ∃ x_51 : Int32, (x_51 = ((A 35) n_28) + ((A 44) 24)) ∧ (x_51.toInt = ((A 35) n_28).toInt + ((A 44) 24).toInt) ∧ ∃ g_52 : Nat → Int32, (g_52 = upd (A 35) n_28 x_51) ∧ ∃ ur_53 : (Nat → Int32) × (Nat → Int32), (D_X10_accept (uA (uA (uA A 36 g_25) 4 ur_48) 35 g_52) cd pk p0 (1 : Int32) (uA (uA (uA (uA (uA A 36 g_25) 4 ur_48) 35 g_52) 14 (ur_53.1)) 19 (ur_53.2)) cd pk) ∧ ∃ ur_55 : (Nat → Int32) × (Nat → Int32) × (Nat → Int32) × (Nat → Int32) × (Nat → Int32) × (Nat → Int32) × (Nat → Int32) × Int32, (D_X10_freshSend_s6 A cd pk p0 Z cdz pkz n_1 g_25 n_28 ur_48 x_51 g_52 ur_53 ur_55)
abbrev D_X10_freshSend_s8 (A : AA) (cd : Int32) (pk : Int32) (p0 : Int32) (Z : AA) (cdz : Int32) (pkz : Int32) (n_1 : Nat) (g_25 : Nat → Int32) (n_28 : Nat) (x_35 : Int32) : Prop := (x_35.toInt = ((A 33) n_28).toInt - ((A 35) n_28).toInt) ∧ (((A 44) 24).toInt ≤ x_35.toInt) ∧ ∃ x_41 : Int32, (x_41 = p0 - p0 / 2 * 2) ∧ (x_41.toInt = p0.toInt % 2) ∧ ∃ x_42 : Int32, (x_42 = 32 * x_41) ∧ (x_42.toInt = 32 * x_41.toInt) ∧ (∃ x_44 : Int32, (x_44 = x_42 + ((A 32) n_28)) ∧ (x_44.toInt = x_42.toInt + ((A 32) n_28).toInt) ∧ ∃ x_46 : Int32, (x_46 = x_44 + ((A 35) n_28)) ∧ (x_46.toInt = x_44.toInt + ((A 35) n_28).toInt) ∧ ∃ ur_48 : (Nat → Int32), (D_X10_takeCells (uA A 36 g_25) cd pk x_46 ((A 44) 24) (uA (uA A 36 g_25) 4 ur_48) cd pk) ∧ (D_X10_freshSend_s7 A cd pk p0 Z cdz pkz n_1 g_25 n_28 ur_48))
abbrev D_X10_freshSend_s9 (A : AA) (cd : Int32) (pk : Int32) (p0 : Int32) (Z : AA) (cdz : Int32) (pkz : Int32) (n_1 : Nat) (x_4 : Int32) : Prop := (x_4 = ((A 45) 24) - ((A 45) 24) / 2 * 2) ∧ ∃ v_5 : Int32, (((¬ x_4.toInt = 1) ∧ v_5 = 0) ∨ ((x_4.toInt = 1) ∧ v_5 = 1)) ∧ (¬ v_5.toInt = ((A 36) n_1).toInt) ∧ ∃ u_10 : Unit, (1 ≤ ((A 30) n_1).toInt) ∧ (((v_5.toInt = 0) ∧ True) ∨ ((¬ v_5.toInt = 0) ∧ (¬ ((A 30) n_1).toInt = 0) ∧ True)) ∧ ∃ x_24 : Int32, ((x_24 = 4 * p0) ∧ (x_24.toInt = 4 * p0.toInt) ∧ ∃ g_25 : Nat → Int32, (g_25 = upd (A 36) n_1 1) ∧ ∃ n_28 : Nat, ((n_28 : Int) = x_24.toInt) ∧ ∃ x_35 : Int32, (x_35 = ((A 33) n_28) - ((A 35) n_28)) ∧ (D_X10_freshSend_s8 A cd pk p0 Z cdz pkz n_1 g_25 n_28 x_35))
abbrev D_X10_freshSend_s10 (A : AA) (cd : Int32) (pk : Int32) (p0 : Int32) (Z : AA) (cdz : Int32) (pkz : Int32) (g_25 : Nat → Int32) (ur_48 : (Nat → Int32)) (g_52 : Nat → Int32) (ur_53 : (Nat → Int32) × (Nat → Int32)) : Prop := ∃ ur_55 : (Nat → Int32) × (Nat → Int32) × (Nat → Int32) × (Nat → Int32) × (Nat → Int32) × (Nat → Int32) × (Nat → Int32) × Int32, (D_X10_ack (uA (uA (uA (uA (uA A 36 g_25) 4 ur_48) 35 g_52) 14 (ur_53.1)) 19 (ur_53.2)) cd pk p0 ((A 43) 24) (uA (uA (uA (uA (uA (uA (uA (uA (uA (uA (uA (uA A 36 g_25) 4 ur_48) 35 g_52) 14 (ur_53.1)) 19 (ur_53.2)) 41 (ur_55.1)) 42 (ur_55.2.1)) 43 (ur_55.2.2.1)) 44 (ur_55.2.2.2.1)) 45 (ur_55.2.2.2.2.1)) 46 (ur_55.2.2.2.2.2.1)) 47 (ur_55.2.2.2.2.2.2.1)) cd (ur_55.2.2.2.2.2.2.2)) ∧ (I7 (ur_55.1) (ur_55.2.1) (ur_55.2.2.2.1) (ur_55.2.2.2.2.1) (ur_55.2.2.2.2.2.1)) ∧ (0 ≤ ur_55.2.2.2.2.2.2.2.toInt ∧ ur_55.2.2.2.2.2.2.2.toInt ≤ 24) ∧ (((ur_55.2.2.2.1) 24).toInt = ((A 44) 24).toInt ∧ ((ur_55.2.2.2.2.2.1) 24).toInt = ((A 46) 24).toInt) ∧ (¬ 2 ≤ ((ur_55.2.2.2.2.1) 24).toInt) ∧ (Z = (uA (uA (uA (uA (uA (uA (uA (uA (uA (uA (uA (uA A 36 g_25) 4 ur_48) 35 g_52) 14 (ur_53.1)) 19 (ur_53.2)) 41 (ur_55.1)) 42 (ur_55.2.1)) 43 (ur_55.2.2.1)) 44 (ur_55.2.2.2.1)) 45 (ur_55.2.2.2.2.1)) 46 (ur_55.2.2.2.2.2.1)) 47 (ur_55.2.2.2.2.2.2.1))) ∧ (cdz = cd) ∧ (pkz = ur_55.2.2.2.2.2.2.2)
abbrev D_X10_freshSend_s11 (A : AA) (cd : Int32) (pk : Int32) (p0 : Int32) (Z : AA) (cdz : Int32) (pkz : Int32) (g_25 : Nat → Int32) (n_28 : Nat) (x_46 : Int32) (ur_48 : (Nat → Int32)) : Prop := (D_X10_takeCells (uA A 36 g_25) cd pk x_46 ((A 44) 24) (uA (uA A 36 g_25) 4 ur_48) cd pk) ∧ ∃ x_51 : Int32, (x_51 = ((A 35) n_28) + ((A 44) 24)) ∧ (x_51.toInt = ((A 35) n_28).toInt + ((A 44) 24).toInt) ∧ ∃ g_52 : Nat → Int32, (g_52 = upd (A 35) n_28 x_51) ∧ ∃ ur_53 : (Nat → Int32) × (Nat → Int32), (D_X10_accept (uA (uA (uA A 36 g_25) 4 ur_48) 35 g_52) cd pk p0 (1 : Int32) (uA (uA (uA (uA (uA A 36 g_25) 4 ur_48) 35 g_52) 14 (ur_53.1)) 19 (ur_53.2)) cd pk) ∧ (D_X10_freshSend_s10 A cd pk p0 Z cdz pkz g_25 ur_48 g_52 ur_53)
abbrev D_X10_freshSend_s12 (A : AA) (cd : Int32) (pk : Int32) (p0 : Int32) (Z : AA) (cdz : Int32) (pkz : Int32) (g_25 : Nat → Int32) (n_28 : Nat) (x_35 : Int32) : Prop := (x_35 = ((A 33) n_28) - ((A 35) n_28)) ∧ (x_35.toInt = ((A 33) n_28).toInt - ((A 35) n_28).toInt) ∧ (((A 44) 24).toInt ≤ x_35.toInt) ∧ ∃ x_41 : Int32, (x_41 = p0 - p0 / 2 * 2) ∧ (x_41.toInt = p0.toInt % 2) ∧ ∃ x_42 : Int32, (x_42 = 32 * x_41) ∧ ((x_42.toInt = 32 * x_41.toInt) ∧ ∃ x_44 : Int32, (x_44 = x_42 + ((A 32) n_28)) ∧ (x_44.toInt = x_42.toInt + ((A 32) n_28).toInt) ∧ ∃ x_46 : Int32, (x_46 = x_44 + ((A 35) n_28)) ∧ (x_46.toInt = x_44.toInt + ((A 35) n_28).toInt) ∧ ∃ ur_48 : (Nat → Int32), (D_X10_freshSend_s11 A cd pk p0 Z cdz pkz g_25 n_28 x_46 ur_48))
abbrev D_X10_freshSend_s13 (A : AA) (cd : Int32) (pk : Int32) (p0 : Int32) (Z : AA) (cdz : Int32) (pkz : Int32) (n_1 : Nat) : Prop := ∃ x_4 : Int32, (x_4 = ((A 45) 24) - ((A 45) 24) / 2 * 2) ∧ ∃ v_5 : Int32, (((¬ x_4.toInt = 1) ∧ v_5 = 0) ∨ ((x_4.toInt = 1) ∧ v_5 = 1)) ∧ (¬ v_5.toInt = ((A 36) n_1).toInt) ∧ ∃ u_10 : Unit, (1 ≤ ((A 30) n_1).toInt) ∧ (((v_5.toInt = 0) ∧ True) ∨ ((¬ v_5.toInt = 0) ∧ (¬ ((A 30) n_1).toInt = 0) ∧ True)) ∧ (∃ x_24 : Int32, (x_24 = 4 * p0) ∧ (x_24.toInt = 4 * p0.toInt) ∧ ∃ g_25 : Nat → Int32, (g_25 = upd (A 36) n_1 1) ∧ ∃ n_28 : Nat, ((n_28 : Int) = x_24.toInt) ∧ ∃ x_35 : Int32, (D_X10_freshSend_s12 A cd pk p0 Z cdz pkz g_25 n_28 x_35))
abbrev D_X10_freshSend_s14 (A : AA) (cd : Int32) (pk : Int32) (p0 : Int32) (Z : AA) (cdz : Int32) (pkz : Int32) (g_25 : Nat → Int32) (ur_69 : (Nat → Int32) × (Nat → Int32) × (Nat → Int32) × (Nat → Int32) × (Nat → Int32) × (Nat → Int32) × (Nat → Int32) × (Nat → Int32) × (Nat → Int32) × (Nat → Int32) × (Nat → Int32) × (Nat → Int32) × (Nat → Int32) × (Nat → Int32) × Int32) : Prop := (D_X10_refuse (uA A 36 g_25) cd pk p0 (4 : Int32) (uA (uA (uA (uA (uA (uA (uA (uA (uA (uA (uA (uA (uA (uA (uA A 36 g_25) 41 (ur_69.1)) 42 (ur_69.2.1)) 43 (ur_69.2.2.1)) 44 (ur_69.2.2.2.1)) 45 (ur_69.2.2.2.2.1)) 46 (ur_69.2.2.2.2.2.1)) 47 (ur_69.2.2.2.2.2.2.1)) 8 (ur_69.2.2.2.2.2.2.2.1)) 9 (ur_69.2.2.2.2.2.2.2.2.1)) 10 (ur_69.2.2.2.2.2.2.2.2.2.1)) 18 (ur_69.2.2.2.2.2.2.2.2.2.2.1)) 20 (ur_69.2.2.2.2.2.2.2.2.2.2.2.1)) 30 (ur_69.2.2.2.2.2.2.2.2.2.2.2.2.1)) 36 (ur_69.2.2.2.2.2.2.2.2.2.2.2.2.2.1)) cd (ur_69.2.2.2.2.2.2.2.2.2.2.2.2.2.2)) ∧ (I3 (ur_69.2.2.2.2.2.2.2.1)) ∧ (I4 (ur_69.2.2.2.2.2.2.2.2.2.1) (ur_69.2.2.2.2.2.2.2.2.2.2.2.1) (A 29) (A 24) (A 11) (A 12) (A 13)) ∧ (I7 (ur_69.1) (ur_69.2.1) (ur_69.2.2.2.1) (ur_69.2.2.2.2.1) (ur_69.2.2.2.2.2.1)) ∧ (I8 (ur_69.2.2.2.2.2.2.2.2.2.2.2.1) (ur_69.2.2.2.2.2.2.2.2.2.2.2.2.1) (A 37) (ur_69.2.2.2.2.2.2.2.2.2.2.2.2.2.1)) ∧ (0 ≤ ur_69.2.2.2.2.2.2.2.2.2.2.2.2.2.2.toInt ∧ ur_69.2.2.2.2.2.2.2.2.2.2.2.2.2.2.toInt ≤ 24) ∧ (Z = (uA (uA (uA (uA (uA (uA (uA (uA (uA (uA (uA (uA (uA (uA (uA A 36 g_25) 41 (ur_69.1)) 42 (ur_69.2.1)) 43 (ur_69.2.2.1)) 44 (ur_69.2.2.2.1)) 45 (ur_69.2.2.2.2.1)) 46 (ur_69.2.2.2.2.2.1)) 47 (ur_69.2.2.2.2.2.2.1)) 8 (ur_69.2.2.2.2.2.2.2.1)) 9 (ur_69.2.2.2.2.2.2.2.2.1)) 10 (ur_69.2.2.2.2.2.2.2.2.2.1)) 18 (ur_69.2.2.2.2.2.2.2.2.2.2.1)) 20 (ur_69.2.2.2.2.2.2.2.2.2.2.2.1)) 30 (ur_69.2.2.2.2.2.2.2.2.2.2.2.2.1)) 36 (ur_69.2.2.2.2.2.2.2.2.2.2.2.2.2.1))) ∧ (cdz = cd) ∧ (pkz = ur_69.2.2.2.2.2.2.2.2.2.2.2.2.2.2)
abbrev D_X10_freshSend_s15 (A : AA) (cd : Int32) (pk : Int32) (p0 : Int32) (Z : AA) (cdz : Int32) (pkz : Int32) (n_1 : Nat) (x_24 : Int32) (g_25 : Nat → Int32) : Prop := (g_25 = upd (A 36) n_1 1) ∧ ∃ n_28 : Nat, ((n_28 : Int) = x_24.toInt) ∧ ∃ x_35 : Int32, (x_35 = ((A 33) n_28) - ((A 35) n_28)) ∧ (x_35.toInt = ((A 33) n_28).toInt - ((A 35) n_28).toInt) ∧ (¬ ((A 44) 24).toInt ≤ x_35.toInt) ∧ ∃ ur_69 : (Nat → Int32) × (Nat → Int32) × (Nat → Int32) × (Nat → Int32) × (Nat → Int32) × (Nat → Int32) × (Nat → Int32) × (Nat → Int32) × (Nat → Int32) × (Nat → Int32) × (Nat → Int32) × (Nat → Int32) × (Nat → Int32) × (Nat → Int32) × Int32, (D_X10_freshSend_s14 A cd pk p0 Z cdz pkz g_25 ur_69)
abbrev D_X10_freshSend_s16 (A : AA) (cd : Int32) (pk : Int32) (p0 : Int32) (Z : AA) (cdz : Int32) (pkz : Int32) : Prop := ∃ n_1 : Nat, ((n_1 : Int) = p0.toInt) ∧ ∃ x_4 : Int32, (x_4 = ((A 45) 24) - ((A 45) 24) / 2 * 2) ∧ ∃ v_5 : Int32, (((¬ x_4.toInt = 1) ∧ v_5 = 0) ∨ ((x_4.toInt = 1) ∧ v_5 = 1)) ∧ ((¬ v_5.toInt = ((A 36) n_1).toInt) ∧ ∃ u_10 : Unit, (1 ≤ ((A 30) n_1).toInt) ∧ (((v_5.toInt = 0) ∧ True) ∨ ((¬ v_5.toInt = 0) ∧ (¬ ((A 30) n_1).toInt = 0) ∧ True)) ∧ ∃ x_24 : Int32, (x_24 = 4 * p0) ∧ (x_24.toInt = 4 * p0.toInt) ∧ ∃ g_25 : Nat → Int32, (D_X10_freshSend_s15 A cd pk p0 Z cdz pkz n_1 x_24 g_25))
def D_X10_freshSend (A : AA) (cd pk : Int32) (p0 : Int32) (Z : AA) (cdz pkz : Int32) : Prop := (∃ n_1 : Nat, ((n_1 : Int) = p0.toInt) ∧ ∃ x_4 : Int32, (x_4 = ((A 45) 24) - ((A 45) 24) / 2 * 2) ∧ (D_X10_freshSend_s2 A cd pk p0 Z cdz pkz n_1 x_4)) ∨ (∃ n_1 : Nat, ((n_1 : Int) = p0.toInt) ∧ ∃ x_4 : Int32, (x_4 = ((A 45) 24) - ((A 45) 24) / 2 * 2) ∧ ∃ v_5 : Int32, (((¬ x_4.toInt = 1) ∧ v_5 = 0) ∨ ((x_4.toInt = 1) ∧ v_5 = 1)) ∧ (¬ v_5.toInt = ((A 36) n_1).toInt) ∧ (¬ v_5.toInt = 0) ∧ (D_X10_freshSend_s4 A cd pk p0 Z cdz pkz n_1)) ∨ (∃ n_1 : Nat, ((n_1 : Int) = p0.toInt) ∧ ∃ x_4 : Int32, (D_X10_freshSend_s9 A cd pk p0 Z cdz pkz n_1 x_4)) ∨ (∃ n_1 : Nat, ((n_1 : Int) = p0.toInt) ∧ (D_X10_freshSend_s13 A cd pk p0 Z cdz pkz n_1)) ∨ (D_X10_freshSend_s16 A cd pk p0 Z cdz pkz) ∨ (∃ n_1 : Nat, (((n_1 : Int) = p0.toInt) ∧ ∃ x_4 : Int32, (x_4 = ((A 45) 24) - ((A 45) 24) / 2 * 2) ∧ ∃ v_5 : Int32, (((¬ x_4.toInt = 1) ∧ v_5 = 0) ∨ ((x_4.toInt = 1) ∧ v_5 = 1)) ∧ (v_5.toInt = ((A 36) n_1).toInt) ∧ (Z = A) ∧ (cdz = cd) ∧ (pkz = pk)))
abbrev D_X10_freshAdd_s1 (A : AA) (cd : Int32) (pk : Int32) (p0 : Int32) (Z : AA) (cdz : Int32) (pkz : Int32) (n_10 : Nat) (g_17 : Nat → Int32) (g_20 : Nat → Int32) (g_22 : Nat → Int32) (g_23 : Nat → Int32) (g_34 : Nat → Int32) (g_37 : Nat → Int32) (ur_38 : (Nat → Int32) × (Nat → Int32) × (Nat → Int32) × (Nat → Int32) × (Nat → Int32) × (Nat → Int32) × (Nat → Int32) × (Nat → Int32) × Int32) : Prop := (D_X10_replyOld (uA (uA (uA (uA (uA (uA A 38 g_17) 39 g_20) 38 g_22) 39 g_23) 37 g_34) 4 g_37) cd pk p0 ((A 4) n_10) (uA (uA (uA (uA (uA (uA (uA (uA (uA (uA (uA (uA (uA (uA A 38 g_17) 39 g_20) 38 g_22) 39 g_23) 37 g_34) 4 g_37) 41 (ur_38.1)) 42 (ur_38.2.1)) 43 (ur_38.2.2.1)) 44 (ur_38.2.2.2.1)) 45 (ur_38.2.2.2.2.1)) 46 (ur_38.2.2.2.2.2.1)) 47 (ur_38.2.2.2.2.2.2.1)) 48 (ur_38.2.2.2.2.2.2.2.1)) cd (ur_38.2.2.2.2.2.2.2.2)) ∧ (I7 (ur_38.1) (ur_38.2.1) (ur_38.2.2.2.1) (ur_38.2.2.2.2.1) (ur_38.2.2.2.2.2.1)) ∧ (0 ≤ ur_38.2.2.2.2.2.2.2.2.toInt ∧ ur_38.2.2.2.2.2.2.2.2.toInt ≤ 24) ∧ (((ur_38.2.2.2.1) 24).toInt = ((A 44) 24).toInt ∧ ((ur_38.2.2.2.2.2.1) 24).toInt = ((A 46) 24).toInt) ∧ ∃ ur_39 : (Nat → Int32) × (Nat → Int32), (D_X10_accept (uA (uA (uA (uA (uA (uA (uA (uA (uA (uA (uA (uA (uA (uA A 38 g_17) 39 g_20) 38 g_22) 39 g_23) 37 g_34) 4 g_37) 41 (ur_38.1)) 42 (ur_38.2.1)) 43 (ur_38.2.2.1)) 44 (ur_38.2.2.2.1)) 45 (ur_38.2.2.2.2.1)) 46 (ur_38.2.2.2.2.2.1)) 47 (ur_38.2.2.2.2.2.2.1)) 48 (ur_38.2.2.2.2.2.2.2.1)) cd (ur_38.2.2.2.2.2.2.2.2) p0 (1 : Int32) (uA (uA (uA (uA (uA (uA (uA (uA (uA (uA (uA (uA (uA (uA (uA (uA A 38 g_17) 39 g_20) 38 g_22) 39 g_23) 37 g_34) 4 g_37) 41 (ur_38.1)) 42 (ur_38.2.1)) 43 (ur_38.2.2.1)) 44 (ur_38.2.2.2.1)) 45 (ur_38.2.2.2.2.1)) 46 (ur_38.2.2.2.2.2.1)) 47 (ur_38.2.2.2.2.2.2.1)) 48 (ur_38.2.2.2.2.2.2.2.1)) 14 (ur_39.1)) 19 (ur_39.2)) cd (ur_38.2.2.2.2.2.2.2.2)) ∧ (Z = (uA (uA (uA (uA (uA (uA (uA (uA (uA (uA (uA (uA (uA (uA A 4 g_37) 14 (ur_39.1)) 19 (ur_39.2)) 37 g_34) 38 g_22) 39 g_23) 41 (ur_38.1)) 42 (ur_38.2.1)) 43 (ur_38.2.2.1)) 44 (ur_38.2.2.2.1)) 45 (ur_38.2.2.2.2.1)) 46 (ur_38.2.2.2.2.2.1)) 47 (ur_38.2.2.2.2.2.2.1)) 48 (ur_38.2.2.2.2.2.2.2.1))) ∧ (cdz = cd) ∧ (pkz = ur_38.2.2.2.2.2.2.2.2)
abbrev D_X10_freshAdd_s2 (A : AA) (cd : Int32) (pk : Int32) (p0 : Int32) (Z : AA) (cdz : Int32) (pkz : Int32) (n_1 : Nat) (n_10 : Nat) (g_17 : Nat → Int32) (g_20 : Nat → Int32) (g_22 : Nat → Int32) (g_23 : Nat → Int32) (v_24 : Int32) : Prop := (((2 ≤ ((A 37) n_1).toInt) ∧ v_24 = 2) ∨ ((¬ 2 ≤ ((A 37) n_1).toInt) ∧ ∃ x_32 : Int32, (x_32 = ((A 37) n_1) + 1) ∧ (x_32.toInt = ((A 37) n_1).toInt + 1) ∧ v_24 = x_32)) ∧ ∃ g_34 : Nat → Int32, (g_34 = upd (A 37) n_1 v_24) ∧ ∃ x_36 : Int32, (x_36 = ((A 4) n_10) + ((A 47) 24)) ∧ ∃ g_37 : Nat → Int32, (g_37 = upd (A 4) n_10 x_36) ∧ ∃ ur_38 : (Nat → Int32) × (Nat → Int32) × (Nat → Int32) × (Nat → Int32) × (Nat → Int32) × (Nat → Int32) × (Nat → Int32) × (Nat → Int32) × Int32, (D_X10_freshAdd_s1 A cd pk p0 Z cdz pkz n_10 g_17 g_20 g_22 g_23 g_34 g_37 ur_38)
abbrev D_X10_freshAdd_s3 (A : AA) (cd : Int32) (pk : Int32) (p0 : Int32) (Z : AA) (cdz : Int32) (pkz : Int32) (n_1 : Nat) (n_10 : Nat) (x_11 : Int32) : Prop := ∃ x_12 : Int32, (x_12 = x_11 + 1) ∧ (x_12.toInt = x_11.toInt + 1) ∧ ∃ n_15 : Nat, ((n_15 : Int) = x_11.toInt) ∧ ∃ n_18 : Nat, ((n_18 : Int) = x_12.toInt) ∧ ∃ g_17 : Nat → Int32, ((g_17 = upd (A 38) n_18 ((A 38) n_15)) ∧ ∃ g_20 : Nat → Int32, (g_20 = upd (A 39) n_18 ((A 39) n_15)) ∧ ∃ g_22 : Nat → Int32, (g_22 = upd g_17 n_15 ((A 43) 24)) ∧ ∃ g_23 : Nat → Int32, (g_23 = upd g_20 n_15 ((A 4) n_10)) ∧ ∃ v_24 : Int32, (D_X10_freshAdd_s2 A cd pk p0 Z cdz pkz n_1 n_10 g_17 g_20 g_22 g_23 v_24))
def D_X10_freshAdd (A : AA) (cd pk : Int32) (p0 : Int32) (Z : AA) (cdz pkz : Int32) : Prop := ∃ n_1 : Nat, ((n_1 : Int) = p0.toInt) ∧ ∃ x_2 : Int32, (x_2 = p0 - p0 / 2 * 2) ∧ (x_2.toInt = p0.toInt % 2) ∧ ∃ x_3 : Int32, (x_3 = 32 * x_2) ∧ (x_3.toInt = 32 * x_2.toInt) ∧ (∃ x_7 : Int32, (x_7 = x_3 + ((A 46) 24)) ∧ (x_7.toInt = x_3.toInt + ((A 46) 24).toInt) ∧ ∃ n_10 : Nat, ((n_10 : Int) = x_7.toInt) ∧ ∃ x_11 : Int32, (x_11 = 2 * p0) ∧ (x_11.toInt = 2 * p0.toInt) ∧ (D_X10_freshAdd_s3 A cd pk p0 Z cdz pkz n_1 n_10 x_11))
abbrev D_X10_fresh_s1 (A : AA) (cd : Int32) (pk : Int32) (p0 : Int32) (Z : AA) (cdz : Int32) (pkz : Int32) (r_16 : Int32) : Prop := (¬ r_16.toInt = 0) ∧ ∃ ur_20 : (Nat → Int32) × (Nat → Int32) × (Nat → Int32) × (Nat → Int32) × (Nat → Int32) × (Nat → Int32) × (Nat → Int32) × (Nat → Int32) × (Nat → Int32) × (Nat → Int32) × (Nat → Int32) × (Nat → Int32) × (Nat → Int32) × (Nat → Int32) × Int32, (D_X10_freshAdd A cd pk p0 (uA (uA (uA (uA (uA (uA (uA (uA (uA (uA (uA (uA (uA (uA A 4 (ur_20.1)) 14 (ur_20.2.1)) 19 (ur_20.2.2.1)) 37 (ur_20.2.2.2.1)) 38 (ur_20.2.2.2.2.1)) 39 (ur_20.2.2.2.2.2.1)) 41 (ur_20.2.2.2.2.2.2.1)) 42 (ur_20.2.2.2.2.2.2.2.1)) 43 (ur_20.2.2.2.2.2.2.2.2.1)) 44 (ur_20.2.2.2.2.2.2.2.2.2.1)) 45 (ur_20.2.2.2.2.2.2.2.2.2.2.1)) 46 (ur_20.2.2.2.2.2.2.2.2.2.2.2.1)) 47 (ur_20.2.2.2.2.2.2.2.2.2.2.2.2.1)) 48 (ur_20.2.2.2.2.2.2.2.2.2.2.2.2.2.1)) cd (ur_20.2.2.2.2.2.2.2.2.2.2.2.2.2.2)) ∧ (I7 (ur_20.2.2.2.2.2.2.1) (ur_20.2.2.2.2.2.2.2.1) (ur_20.2.2.2.2.2.2.2.2.2.1) (ur_20.2.2.2.2.2.2.2.2.2.2.1) (ur_20.2.2.2.2.2.2.2.2.2.2.2.1)) ∧ (I8 (A 20) (A 30) (ur_20.2.2.2.1) (A 36)) ∧ (0 ≤ ur_20.2.2.2.2.2.2.2.2.2.2.2.2.2.2.toInt ∧ ur_20.2.2.2.2.2.2.2.2.2.2.2.2.2.2.toInt ≤ 24) ∧ (Z = (uA (uA (uA (uA (uA (uA (uA (uA (uA (uA (uA (uA (uA (uA A 4 (ur_20.1)) 14 (ur_20.2.1)) 19 (ur_20.2.2.1)) 37 (ur_20.2.2.2.1)) 38 (ur_20.2.2.2.2.1)) 39 (ur_20.2.2.2.2.2.1)) 41 (ur_20.2.2.2.2.2.2.1)) 42 (ur_20.2.2.2.2.2.2.2.1)) 43 (ur_20.2.2.2.2.2.2.2.2.1)) 44 (ur_20.2.2.2.2.2.2.2.2.2.1)) 45 (ur_20.2.2.2.2.2.2.2.2.2.2.1)) 46 (ur_20.2.2.2.2.2.2.2.2.2.2.2.1)) 47 (ur_20.2.2.2.2.2.2.2.2.2.2.2.2.1)) 48 (ur_20.2.2.2.2.2.2.2.2.2.2.2.2.2.1))) ∧ (cdz = cd) ∧ (pkz = ur_20.2.2.2.2.2.2.2.2.2.2.2.2.2.2)
abbrev D_X10_fresh_s2 (A : AA) (cd : Int32) (pk : Int32) (p0 : Int32) (Z : AA) (cdz : Int32) (pkz : Int32) (ur_21 : (Nat → Int32) × (Nat → Int32) × (Nat → Int32) × (Nat → Int32) × (Nat → Int32) × (Nat → Int32) × (Nat → Int32) × (Nat → Int32) × (Nat → Int32) × (Nat → Int32) × (Nat → Int32) × (Nat → Int32) × (Nat → Int32) × (Nat → Int32) × Int32) : Prop := (D_X10_refuse A cd pk p0 (3 : Int32) (uA (uA (uA (uA (uA (uA (uA (uA (uA (uA (uA (uA (uA (uA A 41 (ur_21.1)) 42 (ur_21.2.1)) 43 (ur_21.2.2.1)) 44 (ur_21.2.2.2.1)) 45 (ur_21.2.2.2.2.1)) 46 (ur_21.2.2.2.2.2.1)) 47 (ur_21.2.2.2.2.2.2.1)) 8 (ur_21.2.2.2.2.2.2.2.1)) 9 (ur_21.2.2.2.2.2.2.2.2.1)) 10 (ur_21.2.2.2.2.2.2.2.2.2.1)) 18 (ur_21.2.2.2.2.2.2.2.2.2.2.1)) 20 (ur_21.2.2.2.2.2.2.2.2.2.2.2.1)) 30 (ur_21.2.2.2.2.2.2.2.2.2.2.2.2.1)) 36 (ur_21.2.2.2.2.2.2.2.2.2.2.2.2.2.1)) cd (ur_21.2.2.2.2.2.2.2.2.2.2.2.2.2.2)) ∧ (I3 (ur_21.2.2.2.2.2.2.2.1)) ∧ (I4 (ur_21.2.2.2.2.2.2.2.2.2.1) (ur_21.2.2.2.2.2.2.2.2.2.2.2.1) (A 29) (A 24) (A 11) (A 12) (A 13)) ∧ (I7 (ur_21.1) (ur_21.2.1) (ur_21.2.2.2.1) (ur_21.2.2.2.2.1) (ur_21.2.2.2.2.2.1)) ∧ (I8 (ur_21.2.2.2.2.2.2.2.2.2.2.2.1) (ur_21.2.2.2.2.2.2.2.2.2.2.2.2.1) (A 37) (ur_21.2.2.2.2.2.2.2.2.2.2.2.2.2.1)) ∧ (0 ≤ ur_21.2.2.2.2.2.2.2.2.2.2.2.2.2.2.toInt ∧ ur_21.2.2.2.2.2.2.2.2.2.2.2.2.2.2.toInt ≤ 24) ∧ (Z = (uA (uA (uA (uA (uA (uA (uA (uA (uA (uA (uA (uA (uA (uA A 41 (ur_21.1)) 42 (ur_21.2.1)) 43 (ur_21.2.2.1)) 44 (ur_21.2.2.2.1)) 45 (ur_21.2.2.2.2.1)) 46 (ur_21.2.2.2.2.2.1)) 47 (ur_21.2.2.2.2.2.2.1)) 8 (ur_21.2.2.2.2.2.2.2.1)) 9 (ur_21.2.2.2.2.2.2.2.2.1)) 10 (ur_21.2.2.2.2.2.2.2.2.2.1)) 18 (ur_21.2.2.2.2.2.2.2.2.2.2.1)) 20 (ur_21.2.2.2.2.2.2.2.2.2.2.2.1)) 30 (ur_21.2.2.2.2.2.2.2.2.2.2.2.2.1)) 36 (ur_21.2.2.2.2.2.2.2.2.2.2.2.2.2.1))) ∧ (cdz = cd) ∧ (pkz = ur_21.2.2.2.2.2.2.2.2.2.2.2.2.2.2)
abbrev D_X10_fresh_s3 (A : AA) (cd : Int32) (pk : Int32) (p0 : Int32) (Z : AA) (cdz : Int32) (pkz : Int32) : Prop := (¬ ((A 42) 24).toInt = 3) ∧ (¬ ((A 42) 24).toInt = 1) ∧ (¬ ((A 42) 24).toInt = 2) ∧ ∃ r_16 : Int32, (D_X10_allows A cd pk p0 ((A 45) 24) ((A 46) 24) ((A 44) 24) (4 : Int32) r_16) ∧ (r_16 = 0 ∨ r_16 = 1) ∧ (r_16.toInt = 0) ∧ ∃ ur_21 : (Nat → Int32) × (Nat → Int32) × (Nat → Int32) × (Nat → Int32) × (Nat → Int32) × (Nat → Int32) × (Nat → Int32) × (Nat → Int32) × (Nat → Int32) × (Nat → Int32) × (Nat → Int32) × (Nat → Int32) × (Nat → Int32) × (Nat → Int32) × Int32, (D_X10_fresh_s2 A cd pk p0 Z cdz pkz ur_21)
abbrev D_X10_fresh_s4 (A : AA) (cd : Int32) (pk : Int32) (p0 : Int32) (Z : AA) (cdz : Int32) (pkz : Int32) : Prop := (¬ ((A 42) 24).toInt = 2) ∧ ∃ ur_26 : (Nat → Int32) × (Nat → Int32) × (Nat → Int32) × (Nat → Int32) × (Nat → Int32) × (Nat → Int32) × (Nat → Int32) × (Nat → Int32) × (Nat → Int32) × (Nat → Int32) × (Nat → Int32) × (Nat → Int32) × (Nat → Int32) × (Nat → Int32) × Int32, (D_X10_freshAdd A cd pk p0 (uA (uA (uA (uA (uA (uA (uA (uA (uA (uA (uA (uA (uA (uA A 4 (ur_26.1)) 14 (ur_26.2.1)) 19 (ur_26.2.2.1)) 37 (ur_26.2.2.2.1)) 38 (ur_26.2.2.2.2.1)) 39 (ur_26.2.2.2.2.2.1)) 41 (ur_26.2.2.2.2.2.2.1)) 42 (ur_26.2.2.2.2.2.2.2.1)) 43 (ur_26.2.2.2.2.2.2.2.2.1)) 44 (ur_26.2.2.2.2.2.2.2.2.2.1)) 45 (ur_26.2.2.2.2.2.2.2.2.2.2.1)) 46 (ur_26.2.2.2.2.2.2.2.2.2.2.2.1)) 47 (ur_26.2.2.2.2.2.2.2.2.2.2.2.2.1)) 48 (ur_26.2.2.2.2.2.2.2.2.2.2.2.2.2.1)) cd (ur_26.2.2.2.2.2.2.2.2.2.2.2.2.2.2)) ∧ (I7 (ur_26.2.2.2.2.2.2.1) (ur_26.2.2.2.2.2.2.2.1) (ur_26.2.2.2.2.2.2.2.2.2.1) (ur_26.2.2.2.2.2.2.2.2.2.2.1) (ur_26.2.2.2.2.2.2.2.2.2.2.2.1)) ∧ (I8 (A 20) (A 30) (ur_26.2.2.2.1) (A 36)) ∧ (0 ≤ ur_26.2.2.2.2.2.2.2.2.2.2.2.2.2.2.toInt ∧ ur_26.2.2.2.2.2.2.2.2.2.2.2.2.2.2.toInt ≤ 24) ∧ (Z = (uA (uA (uA (uA (uA (uA (uA (uA (uA (uA (uA (uA (uA (uA A 4 (ur_26.1)) 14 (ur_26.2.1)) 19 (ur_26.2.2.1)) 37 (ur_26.2.2.2.1)) 38 (ur_26.2.2.2.2.1)) 39 (ur_26.2.2.2.2.2.1)) 41 (ur_26.2.2.2.2.2.2.1)) 42 (ur_26.2.2.2.2.2.2.2.1)) 43 (ur_26.2.2.2.2.2.2.2.2.1)) 44 (ur_26.2.2.2.2.2.2.2.2.2.1)) 45 (ur_26.2.2.2.2.2.2.2.2.2.2.1)) 46 (ur_26.2.2.2.2.2.2.2.2.2.2.2.1)) 47 (ur_26.2.2.2.2.2.2.2.2.2.2.2.2.1)) 48 (ur_26.2.2.2.2.2.2.2.2.2.2.2.2.2.1))) ∧ (cdz = cd) ∧ (pkz = ur_26.2.2.2.2.2.2.2.2.2.2.2.2.2.2)
abbrev D_X10_fresh_s5 (A : AA) (cd : Int32) (p0 : Int32) (Z : AA) (cdz : Int32) (pkz : Int32) (ur_27 : (Nat → Int32) × (Nat → Int32) × (Nat → Int32) × (Nat → Int32) × (Nat → Int32) × (Nat → Int32) × (Nat → Int32) × (Nat → Int32) × Int32) (x_28 : Int32) : Prop := (x_28.toInt = ((A 44) 24).toInt + 3) ∧ ∃ x_29 : Int32, (x_29 = x_28 / 4) ∧ (x_29.toInt = x_28.toInt / 4) ∧ ∃ ur_30 : (Nat → Int32) × (Nat → Int32), (D_X10_accept (uA (uA (uA (uA (uA (uA (uA (uA A 41 (ur_27.1)) 42 (ur_27.2.1)) 43 (ur_27.2.2.1)) 44 (ur_27.2.2.2.1)) 45 (ur_27.2.2.2.2.1)) 46 (ur_27.2.2.2.2.2.1)) 47 (ur_27.2.2.2.2.2.2.1)) 48 (ur_27.2.2.2.2.2.2.2.1)) cd (ur_27.2.2.2.2.2.2.2.2) p0 x_29 (uA (uA (uA (uA (uA (uA (uA (uA (uA (uA A 41 (ur_27.1)) 42 (ur_27.2.1)) 43 (ur_27.2.2.1)) 44 (ur_27.2.2.2.1)) 45 (ur_27.2.2.2.2.1)) 46 (ur_27.2.2.2.2.2.1)) 47 (ur_27.2.2.2.2.2.2.1)) 48 (ur_27.2.2.2.2.2.2.2.1)) 14 (ur_30.1)) 19 (ur_30.2)) cd (ur_27.2.2.2.2.2.2.2.2)) ∧ (Z = (uA (uA (uA (uA (uA (uA (uA (uA (uA (uA A 41 (ur_27.1)) 42 (ur_27.2.1)) 43 (ur_27.2.2.1)) 44 (ur_27.2.2.2.1)) 45 (ur_27.2.2.2.2.1)) 46 (ur_27.2.2.2.2.2.1)) 47 (ur_27.2.2.2.2.2.2.1)) 48 (ur_27.2.2.2.2.2.2.2.1)) 14 (ur_30.1)) 19 (ur_30.2))) ∧ (cdz = cd) ∧ (pkz = ur_27.2.2.2.2.2.2.2.2)
abbrev D_X10_fresh_s6 (A : AA) (cd : Int32) (pk : Int32) (p0 : Int32) (Z : AA) (cdz : Int32) (pkz : Int32) (r_22 : Int32) : Prop := (¬ r_22.toInt = 0) ∧ (((A 42) 24).toInt = 2) ∧ ∃ ur_27 : (Nat → Int32) × (Nat → Int32) × (Nat → Int32) × (Nat → Int32) × (Nat → Int32) × (Nat → Int32) × (Nat → Int32) × (Nat → Int32) × Int32, (D_X10_reads A cd pk p0 (uA (uA (uA (uA (uA (uA (uA (uA A 41 (ur_27.1)) 42 (ur_27.2.1)) 43 (ur_27.2.2.1)) 44 (ur_27.2.2.2.1)) 45 (ur_27.2.2.2.2.1)) 46 (ur_27.2.2.2.2.2.1)) 47 (ur_27.2.2.2.2.2.2.1)) 48 (ur_27.2.2.2.2.2.2.2.1)) cd (ur_27.2.2.2.2.2.2.2.2)) ∧ (I7 (ur_27.1) (ur_27.2.1) (ur_27.2.2.2.1) (ur_27.2.2.2.2.1) (ur_27.2.2.2.2.2.1)) ∧ (0 ≤ ur_27.2.2.2.2.2.2.2.2.toInt ∧ ur_27.2.2.2.2.2.2.2.2.toInt ≤ 24) ∧ ∃ x_28 : Int32, (x_28 = ((A 44) 24) + 3) ∧ (D_X10_fresh_s5 A cd p0 Z cdz pkz ur_27 x_28)
abbrev D_X10_fresh_s7 (A : AA) (cd : Int32) (pk : Int32) (p0 : Int32) (Z : AA) (cdz : Int32) (pkz : Int32) (ur_31 : (Nat → Int32) × (Nat → Int32) × (Nat → Int32) × (Nat → Int32) × (Nat → Int32) × (Nat → Int32) × (Nat → Int32) × (Nat → Int32) × (Nat → Int32) × (Nat → Int32) × (Nat → Int32) × (Nat → Int32) × (Nat → Int32) × (Nat → Int32) × Int32) : Prop := (D_X10_refuse A cd pk p0 (3 : Int32) (uA (uA (uA (uA (uA (uA (uA (uA (uA (uA (uA (uA (uA (uA A 41 (ur_31.1)) 42 (ur_31.2.1)) 43 (ur_31.2.2.1)) 44 (ur_31.2.2.2.1)) 45 (ur_31.2.2.2.2.1)) 46 (ur_31.2.2.2.2.2.1)) 47 (ur_31.2.2.2.2.2.2.1)) 8 (ur_31.2.2.2.2.2.2.2.1)) 9 (ur_31.2.2.2.2.2.2.2.2.1)) 10 (ur_31.2.2.2.2.2.2.2.2.2.1)) 18 (ur_31.2.2.2.2.2.2.2.2.2.2.1)) 20 (ur_31.2.2.2.2.2.2.2.2.2.2.2.1)) 30 (ur_31.2.2.2.2.2.2.2.2.2.2.2.2.1)) 36 (ur_31.2.2.2.2.2.2.2.2.2.2.2.2.2.1)) cd (ur_31.2.2.2.2.2.2.2.2.2.2.2.2.2.2)) ∧ (I3 (ur_31.2.2.2.2.2.2.2.1)) ∧ (I4 (ur_31.2.2.2.2.2.2.2.2.2.1) (ur_31.2.2.2.2.2.2.2.2.2.2.2.1) (A 29) (A 24) (A 11) (A 12) (A 13)) ∧ (I7 (ur_31.1) (ur_31.2.1) (ur_31.2.2.2.1) (ur_31.2.2.2.2.1) (ur_31.2.2.2.2.2.1)) ∧ (I8 (ur_31.2.2.2.2.2.2.2.2.2.2.2.1) (ur_31.2.2.2.2.2.2.2.2.2.2.2.2.1) (A 37) (ur_31.2.2.2.2.2.2.2.2.2.2.2.2.2.1)) ∧ (0 ≤ ur_31.2.2.2.2.2.2.2.2.2.2.2.2.2.2.toInt ∧ ur_31.2.2.2.2.2.2.2.2.2.2.2.2.2.2.toInt ≤ 24) ∧ (Z = (uA (uA (uA (uA (uA (uA (uA (uA (uA (uA (uA (uA (uA (uA A 41 (ur_31.1)) 42 (ur_31.2.1)) 43 (ur_31.2.2.1)) 44 (ur_31.2.2.2.1)) 45 (ur_31.2.2.2.2.1)) 46 (ur_31.2.2.2.2.2.1)) 47 (ur_31.2.2.2.2.2.2.1)) 8 (ur_31.2.2.2.2.2.2.2.1)) 9 (ur_31.2.2.2.2.2.2.2.2.1)) 10 (ur_31.2.2.2.2.2.2.2.2.2.1)) 18 (ur_31.2.2.2.2.2.2.2.2.2.2.1)) 20 (ur_31.2.2.2.2.2.2.2.2.2.2.2.1)) 30 (ur_31.2.2.2.2.2.2.2.2.2.2.2.2.1)) 36 (ur_31.2.2.2.2.2.2.2.2.2.2.2.2.2.1))) ∧ (cdz = cd) ∧ (pkz = ur_31.2.2.2.2.2.2.2.2.2.2.2.2.2.2)
abbrev D_X10_fresh_s8 (A : AA) (cd : Int32) (pk : Int32) (p0 : Int32) (Z : AA) (cdz : Int32) (pkz : Int32) : Prop := (¬ ((A 42) 24).toInt = 3) ∧ (¬ ((A 42) 24).toInt = 1) ∧ (((A 42) 24).toInt = 2) ∧ ∃ r_22 : Int32, (D_X10_allows A cd pk p0 ((A 45) 24) ((A 46) 24) ((A 44) 24) (2 : Int32) r_22) ∧ (r_22 = 0 ∨ r_22 = 1) ∧ (r_22.toInt = 0) ∧ ∃ ur_31 : (Nat → Int32) × (Nat → Int32) × (Nat → Int32) × (Nat → Int32) × (Nat → Int32) × (Nat → Int32) × (Nat → Int32) × (Nat → Int32) × (Nat → Int32) × (Nat → Int32) × (Nat → Int32) × (Nat → Int32) × (Nat → Int32) × (Nat → Int32) × Int32, (D_X10_fresh_s7 A cd pk p0 Z cdz pkz ur_31)
abbrev D_X10_fresh_s9 (A : AA) (cd : Int32) (pk : Int32) (p0 : Int32) (Z : AA) (cdz : Int32) (pkz : Int32) : Prop := (¬ ((A 42) 24).toInt = 1) ∧ ∃ ur_36 : (Nat → Int32) × (Nat → Int32) × (Nat → Int32) × (Nat → Int32) × (Nat → Int32) × (Nat → Int32) × (Nat → Int32) × (Nat → Int32) × (Nat → Int32) × (Nat → Int32) × (Nat → Int32) × (Nat → Int32) × (Nat → Int32) × (Nat → Int32) × Int32, (D_X10_freshAdd A cd pk p0 (uA (uA (uA (uA (uA (uA (uA (uA (uA (uA (uA (uA (uA (uA A 4 (ur_36.1)) 14 (ur_36.2.1)) 19 (ur_36.2.2.1)) 37 (ur_36.2.2.2.1)) 38 (ur_36.2.2.2.2.1)) 39 (ur_36.2.2.2.2.2.1)) 41 (ur_36.2.2.2.2.2.2.1)) 42 (ur_36.2.2.2.2.2.2.2.1)) 43 (ur_36.2.2.2.2.2.2.2.2.1)) 44 (ur_36.2.2.2.2.2.2.2.2.2.1)) 45 (ur_36.2.2.2.2.2.2.2.2.2.2.1)) 46 (ur_36.2.2.2.2.2.2.2.2.2.2.2.1)) 47 (ur_36.2.2.2.2.2.2.2.2.2.2.2.2.1)) 48 (ur_36.2.2.2.2.2.2.2.2.2.2.2.2.2.1)) cd (ur_36.2.2.2.2.2.2.2.2.2.2.2.2.2.2)) ∧ (I7 (ur_36.2.2.2.2.2.2.1) (ur_36.2.2.2.2.2.2.2.1) (ur_36.2.2.2.2.2.2.2.2.2.1) (ur_36.2.2.2.2.2.2.2.2.2.2.1) (ur_36.2.2.2.2.2.2.2.2.2.2.2.1)) ∧ (I8 (A 20) (A 30) (ur_36.2.2.2.1) (A 36)) ∧ (0 ≤ ur_36.2.2.2.2.2.2.2.2.2.2.2.2.2.2.toInt ∧ ur_36.2.2.2.2.2.2.2.2.2.2.2.2.2.2.toInt ≤ 24) ∧ (Z = (uA (uA (uA (uA (uA (uA (uA (uA (uA (uA (uA (uA (uA (uA A 4 (ur_36.1)) 14 (ur_36.2.1)) 19 (ur_36.2.2.1)) 37 (ur_36.2.2.2.1)) 38 (ur_36.2.2.2.2.1)) 39 (ur_36.2.2.2.2.2.1)) 41 (ur_36.2.2.2.2.2.2.1)) 42 (ur_36.2.2.2.2.2.2.2.1)) 43 (ur_36.2.2.2.2.2.2.2.2.1)) 44 (ur_36.2.2.2.2.2.2.2.2.2.1)) 45 (ur_36.2.2.2.2.2.2.2.2.2.2.1)) 46 (ur_36.2.2.2.2.2.2.2.2.2.2.2.1)) 47 (ur_36.2.2.2.2.2.2.2.2.2.2.2.2.1)) 48 (ur_36.2.2.2.2.2.2.2.2.2.2.2.2.2.1))) ∧ (cdz = cd) ∧ (pkz = ur_36.2.2.2.2.2.2.2.2.2.2.2.2.2.2)
abbrev D_X10_fresh_s10 (A : AA) (cd : Int32) (pk : Int32) (p0 : Int32) (Z : AA) (cdz : Int32) (pkz : Int32) (ur_41 : (Nat → Int32)) (ur_42 : (Nat → Int32) × (Nat → Int32)) : Prop := (D_X10_accept (uA A 4 ur_41) cd pk p0 (1 : Int32) (uA (uA (uA A 4 ur_41) 14 (ur_42.1)) 19 (ur_42.2)) cd pk) ∧ ∃ ur_44 : (Nat → Int32) × (Nat → Int32) × (Nat → Int32) × (Nat → Int32) × (Nat → Int32) × (Nat → Int32) × (Nat → Int32) × Int32, (D_X10_ack (uA (uA (uA A 4 ur_41) 14 (ur_42.1)) 19 (ur_42.2)) cd pk p0 ((A 43) 24) (uA (uA (uA (uA (uA (uA (uA (uA (uA (uA A 4 ur_41) 14 (ur_42.1)) 19 (ur_42.2)) 41 (ur_44.1)) 42 (ur_44.2.1)) 43 (ur_44.2.2.1)) 44 (ur_44.2.2.2.1)) 45 (ur_44.2.2.2.2.1)) 46 (ur_44.2.2.2.2.2.1)) 47 (ur_44.2.2.2.2.2.2.1)) cd (ur_44.2.2.2.2.2.2.2)) ∧ (I7 (ur_44.1) (ur_44.2.1) (ur_44.2.2.2.1) (ur_44.2.2.2.2.1) (ur_44.2.2.2.2.2.1)) ∧ (0 ≤ ur_44.2.2.2.2.2.2.2.toInt ∧ ur_44.2.2.2.2.2.2.2.toInt ≤ 24) ∧ (((ur_44.2.2.2.1) 24).toInt = ((A 44) 24).toInt ∧ ((ur_44.2.2.2.2.2.1) 24).toInt = ((A 46) 24).toInt) ∧ (Z = (uA (uA (uA (uA (uA (uA (uA (uA (uA (uA A 4 ur_41) 14 (ur_42.1)) 19 (ur_42.2)) 41 (ur_44.1)) 42 (ur_44.2.1)) 43 (ur_44.2.2.1)) 44 (ur_44.2.2.2.1)) 45 (ur_44.2.2.2.2.1)) 46 (ur_44.2.2.2.2.2.1)) 47 (ur_44.2.2.2.2.2.2.1))) ∧ (cdz = cd) ∧ (pkz = ur_44.2.2.2.2.2.2.2)
abbrev D_X10_fresh_s11 (A : AA) (cd : Int32) (pk : Int32) (p0 : Int32) (Z : AA) (cdz : Int32) (pkz : Int32) (r_32 : Int32) : Prop := (D_X10_allows A cd pk p0 ((A 45) 24) ((A 46) 24) ((A 44) 24) (1 : Int32) r_32) ∧ (r_32 = 0 ∨ r_32 = 1) ∧ (¬ r_32.toInt = 0) ∧ (((A 42) 24).toInt = 1) ∧ ∃ x_37 : Int32, (x_37 = p0 - p0 / 2 * 2) ∧ (x_37.toInt = p0.toInt % 2) ∧ ∃ x_38 : Int32, ((x_38 = 32 * x_37) ∧ (x_38.toInt = 32 * x_37.toInt) ∧ ∃ x_40 : Int32, (x_40 = x_38 + ((A 46) 24)) ∧ (x_40.toInt = x_38.toInt + ((A 46) 24).toInt) ∧ ∃ ur_41 : (Nat → Int32), (D_X10_takeCells A cd pk x_40 ((A 44) 24) (uA A 4 ur_41) cd pk) ∧ ∃ ur_42 : (Nat → Int32) × (Nat → Int32), (D_X10_fresh_s10 A cd pk p0 Z cdz pkz ur_41 ur_42))
abbrev D_X10_fresh_s12 (A : AA) (cd : Int32) (pk : Int32) (p0 : Int32) (Z : AA) (cdz : Int32) (pkz : Int32) (ur_45 : (Nat → Int32) × (Nat → Int32) × (Nat → Int32) × (Nat → Int32) × (Nat → Int32) × (Nat → Int32) × (Nat → Int32) × (Nat → Int32) × (Nat → Int32) × (Nat → Int32) × (Nat → Int32) × (Nat → Int32) × (Nat → Int32) × (Nat → Int32) × Int32) : Prop := (D_X10_refuse A cd pk p0 (3 : Int32) (uA (uA (uA (uA (uA (uA (uA (uA (uA (uA (uA (uA (uA (uA A 41 (ur_45.1)) 42 (ur_45.2.1)) 43 (ur_45.2.2.1)) 44 (ur_45.2.2.2.1)) 45 (ur_45.2.2.2.2.1)) 46 (ur_45.2.2.2.2.2.1)) 47 (ur_45.2.2.2.2.2.2.1)) 8 (ur_45.2.2.2.2.2.2.2.1)) 9 (ur_45.2.2.2.2.2.2.2.2.1)) 10 (ur_45.2.2.2.2.2.2.2.2.2.1)) 18 (ur_45.2.2.2.2.2.2.2.2.2.2.1)) 20 (ur_45.2.2.2.2.2.2.2.2.2.2.2.1)) 30 (ur_45.2.2.2.2.2.2.2.2.2.2.2.2.1)) 36 (ur_45.2.2.2.2.2.2.2.2.2.2.2.2.2.1)) cd (ur_45.2.2.2.2.2.2.2.2.2.2.2.2.2.2)) ∧ (I3 (ur_45.2.2.2.2.2.2.2.1)) ∧ (I4 (ur_45.2.2.2.2.2.2.2.2.2.1) (ur_45.2.2.2.2.2.2.2.2.2.2.2.1) (A 29) (A 24) (A 11) (A 12) (A 13)) ∧ (I7 (ur_45.1) (ur_45.2.1) (ur_45.2.2.2.1) (ur_45.2.2.2.2.1) (ur_45.2.2.2.2.2.1)) ∧ (I8 (ur_45.2.2.2.2.2.2.2.2.2.2.2.1) (ur_45.2.2.2.2.2.2.2.2.2.2.2.2.1) (A 37) (ur_45.2.2.2.2.2.2.2.2.2.2.2.2.2.1)) ∧ (0 ≤ ur_45.2.2.2.2.2.2.2.2.2.2.2.2.2.2.toInt ∧ ur_45.2.2.2.2.2.2.2.2.2.2.2.2.2.2.toInt ≤ 24) ∧ (Z = (uA (uA (uA (uA (uA (uA (uA (uA (uA (uA (uA (uA (uA (uA A 41 (ur_45.1)) 42 (ur_45.2.1)) 43 (ur_45.2.2.1)) 44 (ur_45.2.2.2.1)) 45 (ur_45.2.2.2.2.1)) 46 (ur_45.2.2.2.2.2.1)) 47 (ur_45.2.2.2.2.2.2.1)) 8 (ur_45.2.2.2.2.2.2.2.1)) 9 (ur_45.2.2.2.2.2.2.2.2.1)) 10 (ur_45.2.2.2.2.2.2.2.2.2.1)) 18 (ur_45.2.2.2.2.2.2.2.2.2.2.1)) 20 (ur_45.2.2.2.2.2.2.2.2.2.2.2.1)) 30 (ur_45.2.2.2.2.2.2.2.2.2.2.2.2.1)) 36 (ur_45.2.2.2.2.2.2.2.2.2.2.2.2.2.1))) ∧ (cdz = cd) ∧ (pkz = ur_45.2.2.2.2.2.2.2.2.2.2.2.2.2.2)
abbrev D_X10_fresh_s13 (A : AA) (cd : Int32) (pk : Int32) (p0 : Int32) (Z : AA) (cdz : Int32) (pkz : Int32) : Prop := (¬ ((A 42) 24).toInt = 0) ∧ (¬ ((A 42) 24).toInt = 3) ∧ (((A 42) 24).toInt = 1) ∧ ∃ r_32 : Int32, (D_X10_allows A cd pk p0 ((A 45) 24) ((A 46) 24) ((A 44) 24) (1 : Int32) r_32) ∧ (r_32 = 0 ∨ r_32 = 1) ∧ (r_32.toInt = 0) ∧ ∃ ur_45 : (Nat → Int32) × (Nat → Int32) × (Nat → Int32) × (Nat → Int32) × (Nat → Int32) × (Nat → Int32) × (Nat → Int32) × (Nat → Int32) × (Nat → Int32) × (Nat → Int32) × (Nat → Int32) × (Nat → Int32) × (Nat → Int32) × (Nat → Int32) × Int32, (D_X10_fresh_s12 A cd pk p0 Z cdz pkz ur_45)
abbrev D_X10_fresh_s14 (A : AA) (cd : Int32) (pk : Int32) (p0 : Int32) (Z : AA) (cdz : Int32) (pkz : Int32) (r_52 : Int32) : Prop := (¬ r_52.toInt = 0) ∧ ∃ ur_56 : (Nat → Int32) × (Nat → Int32) × (Nat → Int32) × (Nat → Int32) × (Nat → Int32) × (Nat → Int32) × (Nat → Int32) × (Nat → Int32) × (Nat → Int32) × (Nat → Int32) × (Nat → Int32) × (Nat → Int32) × (Nat → Int32) × (Nat → Int32) × Int32, (D_X10_freshAdd A cd pk p0 (uA (uA (uA (uA (uA (uA (uA (uA (uA (uA (uA (uA (uA (uA A 4 (ur_56.1)) 14 (ur_56.2.1)) 19 (ur_56.2.2.1)) 37 (ur_56.2.2.2.1)) 38 (ur_56.2.2.2.2.1)) 39 (ur_56.2.2.2.2.2.1)) 41 (ur_56.2.2.2.2.2.2.1)) 42 (ur_56.2.2.2.2.2.2.2.1)) 43 (ur_56.2.2.2.2.2.2.2.2.1)) 44 (ur_56.2.2.2.2.2.2.2.2.2.1)) 45 (ur_56.2.2.2.2.2.2.2.2.2.2.1)) 46 (ur_56.2.2.2.2.2.2.2.2.2.2.2.1)) 47 (ur_56.2.2.2.2.2.2.2.2.2.2.2.2.1)) 48 (ur_56.2.2.2.2.2.2.2.2.2.2.2.2.2.1)) cd (ur_56.2.2.2.2.2.2.2.2.2.2.2.2.2.2)) ∧ (I7 (ur_56.2.2.2.2.2.2.1) (ur_56.2.2.2.2.2.2.2.1) (ur_56.2.2.2.2.2.2.2.2.2.1) (ur_56.2.2.2.2.2.2.2.2.2.2.1) (ur_56.2.2.2.2.2.2.2.2.2.2.2.1)) ∧ (I8 (A 20) (A 30) (ur_56.2.2.2.1) (A 36)) ∧ (0 ≤ ur_56.2.2.2.2.2.2.2.2.2.2.2.2.2.2.toInt ∧ ur_56.2.2.2.2.2.2.2.2.2.2.2.2.2.2.toInt ≤ 24) ∧ (Z = (uA (uA (uA (uA (uA (uA (uA (uA (uA (uA (uA (uA (uA (uA A 4 (ur_56.1)) 14 (ur_56.2.1)) 19 (ur_56.2.2.1)) 37 (ur_56.2.2.2.1)) 38 (ur_56.2.2.2.2.1)) 39 (ur_56.2.2.2.2.2.1)) 41 (ur_56.2.2.2.2.2.2.1)) 42 (ur_56.2.2.2.2.2.2.2.1)) 43 (ur_56.2.2.2.2.2.2.2.2.1)) 44 (ur_56.2.2.2.2.2.2.2.2.2.1)) 45 (ur_56.2.2.2.2.2.2.2.2.2.2.1)) 46 (ur_56.2.2.2.2.2.2.2.2.2.2.2.1)) 47 (ur_56.2.2.2.2.2.2.2.2.2.2.2.2.1)) 48 (ur_56.2.2.2.2.2.2.2.2.2.2.2.2.2.1))) ∧ (cdz = cd) ∧ (pkz = ur_56.2.2.2.2.2.2.2.2.2.2.2.2.2.2)
abbrev D_X10_fresh_s15 (A : AA) (cd : Int32) (pk : Int32) (p0 : Int32) (Z : AA) (cdz : Int32) (pkz : Int32) (ur_57 : (Nat → Int32) × (Nat → Int32) × (Nat → Int32) × (Nat → Int32) × (Nat → Int32) × (Nat → Int32) × (Nat → Int32) × (Nat → Int32) × (Nat → Int32) × (Nat → Int32) × (Nat → Int32) × (Nat → Int32) × (Nat → Int32) × (Nat → Int32) × Int32) : Prop := (D_X10_refuse A cd pk p0 (3 : Int32) (uA (uA (uA (uA (uA (uA (uA (uA (uA (uA (uA (uA (uA (uA A 41 (ur_57.1)) 42 (ur_57.2.1)) 43 (ur_57.2.2.1)) 44 (ur_57.2.2.2.1)) 45 (ur_57.2.2.2.2.1)) 46 (ur_57.2.2.2.2.2.1)) 47 (ur_57.2.2.2.2.2.2.1)) 8 (ur_57.2.2.2.2.2.2.2.1)) 9 (ur_57.2.2.2.2.2.2.2.2.1)) 10 (ur_57.2.2.2.2.2.2.2.2.2.1)) 18 (ur_57.2.2.2.2.2.2.2.2.2.2.1)) 20 (ur_57.2.2.2.2.2.2.2.2.2.2.2.1)) 30 (ur_57.2.2.2.2.2.2.2.2.2.2.2.2.1)) 36 (ur_57.2.2.2.2.2.2.2.2.2.2.2.2.2.1)) cd (ur_57.2.2.2.2.2.2.2.2.2.2.2.2.2.2)) ∧ (I3 (ur_57.2.2.2.2.2.2.2.1)) ∧ (I4 (ur_57.2.2.2.2.2.2.2.2.2.1) (ur_57.2.2.2.2.2.2.2.2.2.2.2.1) (A 29) (A 24) (A 11) (A 12) (A 13)) ∧ (I7 (ur_57.1) (ur_57.2.1) (ur_57.2.2.2.1) (ur_57.2.2.2.2.1) (ur_57.2.2.2.2.2.1)) ∧ (I8 (ur_57.2.2.2.2.2.2.2.2.2.2.2.1) (ur_57.2.2.2.2.2.2.2.2.2.2.2.2.1) (A 37) (ur_57.2.2.2.2.2.2.2.2.2.2.2.2.2.1)) ∧ (0 ≤ ur_57.2.2.2.2.2.2.2.2.2.2.2.2.2.2.toInt ∧ ur_57.2.2.2.2.2.2.2.2.2.2.2.2.2.2.toInt ≤ 24) ∧ (Z = (uA (uA (uA (uA (uA (uA (uA (uA (uA (uA (uA (uA (uA (uA A 41 (ur_57.1)) 42 (ur_57.2.1)) 43 (ur_57.2.2.1)) 44 (ur_57.2.2.2.1)) 45 (ur_57.2.2.2.2.1)) 46 (ur_57.2.2.2.2.2.1)) 47 (ur_57.2.2.2.2.2.2.1)) 8 (ur_57.2.2.2.2.2.2.2.1)) 9 (ur_57.2.2.2.2.2.2.2.2.1)) 10 (ur_57.2.2.2.2.2.2.2.2.2.1)) 18 (ur_57.2.2.2.2.2.2.2.2.2.2.1)) 20 (ur_57.2.2.2.2.2.2.2.2.2.2.2.1)) 30 (ur_57.2.2.2.2.2.2.2.2.2.2.2.2.1)) 36 (ur_57.2.2.2.2.2.2.2.2.2.2.2.2.2.1))) ∧ (cdz = cd) ∧ (pkz = ur_57.2.2.2.2.2.2.2.2.2.2.2.2.2.2)
abbrev D_X10_fresh_s16 (A : AA) (cd : Int32) (pk : Int32) (p0 : Int32) (Z : AA) (cdz : Int32) (pkz : Int32) : Prop := (¬ ((A 42) 24).toInt = 0) ∧ (((A 42) 24).toInt = 3) ∧ ∃ r_52 : Int32, (D_X10_allows A cd pk p0 ((A 45) 24) ((A 46) 24) (1 : Int32) (4 : Int32) r_52) ∧ (r_52 = 0 ∨ r_52 = 1) ∧ (r_52.toInt = 0) ∧ ∃ ur_57 : (Nat → Int32) × (Nat → Int32) × (Nat → Int32) × (Nat → Int32) × (Nat → Int32) × (Nat → Int32) × (Nat → Int32) × (Nat → Int32) × (Nat → Int32) × (Nat → Int32) × (Nat → Int32) × (Nat → Int32) × (Nat → Int32) × (Nat → Int32) × Int32, (D_X10_fresh_s15 A cd pk p0 Z cdz pkz ur_57)
abbrev D_X10_fresh_s17 (Z : AA) (cdz : Int32) (pkz : Int32) (ur_58 : AA × Int32 × Int32) : Prop := (I4 (ur_58.1 10) (ur_58.1 20) (ur_58.1 29) (ur_58.1 24) (ur_58.1 11) (ur_58.1 12) (ur_58.1 13)) ∧ (I5 (ur_58.1 32) (ur_58.1 33) (ur_58.1 35)) ∧ (I6 (ur_58.1 22) (ur_58.1 23) (ur_58.1 24) (ur_58.1 25) (ur_58.1 26)) ∧ (I7 (ur_58.1 41) (ur_58.1 42) (ur_58.1 44) (ur_58.1 45) (ur_58.1 46)) ∧ (I8 (ur_58.1 20) (ur_58.1 30) (ur_58.1 37) (ur_58.1 36)) ∧ (0 ≤ ur_58.2.2.toInt ∧ ur_58.2.2.toInt ≤ 24) ∧ (Z = ur_58.1) ∧ (cdz = ur_58.2.1) ∧ (pkz = ur_58.2.2)
def D_X10_fresh (A : AA) (cd pk : Int32) (p0 : Int32) (Z : AA) (cdz pkz : Int32) : Prop := ((¬ ((A 42) 24).toInt = 0) ∧ (¬ ((A 42) 24).toInt = 3) ∧ (¬ ((A 42) 24).toInt = 1) ∧ (¬ ((A 42) 24).toInt = 2) ∧ ∃ r_16 : Int32, (D_X10_allows A cd pk p0 ((A 45) 24) ((A 46) 24) ((A 44) 24) (4 : Int32) r_16) ∧ (r_16 = 0 ∨ r_16 = 1) ∧ (D_X10_fresh_s1 A cd pk p0 Z cdz pkz r_16)) ∨ ((¬ ((A 42) 24).toInt = 0) ∧ (D_X10_fresh_s3 A cd pk p0 Z cdz pkz)) ∨ ((¬ ((A 42) 24).toInt = 0) ∧ (¬ ((A 42) 24).toInt = 3) ∧ (¬ ((A 42) 24).toInt = 1) ∧ (((A 42) 24).toInt = 2) ∧ ∃ r_22 : Int32, (D_X10_allows A cd pk p0 ((A 45) 24) ((A 46) 24) ((A 44) 24) (2 : Int32) r_22) ∧ (r_22 = 0 ∨ r_22 = 1) ∧ (¬ r_22.toInt = 0) ∧ (D_X10_fresh_s4 A cd pk p0 Z cdz pkz)) ∨ ((¬ ((A 42) 24).toInt = 0) ∧ (¬ ((A 42) 24).toInt = 3) ∧ (¬ ((A 42) 24).toInt = 1) ∧ (((A 42) 24).toInt = 2) ∧ ∃ r_22 : Int32, (D_X10_allows A cd pk p0 ((A 45) 24) ((A 46) 24) ((A 44) 24) (2 : Int32) r_22) ∧ (r_22 = 0 ∨ r_22 = 1) ∧ (D_X10_fresh_s6 A cd pk p0 Z cdz pkz r_22)) ∨ ((¬ ((A 42) 24).toInt = 0) ∧ (D_X10_fresh_s8 A cd pk p0 Z cdz pkz)) ∨ ((¬ ((A 42) 24).toInt = 0) ∧ (¬ ((A 42) 24).toInt = 3) ∧ (((A 42) 24).toInt = 1) ∧ ∃ r_32 : Int32, (D_X10_allows A cd pk p0 ((A 45) 24) ((A 46) 24) ((A 44) 24) (1 : Int32) r_32) ∧ (r_32 = 0 ∨ r_32 = 1) ∧ (¬ r_32.toInt = 0) ∧ (D_X10_fresh_s9 A cd pk p0 Z cdz pkz)) ∨ ((¬ ((A 42) 24).toInt = 0) ∧ (¬ ((A 42) 24).toInt = 3) ∧ (((A 42) 24).toInt = 1) ∧ ∃ r_32 : Int32, (D_X10_fresh_s11 A cd pk p0 Z cdz pkz r_32)) ∨ (D_X10_fresh_s13 A cd pk p0 Z cdz pkz) ∨ ((¬ ((A 42) 24).toInt = 0) ∧ (((A 42) 24).toInt = 3) ∧ ∃ r_52 : Int32, (D_X10_allows A cd pk p0 ((A 45) 24) ((A 46) 24) (1 : Int32) (4 : Int32) r_52) ∧ (r_52 = 0 ∨ r_52 = 1) ∧ (D_X10_fresh_s14 A cd pk p0 Z cdz pkz r_52)) ∨ (D_X10_fresh_s16 A cd pk p0 Z cdz pkz) ∨ ((((A 42) 24).toInt = 0) ∧ ∃ ur_58 : AA × Int32 × Int32, (D_X10_freshSend A cd pk p0 ur_58.1 (ur_58.2.1) (ur_58.2.2)) ∧ (I2 (ur_58.1 5) (ur_58.1 6)) ∧ (I3 (ur_58.1 8)) ∧ (D_X10_fresh_s17 Z cdz pkz ur_58))
abbrev D_X10_again_s1 (A : AA) (cd : Int32) (pk : Int32) (p0 : Int32) (Z : AA) (cdz : Int32) (pkz : Int32) (x_13 : Int32) : Prop := (¬ x_13.toInt < 0) ∧ ∃ x_16 : Int32, (x_16 = 2 * p0) ∧ (x_16.toInt = 2 * p0.toInt) ∧ ∃ x_17 : Int32, (x_17 = x_16 + x_13) ∧ (x_17.toInt = x_16.toInt + x_13.toInt) ∧ ∃ n_20 : Nat, (((n_20 : Int) = x_17.toInt) ∧ (¬ ((A 38) n_20).toInt = ((A 43) 24).toInt) ∧ ∃ x_23 : Int32, (x_13 + Int32.ofInt (-1) = x_23) ∧ (x_23.toInt = x_13.toInt + (-1)) ∧ (x_23.toInt < 0) ∧ (Z = (uA (uA (uA (uA (uA (uA (uA (uA A 41 (A 41)) 42 (A 42)) 43 (A 43)) 44 (A 44)) 45 (A 45)) 46 (A 46)) 47 (A 47)) 48 (A 48))) ∧ (cdz = cd) ∧ (pkz = pk))
abbrev D_X10_again_s2 (A : AA) (cd : Int32) (pk : Int32) (Z : AA) (cdz : Int32) (pkz : Int32) (x_13 : Int32) (x_16 : Int32) (n_20 : Nat) : Prop := (¬ ((A 38) n_20).toInt = ((A 43) 24).toInt) ∧ ∃ x_23 : Int32, (x_13 + Int32.ofInt (-1) = x_23) ∧ (x_23.toInt = x_13.toInt + (-1)) ∧ (¬ x_23.toInt < 0) ∧ ∃ x_26 : Int32, (x_26 = x_16 + x_23) ∧ (x_26.toInt = x_16.toInt + x_23.toInt) ∧ (∃ n_29 : Nat, ((n_29 : Int) = x_26.toInt) ∧ (¬ ((A 38) n_29).toInt = ((A 43) 24).toInt) ∧ ∃ x_32 : Int32, (x_23 + Int32.ofInt (-1) = x_32) ∧ (x_32.toInt = x_23.toInt + (-1)) ∧ (Z = (uA (uA (uA (uA (uA (uA (uA (uA A 41 (A 41)) 42 (A 42)) 43 (A 43)) 44 (A 44)) 45 (A 45)) 46 (A 46)) 47 (A 47)) 48 (A 48))) ∧ (cdz = cd) ∧ (pkz = pk))
abbrev D_X10_again_s3 (A : AA) (cd : Int32) (pk : Int32) (p0 : Int32) (Z : AA) (cdz : Int32) (pkz : Int32) : Prop := (2 ≤ ((A 42) 24).toInt) ∧ (¬ ((A 42) 24).toInt = 2) ∧ ∃ n_9 : Nat, ((n_9 : Int) = p0.toInt) ∧ ∃ x_13 : Int32, (x_13 = ((A 37) n_9) - 1) ∧ (x_13.toInt = ((A 37) n_9).toInt - 1) ∧ (¬ x_13.toInt < 0) ∧ (∃ x_16 : Int32, (x_16 = 2 * p0) ∧ (x_16.toInt = 2 * p0.toInt) ∧ ∃ x_17 : Int32, (x_17 = x_16 + x_13) ∧ (x_17.toInt = x_16.toInt + x_13.toInt) ∧ ∃ n_20 : Nat, ((n_20 : Int) = x_17.toInt) ∧ (D_X10_again_s2 A cd pk Z cdz pkz x_13 x_16 n_20))
abbrev D_X10_again_s4 (A : AA) (cd : Int32) (pk : Int32) (p0 : Int32) (Z : AA) (cdz : Int32) (pkz : Int32) (x_23 : Int32) (n_29 : Nat) (x_35 : Int32) : Prop := (x_35.toInt = x_23.toInt + (-1)) ∧ ∃ ur_39 : (Nat → Int32) × (Nat → Int32) × (Nat → Int32) × (Nat → Int32) × (Nat → Int32) × (Nat → Int32) × (Nat → Int32) × (Nat → Int32) × Int32, (D_X10_replyOld A cd pk p0 ((A 39) n_29) (uA (uA (uA (uA (uA (uA (uA (uA A 41 (ur_39.1)) 42 (ur_39.2.1)) 43 (ur_39.2.2.1)) 44 (ur_39.2.2.2.1)) 45 (ur_39.2.2.2.2.1)) 46 (ur_39.2.2.2.2.2.1)) 47 (ur_39.2.2.2.2.2.2.1)) 48 (ur_39.2.2.2.2.2.2.2.1)) cd (ur_39.2.2.2.2.2.2.2.2)) ∧ (I7 (ur_39.1) (ur_39.2.1) (ur_39.2.2.2.1) (ur_39.2.2.2.2.1) (ur_39.2.2.2.2.2.1)) ∧ (0 ≤ ur_39.2.2.2.2.2.2.2.2.toInt ∧ ur_39.2.2.2.2.2.2.2.2.toInt ≤ 24) ∧ (((ur_39.2.2.2.1) 24).toInt = ((A 44) 24).toInt ∧ ((ur_39.2.2.2.2.2.1) 24).toInt = ((A 46) 24).toInt) ∧ (Z = (uA (uA (uA (uA (uA (uA (uA (uA A 41 (ur_39.1)) 42 (ur_39.2.1)) 43 (ur_39.2.2.1)) 44 (ur_39.2.2.2.1)) 45 (ur_39.2.2.2.2.1)) 46 (ur_39.2.2.2.2.2.1)) 47 (ur_39.2.2.2.2.2.2.1)) 48 (ur_39.2.2.2.2.2.2.2.1))) ∧ (cdz = cd) ∧ (pkz = ur_39.2.2.2.2.2.2.2.2)
abbrev D_X10_again_s5 (A : AA) (cd : Int32) (pk : Int32) (p0 : Int32) (Z : AA) (cdz : Int32) (pkz : Int32) (x_13 : Int32) (x_16 : Int32) (x_17 : Int32) : Prop := (x_17.toInt = x_16.toInt + x_13.toInt) ∧ ∃ n_20 : Nat, ((n_20 : Int) = x_17.toInt) ∧ (¬ ((A 38) n_20).toInt = ((A 43) 24).toInt) ∧ ∃ x_23 : Int32, (x_13 + Int32.ofInt (-1) = x_23) ∧ (x_23.toInt = x_13.toInt + (-1)) ∧ (¬ x_23.toInt < 0) ∧ (∃ x_26 : Int32, (x_26 = x_16 + x_23) ∧ (x_26.toInt = x_16.toInt + x_23.toInt) ∧ ∃ n_29 : Nat, ((n_29 : Int) = x_26.toInt) ∧ (((A 38) n_29).toInt = ((A 43) 24).toInt) ∧ ∃ x_35 : Int32, (x_23 + Int32.ofInt (-1) = x_35) ∧ (D_X10_again_s4 A cd pk p0 Z cdz pkz x_23 n_29 x_35))
abbrev D_X10_again_s6 (A : AA) (cd : Int32) (pk : Int32) (p0 : Int32) (Z : AA) (cdz : Int32) (pkz : Int32) (n_20 : Nat) (x_40 : Int32) : Prop := (x_40.toInt < 0) ∧ ∃ ur_44 : (Nat → Int32) × (Nat → Int32) × (Nat → Int32) × (Nat → Int32) × (Nat → Int32) × (Nat → Int32) × (Nat → Int32) × (Nat → Int32) × Int32, (D_X10_replyOld A cd pk p0 ((A 39) n_20) (uA (uA (uA (uA (uA (uA (uA (uA A 41 (ur_44.1)) 42 (ur_44.2.1)) 43 (ur_44.2.2.1)) 44 (ur_44.2.2.2.1)) 45 (ur_44.2.2.2.2.1)) 46 (ur_44.2.2.2.2.2.1)) 47 (ur_44.2.2.2.2.2.2.1)) 48 (ur_44.2.2.2.2.2.2.2.1)) cd (ur_44.2.2.2.2.2.2.2.2)) ∧ (I7 (ur_44.1) (ur_44.2.1) (ur_44.2.2.2.1) (ur_44.2.2.2.2.1) (ur_44.2.2.2.2.2.1)) ∧ (0 ≤ ur_44.2.2.2.2.2.2.2.2.toInt ∧ ur_44.2.2.2.2.2.2.2.2.toInt ≤ 24) ∧ (((ur_44.2.2.2.1) 24).toInt = ((A 44) 24).toInt ∧ ((ur_44.2.2.2.2.2.1) 24).toInt = ((A 46) 24).toInt) ∧ (Z = (uA (uA (uA (uA (uA (uA (uA (uA A 41 (ur_44.1)) 42 (ur_44.2.1)) 43 (ur_44.2.2.1)) 44 (ur_44.2.2.2.1)) 45 (ur_44.2.2.2.2.1)) 46 (ur_44.2.2.2.2.2.1)) 47 (ur_44.2.2.2.2.2.2.1)) 48 (ur_44.2.2.2.2.2.2.2.1))) ∧ (cdz = cd) ∧ (pkz = ur_44.2.2.2.2.2.2.2.2)
abbrev D_X10_again_s7 (A : AA) (cd : Int32) (pk : Int32) (p0 : Int32) (Z : AA) (cdz : Int32) (pkz : Int32) (n_9 : Nat) : Prop := ∃ x_13 : Int32, (x_13 = ((A 37) n_9) - 1) ∧ (x_13.toInt = ((A 37) n_9).toInt - 1) ∧ (¬ x_13.toInt < 0) ∧ ∃ x_16 : Int32, (x_16 = 2 * p0) ∧ (x_16.toInt = 2 * p0.toInt) ∧ ∃ x_17 : Int32, ((x_17 = x_16 + x_13) ∧ (x_17.toInt = x_16.toInt + x_13.toInt) ∧ ∃ n_20 : Nat, ((n_20 : Int) = x_17.toInt) ∧ (((A 38) n_20).toInt = ((A 43) 24).toInt) ∧ ∃ x_40 : Int32, (x_13 + Int32.ofInt (-1) = x_40) ∧ (x_40.toInt = x_13.toInt + (-1)) ∧ (D_X10_again_s6 A cd pk p0 Z cdz pkz n_20 x_40))
abbrev D_X10_again_s8 (A : AA) (cd : Int32) (pk : Int32) (p0 : Int32) (Z : AA) (cdz : Int32) (pkz : Int32) (n_20 : Nat) (x_40 : Int32) (x_51 : Int32) : Prop := (x_51.toInt = x_40.toInt + (-1)) ∧ ∃ ur_55 : (Nat → Int32) × (Nat → Int32) × (Nat → Int32) × (Nat → Int32) × (Nat → Int32) × (Nat → Int32) × (Nat → Int32) × (Nat → Int32) × Int32, (D_X10_replyOld A cd pk p0 ((A 39) n_20) (uA (uA (uA (uA (uA (uA (uA (uA A 41 (ur_55.1)) 42 (ur_55.2.1)) 43 (ur_55.2.2.1)) 44 (ur_55.2.2.2.1)) 45 (ur_55.2.2.2.2.1)) 46 (ur_55.2.2.2.2.2.1)) 47 (ur_55.2.2.2.2.2.2.1)) 48 (ur_55.2.2.2.2.2.2.2.1)) cd (ur_55.2.2.2.2.2.2.2.2)) ∧ (I7 (ur_55.1) (ur_55.2.1) (ur_55.2.2.2.1) (ur_55.2.2.2.2.1) (ur_55.2.2.2.2.2.1)) ∧ (0 ≤ ur_55.2.2.2.2.2.2.2.2.toInt ∧ ur_55.2.2.2.2.2.2.2.2.toInt ≤ 24) ∧ (((ur_55.2.2.2.1) 24).toInt = ((A 44) 24).toInt ∧ ((ur_55.2.2.2.2.2.1) 24).toInt = ((A 46) 24).toInt) ∧ (Z = (uA (uA (uA (uA (uA (uA (uA (uA A 41 (ur_55.1)) 42 (ur_55.2.1)) 43 (ur_55.2.2.1)) 44 (ur_55.2.2.2.1)) 45 (ur_55.2.2.2.2.1)) 46 (ur_55.2.2.2.2.2.1)) 47 (ur_55.2.2.2.2.2.2.1)) 48 (ur_55.2.2.2.2.2.2.2.1))) ∧ (cdz = cd) ∧ (pkz = ur_55.2.2.2.2.2.2.2.2)
abbrev D_X10_again_s9 (A : AA) (cd : Int32) (pk : Int32) (p0 : Int32) (Z : AA) (cdz : Int32) (pkz : Int32) (x_13 : Int32) (x_16 : Int32) (x_17 : Int32) : Prop := (x_17.toInt = x_16.toInt + x_13.toInt) ∧ ∃ n_20 : Nat, ((n_20 : Int) = x_17.toInt) ∧ (((A 38) n_20).toInt = ((A 43) 24).toInt) ∧ ∃ x_40 : Int32, (x_13 + Int32.ofInt (-1) = x_40) ∧ (x_40.toInt = x_13.toInt + (-1)) ∧ (¬ x_40.toInt < 0) ∧ (∃ x_45 : Int32, (x_45 = x_16 + x_40) ∧ (x_45.toInt = x_16.toInt + x_40.toInt) ∧ ∃ n_48 : Nat, ((n_48 : Int) = x_45.toInt) ∧ (¬ ((A 38) n_48).toInt = ((A 43) 24).toInt) ∧ ∃ x_51 : Int32, (x_40 + Int32.ofInt (-1) = x_51) ∧ (D_X10_again_s8 A cd pk p0 Z cdz pkz n_20 x_40 x_51))
abbrev D_X10_again_s10 (A : AA) (cd : Int32) (pk : Int32) (p0 : Int32) (Z : AA) (cdz : Int32) (pkz : Int32) (x_40 : Int32) (n_48 : Nat) (x_56 : Int32) : Prop := (x_56.toInt = x_40.toInt + (-1)) ∧ ∃ ur_60 : (Nat → Int32) × (Nat → Int32) × (Nat → Int32) × (Nat → Int32) × (Nat → Int32) × (Nat → Int32) × (Nat → Int32) × (Nat → Int32) × Int32, (D_X10_replyOld A cd pk p0 ((A 39) n_48) (uA (uA (uA (uA (uA (uA (uA (uA A 41 (ur_60.1)) 42 (ur_60.2.1)) 43 (ur_60.2.2.1)) 44 (ur_60.2.2.2.1)) 45 (ur_60.2.2.2.2.1)) 46 (ur_60.2.2.2.2.2.1)) 47 (ur_60.2.2.2.2.2.2.1)) 48 (ur_60.2.2.2.2.2.2.2.1)) cd (ur_60.2.2.2.2.2.2.2.2)) ∧ (I7 (ur_60.1) (ur_60.2.1) (ur_60.2.2.2.1) (ur_60.2.2.2.2.1) (ur_60.2.2.2.2.2.1)) ∧ (0 ≤ ur_60.2.2.2.2.2.2.2.2.toInt ∧ ur_60.2.2.2.2.2.2.2.2.toInt ≤ 24) ∧ (((ur_60.2.2.2.1) 24).toInt = ((A 44) 24).toInt ∧ ((ur_60.2.2.2.2.2.1) 24).toInt = ((A 46) 24).toInt) ∧ (Z = (uA (uA (uA (uA (uA (uA (uA (uA A 41 (ur_60.1)) 42 (ur_60.2.1)) 43 (ur_60.2.2.1)) 44 (ur_60.2.2.2.1)) 45 (ur_60.2.2.2.2.1)) 46 (ur_60.2.2.2.2.2.1)) 47 (ur_60.2.2.2.2.2.2.1)) 48 (ur_60.2.2.2.2.2.2.2.1))) ∧ (cdz = cd) ∧ (pkz = ur_60.2.2.2.2.2.2.2.2)
abbrev D_X10_again_s11 (A : AA) (cd : Int32) (pk : Int32) (p0 : Int32) (Z : AA) (cdz : Int32) (pkz : Int32) (x_13 : Int32) (x_16 : Int32) (x_17 : Int32) : Prop := (x_17.toInt = x_16.toInt + x_13.toInt) ∧ ∃ n_20 : Nat, ((n_20 : Int) = x_17.toInt) ∧ (((A 38) n_20).toInt = ((A 43) 24).toInt) ∧ ∃ x_40 : Int32, (x_13 + Int32.ofInt (-1) = x_40) ∧ (x_40.toInt = x_13.toInt + (-1)) ∧ (¬ x_40.toInt < 0) ∧ (∃ x_45 : Int32, (x_45 = x_16 + x_40) ∧ (x_45.toInt = x_16.toInt + x_40.toInt) ∧ ∃ n_48 : Nat, ((n_48 : Int) = x_45.toInt) ∧ (((A 38) n_48).toInt = ((A 43) 24).toInt) ∧ ∃ x_56 : Int32, (x_40 + Int32.ofInt (-1) = x_56) ∧ (D_X10_again_s10 A cd pk p0 Z cdz pkz x_40 n_48 x_56))
abbrev D_X10_again_s12 (A : AA) (cd : Int32) (pk : Int32) (p0 : Int32) (Z : AA) (cdz : Int32) (pkz : Int32) (r_68 : Int32) : Prop := (r_68 = 0 ∨ r_68 = 1) ∧ (¬ r_68.toInt = 0) ∧ ∃ ur_70 : (Nat → Int32) × (Nat → Int32) × (Nat → Int32) × (Nat → Int32) × (Nat → Int32) × (Nat → Int32) × (Nat → Int32) × (Nat → Int32) × Int32, (D_X10_reads A cd pk p0 (uA (uA (uA (uA (uA (uA (uA (uA A 41 (ur_70.1)) 42 (ur_70.2.1)) 43 (ur_70.2.2.1)) 44 (ur_70.2.2.2.1)) 45 (ur_70.2.2.2.2.1)) 46 (ur_70.2.2.2.2.2.1)) 47 (ur_70.2.2.2.2.2.2.1)) 48 (ur_70.2.2.2.2.2.2.2.1)) cd (ur_70.2.2.2.2.2.2.2.2)) ∧ (I7 (ur_70.1) (ur_70.2.1) (ur_70.2.2.2.1) (ur_70.2.2.2.2.1) (ur_70.2.2.2.2.2.1)) ∧ (0 ≤ ur_70.2.2.2.2.2.2.2.2.toInt ∧ ur_70.2.2.2.2.2.2.2.2.toInt ≤ 24) ∧ (Z = (uA (uA (uA (uA (uA (uA (uA (uA A 41 (ur_70.1)) 42 (ur_70.2.1)) 43 (ur_70.2.2.1)) 44 (ur_70.2.2.2.1)) 45 (ur_70.2.2.2.2.1)) 46 (ur_70.2.2.2.2.2.1)) 47 (ur_70.2.2.2.2.2.2.1)) 48 (ur_70.2.2.2.2.2.2.2.1))) ∧ (cdz = cd) ∧ (pkz = ur_70.2.2.2.2.2.2.2.2)
abbrev D_X10_again_s13 (A : AA) (cd : Int32) (pk : Int32) (p0 : Int32) (Z : AA) (cdz : Int32) (pkz : Int32) (x_74 : Int32) (x_75 : Int32) : Prop := (x_75 = x_74 - x_74 / 64 * 64) ∧ ∃ ur_76 : (Nat → Int32) × (Nat → Int32) × (Nat → Int32) × (Nat → Int32) × (Nat → Int32) × (Nat → Int32) × (Nat → Int32) × Int32, (D_X10_ack A cd pk p0 x_75 (uA (uA (uA (uA (uA (uA (uA A 41 (ur_76.1)) 42 (ur_76.2.1)) 43 (ur_76.2.2.1)) 44 (ur_76.2.2.2.1)) 45 (ur_76.2.2.2.2.1)) 46 (ur_76.2.2.2.2.2.1)) 47 (ur_76.2.2.2.2.2.2.1)) cd (ur_76.2.2.2.2.2.2.2)) ∧ (I7 (ur_76.1) (ur_76.2.1) (ur_76.2.2.2.1) (ur_76.2.2.2.2.1) (ur_76.2.2.2.2.2.1)) ∧ (0 ≤ ur_76.2.2.2.2.2.2.2.toInt ∧ ur_76.2.2.2.2.2.2.2.toInt ≤ 24) ∧ (((ur_76.2.2.2.1) 24).toInt = ((A 44) 24).toInt ∧ ((ur_76.2.2.2.2.2.1) 24).toInt = ((A 46) 24).toInt) ∧ (Z = (uA (uA (uA (uA (uA (uA (uA (uA A 41 (ur_76.1)) 42 (ur_76.2.1)) 43 (ur_76.2.2.1)) 44 (ur_76.2.2.2.1)) 45 (ur_76.2.2.2.2.1)) 46 (ur_76.2.2.2.2.2.1)) 47 (ur_76.2.2.2.2.2.2.1)) 48 (A 48))) ∧ (cdz = cd) ∧ (pkz = ur_76.2.2.2.2.2.2.2)
def D_X10_again (A : AA) (cd pk : Int32) (p0 : Int32) (Z : AA) (cdz pkz : Int32) : Prop := ((2 ≤ ((A 42) 24).toInt) ∧ (¬ ((A 42) 24).toInt = 2) ∧ (∃ n_9 : Nat, ((n_9 : Int) = p0.toInt) ∧ ∃ x_13 : Int32, (x_13 = ((A 37) n_9) - 1) ∧ (x_13.toInt = ((A 37) n_9).toInt - 1) ∧ (x_13.toInt < 0) ∧ (Z = (uA (uA (uA (uA (uA (uA (uA (uA A 41 (A 41)) 42 (A 42)) 43 (A 43)) 44 (A 44)) 45 (A 45)) 46 (A 46)) 47 (A 47)) 48 (A 48))) ∧ (cdz = cd) ∧ (pkz = pk))) ∨ ((2 ≤ ((A 42) 24).toInt) ∧ (¬ ((A 42) 24).toInt = 2) ∧ ∃ n_9 : Nat, ((n_9 : Int) = p0.toInt) ∧ ∃ x_13 : Int32, (x_13 = ((A 37) n_9) - 1) ∧ (x_13.toInt = ((A 37) n_9).toInt - 1) ∧ (D_X10_again_s1 A cd pk p0 Z cdz pkz x_13)) ∨ (D_X10_again_s3 A cd pk p0 Z cdz pkz) ∨ ((2 ≤ ((A 42) 24).toInt) ∧ (¬ ((A 42) 24).toInt = 2) ∧ ∃ n_9 : Nat, ((n_9 : Int) = p0.toInt) ∧ ∃ x_13 : Int32, ((x_13 = ((A 37) n_9) - 1) ∧ (x_13.toInt = ((A 37) n_9).toInt - 1) ∧ (¬ x_13.toInt < 0) ∧ ∃ x_16 : Int32, (x_16 = 2 * p0) ∧ (x_16.toInt = 2 * p0.toInt) ∧ ∃ x_17 : Int32, (x_17 = x_16 + x_13) ∧ (D_X10_again_s5 A cd pk p0 Z cdz pkz x_13 x_16 x_17))) ∨ ((2 ≤ ((A 42) 24).toInt) ∧ (¬ ((A 42) 24).toInt = 2) ∧ ∃ n_9 : Nat, ((n_9 : Int) = p0.toInt) ∧ (D_X10_again_s7 A cd pk p0 Z cdz pkz n_9)) ∨ ((2 ≤ ((A 42) 24).toInt) ∧ (¬ ((A 42) 24).toInt = 2) ∧ ∃ n_9 : Nat, ((n_9 : Int) = p0.toInt) ∧ ∃ x_13 : Int32, ((x_13 = ((A 37) n_9) - 1) ∧ (x_13.toInt = ((A 37) n_9).toInt - 1) ∧ (¬ x_13.toInt < 0) ∧ ∃ x_16 : Int32, (x_16 = 2 * p0) ∧ (x_16.toInt = 2 * p0.toInt) ∧ ∃ x_17 : Int32, (x_17 = x_16 + x_13) ∧ (D_X10_again_s9 A cd pk p0 Z cdz pkz x_13 x_16 x_17))) ∨ ((2 ≤ ((A 42) 24).toInt) ∧ (¬ ((A 42) 24).toInt = 2) ∧ ∃ n_9 : Nat, ((n_9 : Int) = p0.toInt) ∧ ∃ x_13 : Int32, ((x_13 = ((A 37) n_9) - 1) ∧ (x_13.toInt = ((A 37) n_9).toInt - 1) ∧ (¬ x_13.toInt < 0) ∧ ∃ x_16 : Int32, (x_16 = 2 * p0) ∧ (x_16.toInt = 2 * p0.toInt) ∧ ∃ x_17 : Int32, (x_17 = x_16 + x_13) ∧ (D_X10_again_s11 A cd pk p0 Z cdz pkz x_13 x_16 x_17))) ∨ ((2 ≤ ((A 42) 24).toInt) ∧ (((A 42) 24).toInt = 2) ∧ ∃ r_68 : Int32, (D_X10_allows A cd pk p0 ((A 45) 24) ((A 46) 24) ((A 44) 24) (2 : Int32) r_68) ∧ (r_68 = 0 ∨ r_68 = 1) ∧ (r_68.toInt = 0) ∧ (Z = (uA (uA (uA (uA (uA (uA (uA (uA A 41 (A 41)) 42 (A 42)) 43 (A 43)) 44 (A 44)) 45 (A 45)) 46 (A 46)) 47 (A 47)) 48 (A 48))) ∧ (cdz = cd) ∧ (pkz = pk)) ∨ ((2 ≤ ((A 42) 24).toInt) ∧ (((A 42) 24).toInt = 2) ∧ ∃ r_68 : Int32, (D_X10_allows A cd pk p0 ((A 45) 24) ((A 46) 24) ((A 44) 24) (2 : Int32) r_68) ∧ (D_X10_again_s12 A cd pk p0 Z cdz pkz r_68)) ∨ ((¬ 2 ≤ ((A 42) 24).toInt) ∧ ∃ n_73 : Nat, ((n_73 : Int) = p0.toInt) ∧ ∃ x_74 : Int32, (x_74 = ((A 14) n_73) + 63) ∧ ∃ x_75 : Int32, (D_X10_again_s13 A cd pk p0 Z cdz pkz x_74 x_75))
def D_X10_asked (A : AA) (cd pk : Int32) (p0 : Int32) (Z : AA) (cdz pkz : Int32) : Prop :=
  (∃ n_3 : Nat, ((n_3 : Int) = p0.toInt) ∧ ∃ x_5 : Int32, (x_5 = ((((A 43) 24) - ((A 14) n_3)) + 64) - ((((A 43) 24) - ((A 14) n_3)) + 64) / 64 * 64) ∧ (¬ x_5.toInt = 0) ∧ (x_5.toInt < 32) ∧ (¬ ((A 19) n_3).toInt = 0) ∧ Z = A ∧ cdz = cd ∧ pkz = pk)
  ∨ (∃ n_3 : Nat, ((n_3 : Int) = p0.toInt) ∧ ∃ x_5 : Int32, (x_5 = ((((A 43) 24) - ((A 14) n_3)) + 64) - ((((A 43) 24) - ((A 14) n_3)) + 64) / 64 * 64) ∧ (¬ x_5.toInt = 0) ∧ (x_5.toInt < 32) ∧ (((A 19) n_3).toInt = 0) ∧ ∃ ur_11 : (Nat → Int32) × (Nat → Int32) × (Nat → Int32) × (Nat → Int32) × (Nat → Int32) × (Nat → Int32) × (Nat → Int32) × Int32, ∃ r_11 : Int32, (D_X10_emit A cd pk p0 (6 : Int32) ((A 14) n_3) (1 : Int32) (-1 : Int32) (0 : Int32) (uA (uA (uA (uA (uA (uA (uA A 41 (ur_11.1)) 42 (ur_11.2.1)) 43 (ur_11.2.2.1)) 44 (ur_11.2.2.2.1)) 45 (ur_11.2.2.2.2.1)) 46 (ur_11.2.2.2.2.2.1)) 47 (ur_11.2.2.2.2.2.2.1)) cd (ur_11.2.2.2.2.2.2.2) r_11) ∧ (I7 (ur_11.1) (ur_11.2.1) (ur_11.2.2.2.1) (ur_11.2.2.2.2.1) (ur_11.2.2.2.2.2.1)) ∧ (0 ≤ ur_11.2.2.2.2.2.2.2.toInt ∧ ur_11.2.2.2.2.2.2.2.toInt ≤ 24) ∧ (-1 ≤ r_11.toInt ∧ r_11.toInt ≤ 23) ∧ (∀ n : Nat, (n : Int) = r_11.toInt → (ur_11.2.1) n = (6 : Int32)) ∧ (((ur_11.2.2.2.1) 24).toInt = ((A 44) 24).toInt ∧ ((ur_11.2.2.2.2.2.1) 24).toInt = ((A 46) 24).toInt) ∧ ∃ v_12 : Int32, ((v_12 = 1)) ∧ ∃ g_14 : Nat → Int32, (g_14 = upd (A 19) n_3 (vp_nar .boolean v_12)) ∧ Z = (uA (uA (uA (uA (uA (uA (uA (uA A 41 (ur_11.1)) 42 (ur_11.2.1)) 43 (ur_11.2.2.1)) 44 (ur_11.2.2.2.1)) 45 (ur_11.2.2.2.2.1)) 46 (ur_11.2.2.2.2.2.1)) 47 (ur_11.2.2.2.2.2.2.1)) 19 g_14) ∧ cdz = cd ∧ pkz = ur_11.2.2.2.2.2.2.2)
  ∨ (∃ n_3 : Nat, ((n_3 : Int) = p0.toInt) ∧ ∃ x_5 : Int32, (x_5 = ((((A 43) 24) - ((A 14) n_3)) + 64) - ((((A 43) 24) - ((A 14) n_3)) + 64) / 64 * 64) ∧ (¬ x_5.toInt = 0) ∧ (¬ x_5.toInt < 32) ∧ ∃ ur_15 : (Nat → Int32) × (Nat → Int32) × (Nat → Int32) × (Nat → Int32) × (Nat → Int32) × (Nat → Int32) × (Nat → Int32) × (Nat → Int32) × Int32, (D_X10_again A cd pk p0 (uA (uA (uA (uA (uA (uA (uA (uA A 41 (ur_15.1)) 42 (ur_15.2.1)) 43 (ur_15.2.2.1)) 44 (ur_15.2.2.2.1)) 45 (ur_15.2.2.2.2.1)) 46 (ur_15.2.2.2.2.2.1)) 47 (ur_15.2.2.2.2.2.2.1)) 48 (ur_15.2.2.2.2.2.2.2.1)) cd (ur_15.2.2.2.2.2.2.2.2)) ∧ (I7 (ur_15.1) (ur_15.2.1) (ur_15.2.2.2.1) (ur_15.2.2.2.2.1) (ur_15.2.2.2.2.2.1)) ∧ (0 ≤ ur_15.2.2.2.2.2.2.2.2.toInt ∧ ur_15.2.2.2.2.2.2.2.2.toInt ≤ 24) ∧ Z = (uA (uA (uA (uA (uA (uA (uA (uA A 41 (ur_15.1)) 42 (ur_15.2.1)) 43 (ur_15.2.2.1)) 44 (ur_15.2.2.2.1)) 45 (ur_15.2.2.2.2.1)) 46 (ur_15.2.2.2.2.2.1)) 47 (ur_15.2.2.2.2.2.2.1)) 48 (ur_15.2.2.2.2.2.2.2.1)) ∧ cdz = cd ∧ pkz = ur_15.2.2.2.2.2.2.2.2)
  ∨ (∃ n_3 : Nat, ((n_3 : Int) = p0.toInt) ∧ ∃ x_5 : Int32, (x_5 = ((((A 43) 24) - ((A 14) n_3)) + 64) - ((((A 43) 24) - ((A 14) n_3)) + 64) / 64 * 64) ∧ (x_5.toInt = 0) ∧ ∃ ur_16 : AA × Int32 × Int32, (D_X10_fresh A cd pk p0 ur_16.1 (ur_16.2.1) (ur_16.2.2)) ∧ (I2 (ur_16.1 5) (ur_16.1 6)) ∧ (I3 (ur_16.1 8)) ∧ (I4 (ur_16.1 10) (ur_16.1 20) (ur_16.1 29) (ur_16.1 24) (ur_16.1 11) (ur_16.1 12) (ur_16.1 13)) ∧ (I5 (ur_16.1 32) (ur_16.1 33) (ur_16.1 35)) ∧ (I6 (ur_16.1 22) (ur_16.1 23) (ur_16.1 24) (ur_16.1 25) (ur_16.1 26)) ∧ (I7 (ur_16.1 41) (ur_16.1 42) (ur_16.1 44) (ur_16.1 45) (ur_16.1 46)) ∧ (I8 (ur_16.1 20) (ur_16.1 30) (ur_16.1 37) (ur_16.1 36)) ∧ (0 ≤ ur_16.2.2.toInt ∧ ur_16.2.2.toInt ≤ 24) ∧ Z = ur_16.1 ∧ cdz = ur_16.2.1 ∧ pkz = ur_16.2.2)
abbrev D_X10_replied_s1 (A : AA) (cd : Int32) (pk : Int32) (p0 : Int32) (Z : AA) (cdz : Int32) (pkz : Int32) (ur_36 : (Nat → Int32)) (ur_37 : (Nat → Int32) × (Nat → Int32) × (Nat → Int32) × (Nat → Int32) × (Nat → Int32) × (Nat → Int32) × (Nat → Int32) × (Nat → Int32) × (Nat → Int32) × (Nat → Int32) × (Nat → Int32) × (Nat → Int32) × (Nat → Int32) × (Nat → Int32) × (Nat → Int32) × (Nat → Int32)) : Prop := (D_X10_answerOne (uA A 4 ur_36) cd pk p0 (uA (uA (uA (uA (uA (uA (uA (uA (uA (uA (uA (uA (uA (uA (uA (uA (uA A 4 ur_36) 8 (ur_37.1)) 9 (ur_37.2.1)) 12 (ur_37.2.2.1)) 15 (ur_37.2.2.2.1)) 16 (ur_37.2.2.2.2.1)) 17 (ur_37.2.2.2.2.2.1)) 18 (ur_37.2.2.2.2.2.2.1)) 20 (ur_37.2.2.2.2.2.2.2.1)) 22 (ur_37.2.2.2.2.2.2.2.2.1)) 23 (ur_37.2.2.2.2.2.2.2.2.2.1)) 24 (ur_37.2.2.2.2.2.2.2.2.2.2.1)) 25 (ur_37.2.2.2.2.2.2.2.2.2.2.2.1)) 26 (ur_37.2.2.2.2.2.2.2.2.2.2.2.2.1)) 27 (ur_37.2.2.2.2.2.2.2.2.2.2.2.2.2.1)) 28 (ur_37.2.2.2.2.2.2.2.2.2.2.2.2.2.2.1)) 29 (ur_37.2.2.2.2.2.2.2.2.2.2.2.2.2.2.2)) cd pk) ∧ (I3 (ur_37.1)) ∧ (I4 (A 10) (ur_37.2.2.2.2.2.2.2.1) (ur_37.2.2.2.2.2.2.2.2.2.2.2.2.2.2.2) (ur_37.2.2.2.2.2.2.2.2.2.2.1) (A 11) (ur_37.2.2.1) (A 13)) ∧ (I6 (ur_37.2.2.2.2.2.2.2.2.1) (ur_37.2.2.2.2.2.2.2.2.2.1) (ur_37.2.2.2.2.2.2.2.2.2.2.1) (ur_37.2.2.2.2.2.2.2.2.2.2.2.1) (ur_37.2.2.2.2.2.2.2.2.2.2.2.2.1)) ∧ (I8 (ur_37.2.2.2.2.2.2.2.1) (A 30) (A 37) (A 36)) ∧ (∀ n : Nat, (n : Int) = p0.toInt → (farI ((ur_37.2.2.1) n) ((A 13) n)).toInt = (farI ((A 12) n) ((A 13) n)).toInt - 1) ∧ (Z = (uA (uA (uA (uA (uA (uA (uA (uA (uA (uA (uA (uA (uA (uA (uA (uA (uA A 4 ur_36) 8 (ur_37.1)) 9 (ur_37.2.1)) 12 (ur_37.2.2.1)) 15 (ur_37.2.2.2.1)) 16 (ur_37.2.2.2.2.1)) 17 (ur_37.2.2.2.2.2.1)) 18 (ur_37.2.2.2.2.2.2.1)) 20 (ur_37.2.2.2.2.2.2.2.1)) 22 (ur_37.2.2.2.2.2.2.2.2.1)) 23 (ur_37.2.2.2.2.2.2.2.2.2.1)) 24 (ur_37.2.2.2.2.2.2.2.2.2.2.1)) 25 (ur_37.2.2.2.2.2.2.2.2.2.2.2.1)) 26 (ur_37.2.2.2.2.2.2.2.2.2.2.2.2.1)) 27 (ur_37.2.2.2.2.2.2.2.2.2.2.2.2.2.1)) 28 (ur_37.2.2.2.2.2.2.2.2.2.2.2.2.2.2.1)) 29 (ur_37.2.2.2.2.2.2.2.2.2.2.2.2.2.2.2))) ∧ (cdz = cd) ∧ (pkz = pk)
abbrev D_X10_replied_s2 (A : AA) (cd : Int32) (pk : Int32) (p0 : Int32) (Z : AA) (cdz : Int32) (pkz : Int32) (n_1 : Nat) (x_18 : Int32) (x_24 : Int32) (x_26 : Int32) (x_29 : Int32) : Prop := (x_29.toInt = x_26.toInt + ((A 23) (4 * n_1)).toInt) ∧ ∃ x_30 : Int32, (x_30 = x_29 + x_18) ∧ (x_30.toInt = x_29.toInt + x_18.toInt) ∧ (x_24.toInt ≤ ((A 44) 24).toInt) ∧ ∃ ur_36 : (Nat → Int32), (D_X10_takeCells A cd pk x_30 x_24 (uA A 4 ur_36) cd pk) ∧ ∃ ur_37 : (Nat → Int32) × (Nat → Int32) × (Nat → Int32) × (Nat → Int32) × (Nat → Int32) × (Nat → Int32) × (Nat → Int32) × (Nat → Int32) × (Nat → Int32) × (Nat → Int32) × (Nat → Int32) × (Nat → Int32) × (Nat → Int32) × (Nat → Int32) × (Nat → Int32) × (Nat → Int32), (D_X10_replied_s1 A cd pk p0 Z cdz pkz ur_36 ur_37)
abbrev D_X10_replied_s3 (A : AA) (cd : Int32) (pk : Int32) (p0 : Int32) (Z : AA) (cdz : Int32) (pkz : Int32) (n_1 : Nat) : Prop := ∃ x_17 : Int32, (x_17 = ((((A 12) n_1) - ((A 29) (4 * n_1))) + 64) - ((((A 12) n_1) - ((A 29) (4 * n_1))) + 64) / 64 * 64) ∧ ∃ x_18 : Int32, (x_18 = 4 * x_17) ∧ (x_18.toInt = 4 * x_17.toInt) ∧ ∃ x_24 : Int32, (x_24 = ((A 24) (4 * n_1)) - x_18) ∧ (x_24.toInt = ((A 24) (4 * n_1)).toInt - x_18.toInt) ∧ (∃ x_25 : Int32, (x_25 = p0 - p0 / 2 * 2) ∧ (x_25.toInt = p0.toInt % 2) ∧ ∃ x_26 : Int32, (x_26 = 32 * x_25) ∧ (x_26.toInt = 32 * x_25.toInt) ∧ ∃ x_29 : Int32, (x_29 = x_26 + ((A 23) (4 * n_1))) ∧ (D_X10_replied_s2 A cd pk p0 Z cdz pkz n_1 x_18 x_24 x_26 x_29))
abbrev D_X10_replied_s4 (A : AA) (cd : Int32) (pk : Int32) (p0 : Int32) (Z : AA) (cdz : Int32) (pkz : Int32) : Prop := ∃ n_1 : Nat, ((n_1 : Int) = p0.toInt) ∧ (((A 43) 24).toInt = ((A 12) n_1).toInt) ∧ (¬ ((A 13) n_1).toInt = ((A 12) n_1).toInt) ∧ (∃ r_10 : Int32, (0 ≤ r_10.toInt ∧ r_10.toInt ≤ 15) ∧ (∀ n : Nat, (n : Int) = p0.toInt → RO (A 29) (A 24) n ((A 12) n_1) r_10.toInt) ∧ (((4 * n_1 : Nat) : Int) = r_10.toInt) ∧ ∃ r_12 : Int32, (D_X10_hasCells A cd pk r_10 r_12) ∧ (r_12 = 0 ∨ r_12 = 1) ∧ (¬ r_12.toInt = 0) ∧ (D_X10_replied_s3 A cd pk p0 Z cdz pkz n_1))
abbrev D_X10_replied_s5 (A : AA) (cd : Int32) (pk : Int32) (p0 : Int32) (Z : AA) (cdz : Int32) (pkz : Int32) (ur_39 : (Nat → Int32)) (ur_40 : (Nat → Int32) × (Nat → Int32) × (Nat → Int32) × (Nat → Int32) × (Nat → Int32) × (Nat → Int32) × (Nat → Int32) × (Nat → Int32) × (Nat → Int32) × (Nat → Int32) × (Nat → Int32) × (Nat → Int32) × (Nat → Int32) × (Nat → Int32) × (Nat → Int32) × (Nat → Int32)) : Prop := (D_X10_answerOne (uA A 4 ur_39) cd pk p0 (uA (uA (uA (uA (uA (uA (uA (uA (uA (uA (uA (uA (uA (uA (uA (uA (uA A 4 ur_39) 8 (ur_40.1)) 9 (ur_40.2.1)) 12 (ur_40.2.2.1)) 15 (ur_40.2.2.2.1)) 16 (ur_40.2.2.2.2.1)) 17 (ur_40.2.2.2.2.2.1)) 18 (ur_40.2.2.2.2.2.2.1)) 20 (ur_40.2.2.2.2.2.2.2.1)) 22 (ur_40.2.2.2.2.2.2.2.2.1)) 23 (ur_40.2.2.2.2.2.2.2.2.2.1)) 24 (ur_40.2.2.2.2.2.2.2.2.2.2.1)) 25 (ur_40.2.2.2.2.2.2.2.2.2.2.2.1)) 26 (ur_40.2.2.2.2.2.2.2.2.2.2.2.2.1)) 27 (ur_40.2.2.2.2.2.2.2.2.2.2.2.2.2.1)) 28 (ur_40.2.2.2.2.2.2.2.2.2.2.2.2.2.2.1)) 29 (ur_40.2.2.2.2.2.2.2.2.2.2.2.2.2.2.2)) cd pk) ∧ (I3 (ur_40.1)) ∧ (I4 (A 10) (ur_40.2.2.2.2.2.2.2.1) (ur_40.2.2.2.2.2.2.2.2.2.2.2.2.2.2.2) (ur_40.2.2.2.2.2.2.2.2.2.2.1) (A 11) (ur_40.2.2.1) (A 13)) ∧ (I6 (ur_40.2.2.2.2.2.2.2.2.1) (ur_40.2.2.2.2.2.2.2.2.2.1) (ur_40.2.2.2.2.2.2.2.2.2.2.1) (ur_40.2.2.2.2.2.2.2.2.2.2.2.1) (ur_40.2.2.2.2.2.2.2.2.2.2.2.2.1)) ∧ (I8 (ur_40.2.2.2.2.2.2.2.1) (A 30) (A 37) (A 36)) ∧ (∀ n : Nat, (n : Int) = p0.toInt → (farI ((ur_40.2.2.1) n) ((A 13) n)).toInt = (farI ((A 12) n) ((A 13) n)).toInt - 1) ∧ (Z = (uA (uA (uA (uA (uA (uA (uA (uA (uA (uA (uA (uA (uA (uA (uA (uA (uA A 4 ur_39) 8 (ur_40.1)) 9 (ur_40.2.1)) 12 (ur_40.2.2.1)) 15 (ur_40.2.2.2.1)) 16 (ur_40.2.2.2.2.1)) 17 (ur_40.2.2.2.2.2.1)) 18 (ur_40.2.2.2.2.2.2.1)) 20 (ur_40.2.2.2.2.2.2.2.1)) 22 (ur_40.2.2.2.2.2.2.2.2.1)) 23 (ur_40.2.2.2.2.2.2.2.2.2.1)) 24 (ur_40.2.2.2.2.2.2.2.2.2.2.1)) 25 (ur_40.2.2.2.2.2.2.2.2.2.2.2.1)) 26 (ur_40.2.2.2.2.2.2.2.2.2.2.2.2.1)) 27 (ur_40.2.2.2.2.2.2.2.2.2.2.2.2.2.1)) 28 (ur_40.2.2.2.2.2.2.2.2.2.2.2.2.2.2.1)) 29 (ur_40.2.2.2.2.2.2.2.2.2.2.2.2.2.2.2))) ∧ (cdz = cd) ∧ (pkz = pk)
abbrev D_X10_replied_s6 (A : AA) (cd : Int32) (pk : Int32) (p0 : Int32) (Z : AA) (cdz : Int32) (pkz : Int32) (n_1 : Nat) (x_18 : Int32) (x_24 : Int32) (x_26 : Int32) (x_29 : Int32) : Prop := (x_29.toInt = x_26.toInt + ((A 23) (4 * n_1)).toInt) ∧ ∃ x_30 : Int32, (x_30 = x_29 + x_18) ∧ (x_30.toInt = x_29.toInt + x_18.toInt) ∧ (¬ x_24.toInt ≤ ((A 44) 24).toInt) ∧ ∃ ur_39 : (Nat → Int32), (D_X10_takeCells A cd pk x_30 ((A 44) 24) (uA A 4 ur_39) cd pk) ∧ ∃ ur_40 : (Nat → Int32) × (Nat → Int32) × (Nat → Int32) × (Nat → Int32) × (Nat → Int32) × (Nat → Int32) × (Nat → Int32) × (Nat → Int32) × (Nat → Int32) × (Nat → Int32) × (Nat → Int32) × (Nat → Int32) × (Nat → Int32) × (Nat → Int32) × (Nat → Int32) × (Nat → Int32), (D_X10_replied_s5 A cd pk p0 Z cdz pkz ur_39 ur_40)
abbrev D_X10_replied_s7 (A : AA) (cd : Int32) (pk : Int32) (p0 : Int32) (Z : AA) (cdz : Int32) (pkz : Int32) (n_1 : Nat) : Prop := ∃ x_17 : Int32, (x_17 = ((((A 12) n_1) - ((A 29) (4 * n_1))) + 64) - ((((A 12) n_1) - ((A 29) (4 * n_1))) + 64) / 64 * 64) ∧ ∃ x_18 : Int32, (x_18 = 4 * x_17) ∧ (x_18.toInt = 4 * x_17.toInt) ∧ ∃ x_24 : Int32, (x_24 = ((A 24) (4 * n_1)) - x_18) ∧ (x_24.toInt = ((A 24) (4 * n_1)).toInt - x_18.toInt) ∧ (∃ x_25 : Int32, (x_25 = p0 - p0 / 2 * 2) ∧ (x_25.toInt = p0.toInt % 2) ∧ ∃ x_26 : Int32, (x_26 = 32 * x_25) ∧ (x_26.toInt = 32 * x_25.toInt) ∧ ∃ x_29 : Int32, (x_29 = x_26 + ((A 23) (4 * n_1))) ∧ (D_X10_replied_s6 A cd pk p0 Z cdz pkz n_1 x_18 x_24 x_26 x_29))
abbrev D_X10_replied_s8 (A : AA) (cd : Int32) (pk : Int32) (p0 : Int32) (Z : AA) (cdz : Int32) (pkz : Int32) : Prop := ∃ n_1 : Nat, ((n_1 : Int) = p0.toInt) ∧ (((A 43) 24).toInt = ((A 12) n_1).toInt) ∧ (¬ ((A 13) n_1).toInt = ((A 12) n_1).toInt) ∧ (∃ r_10 : Int32, (0 ≤ r_10.toInt ∧ r_10.toInt ≤ 15) ∧ (∀ n : Nat, (n : Int) = p0.toInt → RO (A 29) (A 24) n ((A 12) n_1) r_10.toInt) ∧ (((4 * n_1 : Nat) : Int) = r_10.toInt) ∧ ∃ r_12 : Int32, (D_X10_hasCells A cd pk r_10 r_12) ∧ (r_12 = 0 ∨ r_12 = 1) ∧ (¬ r_12.toInt = 0) ∧ (D_X10_replied_s7 A cd pk p0 Z cdz pkz n_1))
abbrev D_X10_replied_s9 (A : AA) (cd : Int32) (pk : Int32) (p0 : Int32) (Z : AA) (cdz : Int32) (pkz : Int32) (n_1 : Nat) (r_10 : Int32) : Prop := (∀ n : Nat, (n : Int) = p0.toInt → RO (A 29) (A 24) n ((A 12) n_1) r_10.toInt) ∧ (((4 * n_1 : Nat) : Int) = r_10.toInt) ∧ ∃ r_12 : Int32, (D_X10_hasCells A cd pk r_10 r_12) ∧ (r_12 = 0 ∨ r_12 = 1) ∧ (r_12.toInt = 0) ∧ (Z = (uA (uA (uA (uA (uA (uA (uA (uA (uA (uA (uA (uA (uA (uA (uA (uA (uA A 4 (A 4)) 8 (A 8)) 9 (A 9)) 12 (A 12)) 15 (A 15)) 16 (A 16)) 17 (A 17)) 18 (A 18)) 20 (A 20)) 22 (A 22)) 23 (A 23)) 24 (A 24)) 25 (A 25)) 26 (A 26)) 27 (A 27)) 28 (A 28)) 29 (A 29))) ∧ (cdz = cd) ∧ (pkz = pk)
abbrev D_X10_replied_s10 (A : AA) (cd : Int32) (pk : Int32) (p0 : Int32) (Z : AA) (cdz : Int32) (pkz : Int32) : Prop := ∃ n_1 : Nat, ((n_1 : Int) = p0.toInt) ∧ (((A 43) 24).toInt = ((A 12) n_1).toInt) ∧ (((A 13) n_1).toInt = ((A 12) n_1).toInt) ∧ (Z = (uA (uA (uA (uA (uA (uA (uA (uA (uA (uA (uA (uA (uA (uA (uA (uA (uA A 4 (A 4)) 8 (A 8)) 9 (A 9)) 12 (A 12)) 15 (A 15)) 16 (A 16)) 17 (A 17)) 18 (A 18)) 20 (A 20)) 22 (A 22)) 23 (A 23)) 24 (A 24)) 25 (A 25)) 26 (A 26)) 27 (A 27)) 28 (A 28)) 29 (A 29))) ∧ (cdz = cd) ∧ (pkz = pk)
def D_X10_replied (A : AA) (cd pk : Int32) (p0 : Int32) (Z : AA) (cdz pkz : Int32) : Prop := (∃ n_1 : Nat, ((n_1 : Int) = p0.toInt) ∧ (¬ ((A 43) 24).toInt = ((A 12) n_1).toInt) ∧ (Z = (uA (uA (uA (uA (uA (uA (uA (uA (uA (uA (uA (uA (uA (uA (uA (uA (uA A 4 (A 4)) 8 (A 8)) 9 (A 9)) 12 (A 12)) 15 (A 15)) 16 (A 16)) 17 (A 17)) 18 (A 18)) 20 (A 20)) 22 (A 22)) 23 (A 23)) 24 (A 24)) 25 (A 25)) 26 (A 26)) 27 (A 27)) 28 (A 28)) 29 (A 29))) ∧ (cdz = cd) ∧ (pkz = pk)) ∨ (D_X10_replied_s4 A cd pk p0 Z cdz pkz) ∨ (D_X10_replied_s8 A cd pk p0 Z cdz pkz) ∨ (∃ n_1 : Nat, ((n_1 : Int) = p0.toInt) ∧ (((A 43) 24).toInt = ((A 12) n_1).toInt) ∧ (¬ ((A 13) n_1).toInt = ((A 12) n_1).toInt) ∧ ∃ r_10 : Int32, (0 ≤ r_10.toInt ∧ r_10.toInt ≤ 15) ∧ (D_X10_replied_s9 A cd pk p0 Z cdz pkz n_1 r_10)) ∨ (D_X10_replied_s10 A cd pk p0 Z cdz pkz)
abbrev D_X10_refused_s1 (t2 : Int32) (A : AA) (cd : Int32) (pk : Int32) (Z : AA) (cdz : Int32) (pkz : Int32) (n_1 : Nat) (ur_11 : (Nat → Int32) × (Nat → Int32) × (Nat → Int32) × (Nat → Int32) × (Nat → Int32) × (Nat → Int32) × (Nat → Int32) × (Nat → Int32) × (Nat → Int32) × (Nat → Int32) × (Nat → Int32) × (Nat → Int32) × (Nat → Int32) × (Nat → Int32) × (Nat → Int32) × (Nat → Int32)) (g_17 : Nat → Int32) (g_19 : Nat → Int32) (g_20 : Nat → Int32) : Prop := (g_20 = upd (ur_11.2.2.2.1) n_1 0) ∧ ∃ x_22 : Int32, (x_22 = ((ur_11.2.2.2.2.2.1) n_1) + 1) ∧ ∃ g_23 : Nat → Int32, (g_23 = upd (ur_11.2.2.2.2.2.1) n_1 x_22) ∧ (x_22.toInt ≤ t2.toInt) ∧ (Z = (uA (uA (uA (uA (uA (uA (uA (uA (uA (uA (uA (uA (uA (uA (uA (uA (uA (uA (uA (uA A 8 (ur_11.1)) 9 (ur_11.2.1)) 12 (ur_11.2.2.1)) 15 (ur_11.2.2.2.1)) 16 (ur_11.2.2.2.2.1)) 17 (ur_11.2.2.2.2.2.1)) 18 (ur_11.2.2.2.2.2.2.1)) 20 (ur_11.2.2.2.2.2.2.2.1)) 22 (ur_11.2.2.2.2.2.2.2.2.1)) 23 (ur_11.2.2.2.2.2.2.2.2.2.1)) 24 (ur_11.2.2.2.2.2.2.2.2.2.2.1)) 25 (ur_11.2.2.2.2.2.2.2.2.2.2.2.1)) 26 (ur_11.2.2.2.2.2.2.2.2.2.2.2.2.1)) 27 (ur_11.2.2.2.2.2.2.2.2.2.2.2.2.2.1)) 28 (ur_11.2.2.2.2.2.2.2.2.2.2.2.2.2.2.1)) 29 (ur_11.2.2.2.2.2.2.2.2.2.2.2.2.2.2.2)) 13 g_17) 18 g_19) 15 g_20) 17 g_23)) ∧ (cdz = cd) ∧ (pkz = pk)
abbrev D_X10_refused_s2 (t2 : Int32) (A : AA) (cd : Int32) (pk : Int32) (p0 : Int32) (Z : AA) (cdz : Int32) (pkz : Int32) (n_1 : Nat) (x_5 : Int32) (x_9 : Int32) : Prop := (x_9.toInt = (((A 13) n_1).toInt - ((A 12) n_1).toInt + 64) % 64) ∧ (x_5.toInt < x_9.toInt) ∧ ∃ ur_11 : (Nat → Int32) × (Nat → Int32) × (Nat → Int32) × (Nat → Int32) × (Nat → Int32) × (Nat → Int32) × (Nat → Int32) × (Nat → Int32) × (Nat → Int32) × (Nat → Int32) × (Nat → Int32) × (Nat → Int32) × (Nat → Int32) × (Nat → Int32) × (Nat → Int32) × (Nat → Int32), (D_X10_answerSome A cd pk p0 x_5 (uA (uA (uA (uA (uA (uA (uA (uA (uA (uA (uA (uA (uA (uA (uA (uA A 8 (ur_11.1)) 9 (ur_11.2.1)) 12 (ur_11.2.2.1)) 15 (ur_11.2.2.2.1)) 16 (ur_11.2.2.2.2.1)) 17 (ur_11.2.2.2.2.2.1)) 18 (ur_11.2.2.2.2.2.2.1)) 20 (ur_11.2.2.2.2.2.2.2.1)) 22 (ur_11.2.2.2.2.2.2.2.2.1)) 23 (ur_11.2.2.2.2.2.2.2.2.2.1)) 24 (ur_11.2.2.2.2.2.2.2.2.2.2.1)) 25 (ur_11.2.2.2.2.2.2.2.2.2.2.2.1)) 26 (ur_11.2.2.2.2.2.2.2.2.2.2.2.2.1)) 27 (ur_11.2.2.2.2.2.2.2.2.2.2.2.2.2.1)) 28 (ur_11.2.2.2.2.2.2.2.2.2.2.2.2.2.2.1)) 29 (ur_11.2.2.2.2.2.2.2.2.2.2.2.2.2.2.2)) cd pk) ∧ (I3 (ur_11.1)) ∧ (I4 (A 10) (ur_11.2.2.2.2.2.2.2.1) (ur_11.2.2.2.2.2.2.2.2.2.2.2.2.2.2.2) (ur_11.2.2.2.2.2.2.2.2.2.2.1) (A 11) (ur_11.2.2.1) (A 13)) ∧ (I6 (ur_11.2.2.2.2.2.2.2.2.1) (ur_11.2.2.2.2.2.2.2.2.2.1) (ur_11.2.2.2.2.2.2.2.2.2.2.1) (ur_11.2.2.2.2.2.2.2.2.2.2.2.1) (ur_11.2.2.2.2.2.2.2.2.2.2.2.2.1)) ∧ (I8 (ur_11.2.2.2.2.2.2.2.1) (A 30) (A 37) (A 36)) ∧ ((((A 43) 24).toInt = ((ur_11.2.2.1) n_1).toInt) ∧ (((A 45) 24).toInt < 3) ∧ ∃ g_17 : Nat → Int32, (g_17 = upd (A 13) n_1 ((ur_11.2.2.1) n_1)) ∧ (¬ ((A 45) 24).toInt = 1) ∧ ∃ g_19 : Nat → Int32, (g_19 = upd (ur_11.2.2.2.2.2.2.1) n_1 1) ∧ ∃ g_20 : Nat → Int32, (D_X10_refused_s1 t2 A cd pk Z cdz pkz n_1 ur_11 g_17 g_19 g_20))
abbrev D_X10_refused_s3 (t2 : Int32) (A : AA) (cd : Int32) (pk : Int32) (p0 : Int32) (Z : AA) (cdz : Int32) (pkz : Int32) (ur_11 : (Nat → Int32) × (Nat → Int32) × (Nat → Int32) × (Nat → Int32) × (Nat → Int32) × (Nat → Int32) × (Nat → Int32) × (Nat → Int32) × (Nat → Int32) × (Nat → Int32) × (Nat → Int32) × (Nat → Int32) × (Nat → Int32) × (Nat → Int32) × (Nat → Int32) × (Nat → Int32)) (g_17 : Nat → Int32) (g_19 : Nat → Int32) (g_20 : Nat → Int32) (x_22 : Int32) (g_23 : Nat → Int32) : Prop := (¬ x_22.toInt ≤ t2.toInt) ∧ ∃ ur_28 : (Nat → Int32) × (Nat → Int32) × (Nat → Int32) × (Nat → Int32) × (Nat → Int32) × (Nat → Int32) × (Nat → Int32), (D_X10_failPair (uA (uA (uA (uA (uA (uA (uA (uA (uA (uA (uA (uA (uA (uA (uA (uA (uA (uA (uA (uA A 8 (ur_11.1)) 9 (ur_11.2.1)) 12 (ur_11.2.2.1)) 15 (ur_11.2.2.2.1)) 16 (ur_11.2.2.2.2.1)) 17 (ur_11.2.2.2.2.2.1)) 18 (ur_11.2.2.2.2.2.2.1)) 20 (ur_11.2.2.2.2.2.2.2.1)) 22 (ur_11.2.2.2.2.2.2.2.2.1)) 23 (ur_11.2.2.2.2.2.2.2.2.2.1)) 24 (ur_11.2.2.2.2.2.2.2.2.2.2.1)) 25 (ur_11.2.2.2.2.2.2.2.2.2.2.2.1)) 26 (ur_11.2.2.2.2.2.2.2.2.2.2.2.2.1)) 27 (ur_11.2.2.2.2.2.2.2.2.2.2.2.2.2.1)) 28 (ur_11.2.2.2.2.2.2.2.2.2.2.2.2.2.2.1)) 29 (ur_11.2.2.2.2.2.2.2.2.2.2.2.2.2.2.2)) 13 g_17) 18 g_19) 15 g_20) 17 g_23) cd pk p0 (2 : Int32) (0 : Int32) (uA (uA (uA (uA (uA (uA (uA (uA (uA (uA (uA (uA (uA (uA (uA (uA (uA (uA (uA (uA (uA (uA (uA (uA (uA (uA (uA A 8 (ur_11.1)) 9 (ur_11.2.1)) 12 (ur_11.2.2.1)) 15 (ur_11.2.2.2.1)) 16 (ur_11.2.2.2.2.1)) 17 (ur_11.2.2.2.2.2.1)) 18 (ur_11.2.2.2.2.2.2.1)) 20 (ur_11.2.2.2.2.2.2.2.1)) 22 (ur_11.2.2.2.2.2.2.2.2.1)) 23 (ur_11.2.2.2.2.2.2.2.2.2.1)) 24 (ur_11.2.2.2.2.2.2.2.2.2.2.1)) 25 (ur_11.2.2.2.2.2.2.2.2.2.2.2.1)) 26 (ur_11.2.2.2.2.2.2.2.2.2.2.2.2.1)) 27 (ur_11.2.2.2.2.2.2.2.2.2.2.2.2.2.1)) 28 (ur_11.2.2.2.2.2.2.2.2.2.2.2.2.2.2.1)) 29 (ur_11.2.2.2.2.2.2.2.2.2.2.2.2.2.2.2)) 13 g_17) 18 g_19) 15 g_20) 17 g_23) 8 (ur_28.1)) 9 (ur_28.2.1)) 10 (ur_28.2.2.1)) 18 (ur_28.2.2.2.1)) 20 (ur_28.2.2.2.2.1)) 30 (ur_28.2.2.2.2.2.1)) 36 (ur_28.2.2.2.2.2.2)) cd pk) ∧ (I3 (ur_28.1)) ∧ (I4 (ur_28.2.2.1) (ur_28.2.2.2.2.1) (ur_11.2.2.2.2.2.2.2.2.2.2.2.2.2.2.2) (ur_11.2.2.2.2.2.2.2.2.2.2.1) (A 11) (ur_11.2.2.1) g_17) ∧ (I8 (ur_28.2.2.2.2.1) (ur_28.2.2.2.2.2.1) (A 37) (ur_28.2.2.2.2.2.2)) ∧ (Z = (uA (uA (uA (uA (uA (uA (uA (uA (uA (uA (uA (uA (uA (uA (uA (uA (uA (uA (uA (uA (uA (uA (uA (uA (uA (uA (uA A 8 (ur_11.1)) 9 (ur_11.2.1)) 12 (ur_11.2.2.1)) 15 (ur_11.2.2.2.1)) 16 (ur_11.2.2.2.2.1)) 17 (ur_11.2.2.2.2.2.1)) 18 (ur_11.2.2.2.2.2.2.1)) 20 (ur_11.2.2.2.2.2.2.2.1)) 22 (ur_11.2.2.2.2.2.2.2.2.1)) 23 (ur_11.2.2.2.2.2.2.2.2.2.1)) 24 (ur_11.2.2.2.2.2.2.2.2.2.2.1)) 25 (ur_11.2.2.2.2.2.2.2.2.2.2.2.1)) 26 (ur_11.2.2.2.2.2.2.2.2.2.2.2.2.1)) 27 (ur_11.2.2.2.2.2.2.2.2.2.2.2.2.2.1)) 28 (ur_11.2.2.2.2.2.2.2.2.2.2.2.2.2.2.1)) 29 (ur_11.2.2.2.2.2.2.2.2.2.2.2.2.2.2.2)) 13 g_17) 18 g_19) 15 g_20) 17 g_23) 8 (ur_28.1)) 9 (ur_28.2.1)) 10 (ur_28.2.2.1)) 18 (ur_28.2.2.2.1)) 20 (ur_28.2.2.2.2.1)) 30 (ur_28.2.2.2.2.2.1)) 36 (ur_28.2.2.2.2.2.2))) ∧ (cdz = cd) ∧ (pkz = pk)
abbrev D_X10_refused_s4 (t2 : Int32) (A : AA) (cd : Int32) (pk : Int32) (p0 : Int32) (Z : AA) (cdz : Int32) (pkz : Int32) (n_1 : Nat) (ur_11 : (Nat → Int32) × (Nat → Int32) × (Nat → Int32) × (Nat → Int32) × (Nat → Int32) × (Nat → Int32) × (Nat → Int32) × (Nat → Int32) × (Nat → Int32) × (Nat → Int32) × (Nat → Int32) × (Nat → Int32) × (Nat → Int32) × (Nat → Int32) × (Nat → Int32) × (Nat → Int32)) : Prop := (I4 (A 10) (ur_11.2.2.2.2.2.2.2.1) (ur_11.2.2.2.2.2.2.2.2.2.2.2.2.2.2.2) (ur_11.2.2.2.2.2.2.2.2.2.2.1) (A 11) (ur_11.2.2.1) (A 13)) ∧ (I6 (ur_11.2.2.2.2.2.2.2.2.1) (ur_11.2.2.2.2.2.2.2.2.2.1) (ur_11.2.2.2.2.2.2.2.2.2.2.1) (ur_11.2.2.2.2.2.2.2.2.2.2.2.1) (ur_11.2.2.2.2.2.2.2.2.2.2.2.2.1)) ∧ (I8 (ur_11.2.2.2.2.2.2.2.1) (A 30) (A 37) (A 36)) ∧ (((A 43) 24).toInt = ((ur_11.2.2.1) n_1).toInt) ∧ (((A 45) 24).toInt < 3) ∧ ∃ g_17 : Nat → Int32, (g_17 = upd (A 13) n_1 ((ur_11.2.2.1) n_1)) ∧ (¬ ((A 45) 24).toInt = 1) ∧ (∃ g_19 : Nat → Int32, (g_19 = upd (ur_11.2.2.2.2.2.2.1) n_1 1) ∧ ∃ g_20 : Nat → Int32, (g_20 = upd (ur_11.2.2.2.1) n_1 0) ∧ ∃ x_22 : Int32, (x_22 = ((ur_11.2.2.2.2.2.1) n_1) + 1) ∧ ∃ g_23 : Nat → Int32, (g_23 = upd (ur_11.2.2.2.2.2.1) n_1 x_22) ∧ (D_X10_refused_s3 t2 A cd pk p0 Z cdz pkz ur_11 g_17 g_19 g_20 x_22 g_23))
abbrev D_X10_refused_s5 (t2 : Int32) (A : AA) (cd : Int32) (pk : Int32) (p0 : Int32) (Z : AA) (cdz : Int32) (pkz : Int32) (n_1 : Nat) (x_5 : Int32) : Prop := (x_5 = ((((A 43) 24) - ((A 12) n_1)) + 64) - ((((A 43) 24) - ((A 12) n_1)) + 64) / 64 * 64) ∧ ∃ x_9 : Int32, (x_9 = ((((A 13) n_1) - ((A 12) n_1)) + 64) - ((((A 13) n_1) - ((A 12) n_1)) + 64) / 64 * 64) ∧ (x_9.toInt = (((A 13) n_1).toInt - ((A 12) n_1).toInt + 64) % 64) ∧ (x_5.toInt < x_9.toInt) ∧ ∃ ur_11 : (Nat → Int32) × (Nat → Int32) × (Nat → Int32) × (Nat → Int32) × (Nat → Int32) × (Nat → Int32) × (Nat → Int32) × (Nat → Int32) × (Nat → Int32) × (Nat → Int32) × (Nat → Int32) × (Nat → Int32) × (Nat → Int32) × (Nat → Int32) × (Nat → Int32) × (Nat → Int32), (D_X10_answerSome A cd pk p0 x_5 (uA (uA (uA (uA (uA (uA (uA (uA (uA (uA (uA (uA (uA (uA (uA (uA A 8 (ur_11.1)) 9 (ur_11.2.1)) 12 (ur_11.2.2.1)) 15 (ur_11.2.2.2.1)) 16 (ur_11.2.2.2.2.1)) 17 (ur_11.2.2.2.2.2.1)) 18 (ur_11.2.2.2.2.2.2.1)) 20 (ur_11.2.2.2.2.2.2.2.1)) 22 (ur_11.2.2.2.2.2.2.2.2.1)) 23 (ur_11.2.2.2.2.2.2.2.2.2.1)) 24 (ur_11.2.2.2.2.2.2.2.2.2.2.1)) 25 (ur_11.2.2.2.2.2.2.2.2.2.2.2.1)) 26 (ur_11.2.2.2.2.2.2.2.2.2.2.2.2.1)) 27 (ur_11.2.2.2.2.2.2.2.2.2.2.2.2.2.1)) 28 (ur_11.2.2.2.2.2.2.2.2.2.2.2.2.2.2.1)) 29 (ur_11.2.2.2.2.2.2.2.2.2.2.2.2.2.2.2)) cd pk) ∧ (I3 (ur_11.1)) ∧ (D_X10_refused_s4 t2 A cd pk p0 Z cdz pkz n_1 ur_11)
abbrev D_X10_refused_s6 (A : AA) (cd : Int32) (pk : Int32) (Z : AA) (cdz : Int32) (pkz : Int32) (n_1 : Nat) (ur_11 : (Nat → Int32) × (Nat → Int32) × (Nat → Int32) × (Nat → Int32) × (Nat → Int32) × (Nat → Int32) × (Nat → Int32) × (Nat → Int32) × (Nat → Int32) × (Nat → Int32) × (Nat → Int32) × (Nat → Int32) × (Nat → Int32) × (Nat → Int32) × (Nat → Int32) × (Nat → Int32)) : Prop := (I8 (ur_11.2.2.2.2.2.2.2.1) (A 30) (A 37) (A 36)) ∧ (((A 43) 24).toInt = ((ur_11.2.2.1) n_1).toInt) ∧ (((A 45) 24).toInt < 3) ∧ ∃ g_17 : Nat → Int32, (g_17 = upd (A 13) n_1 ((ur_11.2.2.1) n_1)) ∧ (((A 45) 24).toInt = 1) ∧ (Z = (uA (uA (uA (uA (uA (uA (uA (uA (uA (uA (uA (uA (uA (uA (uA (uA (uA A 8 (ur_11.1)) 9 (ur_11.2.1)) 12 (ur_11.2.2.1)) 15 (ur_11.2.2.2.1)) 16 (ur_11.2.2.2.2.1)) 17 (ur_11.2.2.2.2.2.1)) 18 (ur_11.2.2.2.2.2.2.1)) 20 (ur_11.2.2.2.2.2.2.2.1)) 22 (ur_11.2.2.2.2.2.2.2.2.1)) 23 (ur_11.2.2.2.2.2.2.2.2.2.1)) 24 (ur_11.2.2.2.2.2.2.2.2.2.2.1)) 25 (ur_11.2.2.2.2.2.2.2.2.2.2.2.1)) 26 (ur_11.2.2.2.2.2.2.2.2.2.2.2.2.1)) 27 (ur_11.2.2.2.2.2.2.2.2.2.2.2.2.2.1)) 28 (ur_11.2.2.2.2.2.2.2.2.2.2.2.2.2.2.1)) 29 (ur_11.2.2.2.2.2.2.2.2.2.2.2.2.2.2.2)) 13 g_17)) ∧ (cdz = cd) ∧ (pkz = pk)
abbrev D_X10_refused_s7 (A : AA) (cd : Int32) (pk : Int32) (p0 : Int32) (Z : AA) (cdz : Int32) (pkz : Int32) (n_1 : Nat) (x_5 : Int32) (x_9 : Int32) : Prop := (x_9 = ((((A 13) n_1) - ((A 12) n_1)) + 64) - ((((A 13) n_1) - ((A 12) n_1)) + 64) / 64 * 64) ∧ (x_9.toInt = (((A 13) n_1).toInt - ((A 12) n_1).toInt + 64) % 64) ∧ (x_5.toInt < x_9.toInt) ∧ ∃ ur_11 : (Nat → Int32) × (Nat → Int32) × (Nat → Int32) × (Nat → Int32) × (Nat → Int32) × (Nat → Int32) × (Nat → Int32) × (Nat → Int32) × (Nat → Int32) × (Nat → Int32) × (Nat → Int32) × (Nat → Int32) × (Nat → Int32) × (Nat → Int32) × (Nat → Int32) × (Nat → Int32), (D_X10_answerSome A cd pk p0 x_5 (uA (uA (uA (uA (uA (uA (uA (uA (uA (uA (uA (uA (uA (uA (uA (uA A 8 (ur_11.1)) 9 (ur_11.2.1)) 12 (ur_11.2.2.1)) 15 (ur_11.2.2.2.1)) 16 (ur_11.2.2.2.2.1)) 17 (ur_11.2.2.2.2.2.1)) 18 (ur_11.2.2.2.2.2.2.1)) 20 (ur_11.2.2.2.2.2.2.2.1)) 22 (ur_11.2.2.2.2.2.2.2.2.1)) 23 (ur_11.2.2.2.2.2.2.2.2.2.1)) 24 (ur_11.2.2.2.2.2.2.2.2.2.2.1)) 25 (ur_11.2.2.2.2.2.2.2.2.2.2.2.1)) 26 (ur_11.2.2.2.2.2.2.2.2.2.2.2.2.1)) 27 (ur_11.2.2.2.2.2.2.2.2.2.2.2.2.2.1)) 28 (ur_11.2.2.2.2.2.2.2.2.2.2.2.2.2.2.1)) 29 (ur_11.2.2.2.2.2.2.2.2.2.2.2.2.2.2.2)) cd pk) ∧ (I3 (ur_11.1)) ∧ (I4 (A 10) (ur_11.2.2.2.2.2.2.2.1) (ur_11.2.2.2.2.2.2.2.2.2.2.2.2.2.2.2) (ur_11.2.2.2.2.2.2.2.2.2.2.1) (A 11) (ur_11.2.2.1) (A 13)) ∧ (I6 (ur_11.2.2.2.2.2.2.2.2.1) (ur_11.2.2.2.2.2.2.2.2.2.1) (ur_11.2.2.2.2.2.2.2.2.2.2.1) (ur_11.2.2.2.2.2.2.2.2.2.2.2.1) (ur_11.2.2.2.2.2.2.2.2.2.2.2.2.1)) ∧ (D_X10_refused_s6 A cd pk Z cdz pkz n_1 ur_11)
abbrev D_X10_refused_s8 (A : AA) (cd : Int32) (pk : Int32) (p0 : Int32) (Z : AA) (cdz : Int32) (pkz : Int32) (ur_11 : (Nat → Int32) × (Nat → Int32) × (Nat → Int32) × (Nat → Int32) × (Nat → Int32) × (Nat → Int32) × (Nat → Int32) × (Nat → Int32) × (Nat → Int32) × (Nat → Int32) × (Nat → Int32) × (Nat → Int32) × (Nat → Int32) × (Nat → Int32) × (Nat → Int32) × (Nat → Int32)) : Prop := (¬ ((A 45) 24).toInt < 3) ∧ ∃ ur_30 : (Nat → Int32) × (Nat → Int32) × (Nat → Int32) × (Nat → Int32) × (Nat → Int32) × (Nat → Int32) × (Nat → Int32), (D_X10_failPair (uA (uA (uA (uA (uA (uA (uA (uA (uA (uA (uA (uA (uA (uA (uA (uA A 8 (ur_11.1)) 9 (ur_11.2.1)) 12 (ur_11.2.2.1)) 15 (ur_11.2.2.2.1)) 16 (ur_11.2.2.2.2.1)) 17 (ur_11.2.2.2.2.2.1)) 18 (ur_11.2.2.2.2.2.2.1)) 20 (ur_11.2.2.2.2.2.2.2.1)) 22 (ur_11.2.2.2.2.2.2.2.2.1)) 23 (ur_11.2.2.2.2.2.2.2.2.2.1)) 24 (ur_11.2.2.2.2.2.2.2.2.2.2.1)) 25 (ur_11.2.2.2.2.2.2.2.2.2.2.2.1)) 26 (ur_11.2.2.2.2.2.2.2.2.2.2.2.2.1)) 27 (ur_11.2.2.2.2.2.2.2.2.2.2.2.2.2.1)) 28 (ur_11.2.2.2.2.2.2.2.2.2.2.2.2.2.2.1)) 29 (ur_11.2.2.2.2.2.2.2.2.2.2.2.2.2.2.2)) cd pk p0 ((A 45) 24) (0 : Int32) (uA (uA (uA (uA (uA (uA (uA (uA (uA (uA (uA (uA (uA (uA (uA (uA (uA (uA (uA (uA (uA (uA (uA A 8 (ur_11.1)) 9 (ur_11.2.1)) 12 (ur_11.2.2.1)) 15 (ur_11.2.2.2.1)) 16 (ur_11.2.2.2.2.1)) 17 (ur_11.2.2.2.2.2.1)) 18 (ur_11.2.2.2.2.2.2.1)) 20 (ur_11.2.2.2.2.2.2.2.1)) 22 (ur_11.2.2.2.2.2.2.2.2.1)) 23 (ur_11.2.2.2.2.2.2.2.2.2.1)) 24 (ur_11.2.2.2.2.2.2.2.2.2.2.1)) 25 (ur_11.2.2.2.2.2.2.2.2.2.2.2.1)) 26 (ur_11.2.2.2.2.2.2.2.2.2.2.2.2.1)) 27 (ur_11.2.2.2.2.2.2.2.2.2.2.2.2.2.1)) 28 (ur_11.2.2.2.2.2.2.2.2.2.2.2.2.2.2.1)) 29 (ur_11.2.2.2.2.2.2.2.2.2.2.2.2.2.2.2)) 8 (ur_30.1)) 9 (ur_30.2.1)) 10 (ur_30.2.2.1)) 18 (ur_30.2.2.2.1)) 20 (ur_30.2.2.2.2.1)) 30 (ur_30.2.2.2.2.2.1)) 36 (ur_30.2.2.2.2.2.2)) cd pk) ∧ (I3 (ur_30.1)) ∧ (I4 (ur_30.2.2.1) (ur_30.2.2.2.2.1) (ur_11.2.2.2.2.2.2.2.2.2.2.2.2.2.2.2) (ur_11.2.2.2.2.2.2.2.2.2.2.1) (A 11) (ur_11.2.2.1) (A 13)) ∧ (I8 (ur_30.2.2.2.2.1) (ur_30.2.2.2.2.2.1) (A 37) (ur_30.2.2.2.2.2.2)) ∧ (Z = (uA (uA (uA (uA (uA (uA (uA (uA (uA (uA (uA (uA (uA (uA (uA (uA (uA (uA (uA (uA (uA (uA (uA A 8 (ur_11.1)) 9 (ur_11.2.1)) 12 (ur_11.2.2.1)) 15 (ur_11.2.2.2.1)) 16 (ur_11.2.2.2.2.1)) 17 (ur_11.2.2.2.2.2.1)) 18 (ur_11.2.2.2.2.2.2.1)) 20 (ur_11.2.2.2.2.2.2.2.1)) 22 (ur_11.2.2.2.2.2.2.2.2.1)) 23 (ur_11.2.2.2.2.2.2.2.2.2.1)) 24 (ur_11.2.2.2.2.2.2.2.2.2.2.1)) 25 (ur_11.2.2.2.2.2.2.2.2.2.2.2.1)) 26 (ur_11.2.2.2.2.2.2.2.2.2.2.2.2.1)) 27 (ur_11.2.2.2.2.2.2.2.2.2.2.2.2.2.1)) 28 (ur_11.2.2.2.2.2.2.2.2.2.2.2.2.2.2.1)) 29 (ur_11.2.2.2.2.2.2.2.2.2.2.2.2.2.2.2)) 8 (ur_30.1)) 9 (ur_30.2.1)) 10 (ur_30.2.2.1)) 18 (ur_30.2.2.2.1)) 20 (ur_30.2.2.2.2.1)) 30 (ur_30.2.2.2.2.2.1)) 36 (ur_30.2.2.2.2.2.2))) ∧ (cdz = cd) ∧ (pkz = pk)
abbrev D_X10_refused_s9 (A : AA) (cd : Int32) (pk : Int32) (p0 : Int32) (Z : AA) (cdz : Int32) (pkz : Int32) (n_1 : Nat) (x_5 : Int32) (x_9 : Int32) : Prop := (x_5.toInt < x_9.toInt) ∧ ∃ ur_11 : (Nat → Int32) × (Nat → Int32) × (Nat → Int32) × (Nat → Int32) × (Nat → Int32) × (Nat → Int32) × (Nat → Int32) × (Nat → Int32) × (Nat → Int32) × (Nat → Int32) × (Nat → Int32) × (Nat → Int32) × (Nat → Int32) × (Nat → Int32) × (Nat → Int32) × (Nat → Int32), (D_X10_answerSome A cd pk p0 x_5 (uA (uA (uA (uA (uA (uA (uA (uA (uA (uA (uA (uA (uA (uA (uA (uA A 8 (ur_11.1)) 9 (ur_11.2.1)) 12 (ur_11.2.2.1)) 15 (ur_11.2.2.2.1)) 16 (ur_11.2.2.2.2.1)) 17 (ur_11.2.2.2.2.2.1)) 18 (ur_11.2.2.2.2.2.2.1)) 20 (ur_11.2.2.2.2.2.2.2.1)) 22 (ur_11.2.2.2.2.2.2.2.2.1)) 23 (ur_11.2.2.2.2.2.2.2.2.2.1)) 24 (ur_11.2.2.2.2.2.2.2.2.2.2.1)) 25 (ur_11.2.2.2.2.2.2.2.2.2.2.2.1)) 26 (ur_11.2.2.2.2.2.2.2.2.2.2.2.2.1)) 27 (ur_11.2.2.2.2.2.2.2.2.2.2.2.2.2.1)) 28 (ur_11.2.2.2.2.2.2.2.2.2.2.2.2.2.2.1)) 29 (ur_11.2.2.2.2.2.2.2.2.2.2.2.2.2.2.2)) cd pk) ∧ (I3 (ur_11.1)) ∧ (I4 (A 10) (ur_11.2.2.2.2.2.2.2.1) (ur_11.2.2.2.2.2.2.2.2.2.2.2.2.2.2.2) (ur_11.2.2.2.2.2.2.2.2.2.2.1) (A 11) (ur_11.2.2.1) (A 13)) ∧ (I6 (ur_11.2.2.2.2.2.2.2.2.1) (ur_11.2.2.2.2.2.2.2.2.2.1) (ur_11.2.2.2.2.2.2.2.2.2.2.1) (ur_11.2.2.2.2.2.2.2.2.2.2.2.1) (ur_11.2.2.2.2.2.2.2.2.2.2.2.2.1)) ∧ (I8 (ur_11.2.2.2.2.2.2.2.1) (A 30) (A 37) (A 36)) ∧ (((A 43) 24).toInt = ((ur_11.2.2.1) n_1).toInt) ∧ (D_X10_refused_s8 A cd pk p0 Z cdz pkz ur_11)
abbrev D_X10_refused_s10 (A : AA) (cd : Int32) (pk : Int32) (p0 : Int32) (Z : AA) (cdz : Int32) (pkz : Int32) (n_1 : Nat) (x_5 : Int32) (ur_11 : (Nat → Int32) × (Nat → Int32) × (Nat → Int32) × (Nat → Int32) × (Nat → Int32) × (Nat → Int32) × (Nat → Int32) × (Nat → Int32) × (Nat → Int32) × (Nat → Int32) × (Nat → Int32) × (Nat → Int32) × (Nat → Int32) × (Nat → Int32) × (Nat → Int32) × (Nat → Int32)) : Prop := (D_X10_answerSome A cd pk p0 x_5 (uA (uA (uA (uA (uA (uA (uA (uA (uA (uA (uA (uA (uA (uA (uA (uA A 8 (ur_11.1)) 9 (ur_11.2.1)) 12 (ur_11.2.2.1)) 15 (ur_11.2.2.2.1)) 16 (ur_11.2.2.2.2.1)) 17 (ur_11.2.2.2.2.2.1)) 18 (ur_11.2.2.2.2.2.2.1)) 20 (ur_11.2.2.2.2.2.2.2.1)) 22 (ur_11.2.2.2.2.2.2.2.2.1)) 23 (ur_11.2.2.2.2.2.2.2.2.2.1)) 24 (ur_11.2.2.2.2.2.2.2.2.2.2.1)) 25 (ur_11.2.2.2.2.2.2.2.2.2.2.2.1)) 26 (ur_11.2.2.2.2.2.2.2.2.2.2.2.2.1)) 27 (ur_11.2.2.2.2.2.2.2.2.2.2.2.2.2.1)) 28 (ur_11.2.2.2.2.2.2.2.2.2.2.2.2.2.2.1)) 29 (ur_11.2.2.2.2.2.2.2.2.2.2.2.2.2.2.2)) cd pk) ∧ (I3 (ur_11.1)) ∧ (I4 (A 10) (ur_11.2.2.2.2.2.2.2.1) (ur_11.2.2.2.2.2.2.2.2.2.2.2.2.2.2.2) (ur_11.2.2.2.2.2.2.2.2.2.2.1) (A 11) (ur_11.2.2.1) (A 13)) ∧ (I6 (ur_11.2.2.2.2.2.2.2.2.1) (ur_11.2.2.2.2.2.2.2.2.2.1) (ur_11.2.2.2.2.2.2.2.2.2.2.1) (ur_11.2.2.2.2.2.2.2.2.2.2.2.1) (ur_11.2.2.2.2.2.2.2.2.2.2.2.2.1)) ∧ (I8 (ur_11.2.2.2.2.2.2.2.1) (A 30) (A 37) (A 36)) ∧ (¬ ((A 43) 24).toInt = ((ur_11.2.2.1) n_1).toInt) ∧ (Z = (uA (uA (uA (uA (uA (uA (uA (uA (uA (uA (uA (uA (uA (uA (uA (uA A 8 (ur_11.1)) 9 (ur_11.2.1)) 12 (ur_11.2.2.1)) 15 (ur_11.2.2.2.1)) 16 (ur_11.2.2.2.2.1)) 17 (ur_11.2.2.2.2.2.1)) 18 (ur_11.2.2.2.2.2.2.1)) 20 (ur_11.2.2.2.2.2.2.2.1)) 22 (ur_11.2.2.2.2.2.2.2.2.1)) 23 (ur_11.2.2.2.2.2.2.2.2.2.1)) 24 (ur_11.2.2.2.2.2.2.2.2.2.2.1)) 25 (ur_11.2.2.2.2.2.2.2.2.2.2.2.1)) 26 (ur_11.2.2.2.2.2.2.2.2.2.2.2.2.1)) 27 (ur_11.2.2.2.2.2.2.2.2.2.2.2.2.2.1)) 28 (ur_11.2.2.2.2.2.2.2.2.2.2.2.2.2.2.1)) 29 (ur_11.2.2.2.2.2.2.2.2.2.2.2.2.2.2.2))) ∧ (cdz = cd) ∧ (pkz = pk)
abbrev D_X10_refused_s11 (A : AA) (cd : Int32) (pk : Int32) (p0 : Int32) (Z : AA) (cdz : Int32) (pkz : Int32) (n_1 : Nat) : Prop := ((n_1 : Int) = p0.toInt) ∧ ∃ x_5 : Int32, (x_5 = ((((A 43) 24) - ((A 12) n_1)) + 64) - ((((A 43) 24) - ((A 12) n_1)) + 64) / 64 * 64) ∧ ∃ x_9 : Int32, (x_9 = ((((A 13) n_1) - ((A 12) n_1)) + 64) - ((((A 13) n_1) - ((A 12) n_1)) + 64) / 64 * 64) ∧ (x_9.toInt = (((A 13) n_1).toInt - ((A 12) n_1).toInt + 64) % 64) ∧ (x_5.toInt < x_9.toInt) ∧ ∃ ur_11 : (Nat → Int32) × (Nat → Int32) × (Nat → Int32) × (Nat → Int32) × (Nat → Int32) × (Nat → Int32) × (Nat → Int32) × (Nat → Int32) × (Nat → Int32) × (Nat → Int32) × (Nat → Int32) × (Nat → Int32) × (Nat → Int32) × (Nat → Int32) × (Nat → Int32) × (Nat → Int32), (D_X10_refused_s10 A cd pk p0 Z cdz pkz n_1 x_5 ur_11)
def D_X10_refused (t0 t1 t2 : Int32) (A : AA) (cd pk : Int32) (p0 : Int32) (Z : AA) (cdz pkz : Int32) : Prop := (∃ n_1 : Nat, ((n_1 : Int) = p0.toInt) ∧ ∃ x_5 : Int32, (x_5 = ((((A 43) 24) - ((A 12) n_1)) + 64) - ((((A 43) 24) - ((A 12) n_1)) + 64) / 64 * 64) ∧ ∃ x_9 : Int32, (x_9 = ((((A 13) n_1) - ((A 12) n_1)) + 64) - ((((A 13) n_1) - ((A 12) n_1)) + 64) / 64 * 64) ∧ (D_X10_refused_s2 t2 A cd pk p0 Z cdz pkz n_1 x_5 x_9)) ∨ (∃ n_1 : Nat, ((n_1 : Int) = p0.toInt) ∧ ∃ x_5 : Int32, (D_X10_refused_s5 t2 A cd pk p0 Z cdz pkz n_1 x_5)) ∨ (∃ n_1 : Nat, ((n_1 : Int) = p0.toInt) ∧ ∃ x_5 : Int32, (x_5 = ((((A 43) 24) - ((A 12) n_1)) + 64) - ((((A 43) 24) - ((A 12) n_1)) + 64) / 64 * 64) ∧ ∃ x_9 : Int32, (D_X10_refused_s7 A cd pk p0 Z cdz pkz n_1 x_5 x_9)) ∨ (∃ n_1 : Nat, ((n_1 : Int) = p0.toInt) ∧ ∃ x_5 : Int32, (x_5 = ((((A 43) 24) - ((A 12) n_1)) + 64) - ((((A 43) 24) - ((A 12) n_1)) + 64) / 64 * 64) ∧ ∃ x_9 : Int32, (x_9 = ((((A 13) n_1) - ((A 12) n_1)) + 64) - ((((A 13) n_1) - ((A 12) n_1)) + 64) / 64 * 64) ∧ (x_9.toInt = (((A 13) n_1).toInt - ((A 12) n_1).toInt + 64) % 64) ∧ (D_X10_refused_s9 A cd pk p0 Z cdz pkz n_1 x_5 x_9)) ∨ (∃ n_1 : Nat, (D_X10_refused_s11 A cd pk p0 Z cdz pkz n_1)) ∨ (∃ n_1 : Nat, ((n_1 : Int) = p0.toInt) ∧ (∃ x_5 : Int32, (x_5 = ((((A 43) 24) - ((A 12) n_1)) + 64) - ((((A 43) 24) - ((A 12) n_1)) + 64) / 64 * 64) ∧ ∃ x_9 : Int32, (x_9 = ((((A 13) n_1) - ((A 12) n_1)) + 64) - ((((A 13) n_1) - ((A 12) n_1)) + 64) / 64 * 64) ∧ (x_9.toInt = (((A 13) n_1).toInt - ((A 12) n_1).toInt + 64) % 64) ∧ (¬ x_5.toInt < x_9.toInt) ∧ (Z = A) ∧ (cdz = cd) ∧ (pkz = pk)))
abbrev D_X10_tickPair_s1 (t0 : Int32) (t1 : Int32) (A : AA) (cd : Int32) (pk : Int32) (Z : AA) (cdz : Int32) (pkz : Int32) (r : Int32) (n_1 : Nat) (x_9 : Int32) : Prop := ∃ g_10 : Nat → Int32, (g_10 = upd (A 15) n_1 x_9) ∧ (((A 18) n_1).toInt = 0) ∧ (x_9.toInt = t0.toInt) ∧ ∃ g_15 : Nat → Int32, (g_15 = upd g_10 n_1 0) ∧ ∃ x_17 : Int32, (x_17 = ((A 16) n_1) + 1) ∧ (∃ g_18 : Nat → Int32, (g_18 = upd (A 16) n_1 x_17) ∧ (x_17.toInt ≤ t1.toInt) ∧ ∃ g_22 : Nat → Int32, (g_22 = upd (A 13) n_1 ((A 12) n_1)) ∧ (Z = (uA (uA (uA (uA (uA (uA (uA (uA (uA (uA A 8 (A 8)) 9 (A 9)) 10 (A 10)) 13 g_22) 15 g_15) 16 g_18) 18 (A 18)) 20 (A 20)) 30 (A 30)) 36 (A 36))) ∧ (cdz = cd) ∧ (pkz = pk) ∧ (r = 0))
abbrev D_X10_tickPair_s2 (A : AA) (cd : Int32) (pk : Int32) (p0 : Int32) (Z : AA) (cdz : Int32) (pkz : Int32) (r : Int32) (g_10 : Nat → Int32) (g_15 : Nat → Int32) (g_18 : Nat → Int32) : Prop := ∃ ur_24 : (Nat → Int32) × (Nat → Int32) × (Nat → Int32) × (Nat → Int32) × (Nat → Int32) × (Nat → Int32) × (Nat → Int32), (D_X10_failPair (uA (uA (uA A 15 g_10) 15 g_15) 16 g_18) cd pk p0 (1 : Int32) (0 : Int32) (uA (uA (uA (uA (uA (uA (uA (uA (uA (uA A 15 g_10) 15 g_15) 16 g_18) 8 (ur_24.1)) 9 (ur_24.2.1)) 10 (ur_24.2.2.1)) 18 (ur_24.2.2.2.1)) 20 (ur_24.2.2.2.2.1)) 30 (ur_24.2.2.2.2.2.1)) 36 (ur_24.2.2.2.2.2.2)) cd pk) ∧ (I3 (ur_24.1)) ∧ (I4 (ur_24.2.2.1) (ur_24.2.2.2.2.1) (A 29) (A 24) (A 11) (A 12) (A 13)) ∧ (I8 (ur_24.2.2.2.2.1) (ur_24.2.2.2.2.2.1) (A 37) (ur_24.2.2.2.2.2.2)) ∧ (Z = (uA (uA (uA (uA (uA (uA (uA (uA (uA (uA A 8 (ur_24.1)) 9 (ur_24.2.1)) 10 (ur_24.2.2.1)) 13 (A 13)) 15 g_15) 16 g_18) 18 (ur_24.2.2.2.1)) 20 (ur_24.2.2.2.2.1)) 30 (ur_24.2.2.2.2.2.1)) 36 (ur_24.2.2.2.2.2.2))) ∧ (cdz = cd) ∧ (pkz = pk) ∧ (r = 1)
abbrev D_X10_tickPair_s3 (t0 : Int32) (t1 : Int32) (A : AA) (cd : Int32) (pk : Int32) (p0 : Int32) (Z : AA) (cdz : Int32) (pkz : Int32) (r : Int32) (n_1 : Nat) : Prop := ((n_1 : Int) = p0.toInt) ∧ (((A 10) n_1).toInt = 1) ∧ (¬ ((A 13) n_1).toInt = ((A 12) n_1).toInt) ∧ ∃ x_9 : Int32, (x_9 = ((A 15) n_1) + 1) ∧ ∃ g_10 : Nat → Int32, (g_10 = upd (A 15) n_1 x_9) ∧ (((A 18) n_1).toInt = 0) ∧ ((x_9.toInt = t0.toInt) ∧ ∃ g_15 : Nat → Int32, (g_15 = upd g_10 n_1 0) ∧ ∃ x_17 : Int32, (x_17 = ((A 16) n_1) + 1) ∧ ∃ g_18 : Nat → Int32, (g_18 = upd (A 16) n_1 x_17) ∧ (¬ x_17.toInt ≤ t1.toInt) ∧ (D_X10_tickPair_s2 A cd pk p0 Z cdz pkz r g_10 g_15 g_18))
abbrev D_X10_tickPair_s4 (t0 : Int32) (A : AA) (cd : Int32) (pk : Int32) (p0 : Int32) (Z : AA) (cdz : Int32) (pkz : Int32) (r : Int32) : Prop := ∃ n_1 : Nat, ((n_1 : Int) = p0.toInt) ∧ (((A 10) n_1).toInt = 1) ∧ (¬ ((A 13) n_1).toInt = ((A 12) n_1).toInt) ∧ ∃ x_9 : Int32, ((x_9 = ((A 15) n_1) + 1) ∧ ∃ g_10 : Nat → Int32, (g_10 = upd (A 15) n_1 x_9) ∧ (((A 18) n_1).toInt = 0) ∧ (¬ x_9.toInt = t0.toInt) ∧ (Z = (uA (uA (uA (uA (uA (uA (uA (uA (uA (uA A 8 (A 8)) 9 (A 9)) 10 (A 10)) 13 (A 13)) 15 g_10) 16 (A 16)) 18 (A 18)) 20 (A 20)) 30 (A 30)) 36 (A 36))) ∧ (cdz = cd) ∧ (pkz = pk) ∧ (r = 0))
abbrev D_X10_tickPair_s5 (A : AA) (cd : Int32) (pk : Int32) (p0 : Int32) (Z : AA) (cdz : Int32) (pkz : Int32) (r : Int32) (n_1 : Nat) : Prop := ((n_1 : Int) = p0.toInt) ∧ (((A 10) n_1).toInt = 1) ∧ (¬ ((A 13) n_1).toInt = ((A 12) n_1).toInt) ∧ ∃ x_9 : Int32, (x_9 = ((A 15) n_1) + 1) ∧ ∃ g_10 : Nat → Int32, (g_10 = upd (A 15) n_1 x_9) ∧ (¬ ((A 18) n_1).toInt = 0) ∧ ((3 ≤ x_9.toInt) ∧ ∃ g_27 : Nat → Int32, (g_27 = upd (A 18) n_1 0) ∧ ∃ g_28 : Nat → Int32, (g_28 = upd g_10 n_1 0) ∧ (Z = (uA (uA (uA (uA (uA (uA (uA (uA (uA (uA A 8 (A 8)) 9 (A 9)) 10 (A 10)) 13 (A 13)) 15 g_28) 16 (A 16)) 18 g_27) 20 (A 20)) 30 (A 30)) 36 (A 36))) ∧ (cdz = cd) ∧ (pkz = pk) ∧ (r = 0))
abbrev D_X10_tickPair_s6 (A : AA) (cd : Int32) (pk : Int32) (p0 : Int32) (Z : AA) (cdz : Int32) (pkz : Int32) (r : Int32) : Prop := ∃ n_1 : Nat, ((n_1 : Int) = p0.toInt) ∧ (((A 10) n_1).toInt = 1) ∧ (¬ ((A 13) n_1).toInt = ((A 12) n_1).toInt) ∧ ∃ x_9 : Int32, ((x_9 = ((A 15) n_1) + 1) ∧ ∃ g_10 : Nat → Int32, (g_10 = upd (A 15) n_1 x_9) ∧ (¬ ((A 18) n_1).toInt = 0) ∧ (¬ 3 ≤ x_9.toInt) ∧ (Z = (uA (uA (uA (uA (uA (uA (uA (uA (uA (uA A 8 (A 8)) 9 (A 9)) 10 (A 10)) 13 (A 13)) 15 g_10) 16 (A 16)) 18 (A 18)) 20 (A 20)) 30 (A 30)) 36 (A 36))) ∧ (cdz = cd) ∧ (pkz = pk) ∧ (r = 0))
abbrev D_X10_tickPair_s7 (t0 : Int32) (t1 : Int32) (A : AA) (cd : Int32) (pk : Int32) (Z : AA) (cdz : Int32) (pkz : Int32) (r : Int32) (n_1 : Nat) (x_32 : Int32) : Prop := ∃ g_33 : Nat → Int32, (g_33 = upd (A 15) n_1 x_32) ∧ (((A 18) n_1).toInt = 0) ∧ (x_32.toInt = t0.toInt) ∧ ∃ g_38 : Nat → Int32, (g_38 = upd g_33 n_1 0) ∧ ∃ x_40 : Int32, (x_40 = ((A 16) n_1) + 1) ∧ (∃ g_41 : Nat → Int32, (g_41 = upd (A 16) n_1 x_40) ∧ (x_40.toInt ≤ t1.toInt) ∧ ∃ g_45 : Nat → Int32, (g_45 = upd (A 13) n_1 ((A 12) n_1)) ∧ (Z = (uA (uA (uA (uA (uA (uA (uA (uA (uA (uA A 8 (A 8)) 9 (A 9)) 10 (A 10)) 13 g_45) 15 g_38) 16 g_41) 18 (A 18)) 20 (A 20)) 30 (A 30)) 36 (A 36))) ∧ (cdz = cd) ∧ (pkz = pk) ∧ (r = 0))
abbrev D_X10_tickPair_s8 (A : AA) (cd : Int32) (pk : Int32) (p0 : Int32) (Z : AA) (cdz : Int32) (pkz : Int32) (r : Int32) (g_33 : Nat → Int32) (g_38 : Nat → Int32) (g_41 : Nat → Int32) : Prop := ∃ ur_47 : (Nat → Int32) × (Nat → Int32) × (Nat → Int32) × (Nat → Int32) × (Nat → Int32) × (Nat → Int32) × (Nat → Int32), (D_X10_failPair (uA (uA (uA A 15 g_33) 15 g_38) 16 g_41) cd pk p0 (1 : Int32) (0 : Int32) (uA (uA (uA (uA (uA (uA (uA (uA (uA (uA A 15 g_33) 15 g_38) 16 g_41) 8 (ur_47.1)) 9 (ur_47.2.1)) 10 (ur_47.2.2.1)) 18 (ur_47.2.2.2.1)) 20 (ur_47.2.2.2.2.1)) 30 (ur_47.2.2.2.2.2.1)) 36 (ur_47.2.2.2.2.2.2)) cd pk) ∧ (I3 (ur_47.1)) ∧ (I4 (ur_47.2.2.1) (ur_47.2.2.2.2.1) (A 29) (A 24) (A 11) (A 12) (A 13)) ∧ (I8 (ur_47.2.2.2.2.1) (ur_47.2.2.2.2.2.1) (A 37) (ur_47.2.2.2.2.2.2)) ∧ (Z = (uA (uA (uA (uA (uA (uA (uA (uA (uA (uA A 8 (ur_47.1)) 9 (ur_47.2.1)) 10 (ur_47.2.2.1)) 13 (A 13)) 15 g_38) 16 g_41) 18 (ur_47.2.2.2.1)) 20 (ur_47.2.2.2.2.1)) 30 (ur_47.2.2.2.2.2.1)) 36 (ur_47.2.2.2.2.2.2))) ∧ (cdz = cd) ∧ (pkz = pk) ∧ (r = 1)
abbrev D_X10_tickPair_s9 (t0 : Int32) (t1 : Int32) (A : AA) (cd : Int32) (pk : Int32) (p0 : Int32) (Z : AA) (cdz : Int32) (pkz : Int32) (r : Int32) (n_1 : Nat) : Prop := (((A 10) n_1).toInt = 1) ∧ (((A 13) n_1).toInt = ((A 12) n_1).toInt) ∧ (¬ ((A 18) n_1).toInt = 0) ∧ ∃ x_32 : Int32, (x_32 = ((A 15) n_1) + 1) ∧ ∃ g_33 : Nat → Int32, (g_33 = upd (A 15) n_1 x_32) ∧ (((A 18) n_1).toInt = 0) ∧ ((x_32.toInt = t0.toInt) ∧ ∃ g_38 : Nat → Int32, (g_38 = upd g_33 n_1 0) ∧ ∃ x_40 : Int32, (x_40 = ((A 16) n_1) + 1) ∧ ∃ g_41 : Nat → Int32, (g_41 = upd (A 16) n_1 x_40) ∧ (¬ x_40.toInt ≤ t1.toInt) ∧ (D_X10_tickPair_s8 A cd pk p0 Z cdz pkz r g_33 g_38 g_41))
abbrev D_X10_tickPair_s10 (t0 : Int32) (A : AA) (cd : Int32) (pk : Int32) (p0 : Int32) (Z : AA) (cdz : Int32) (pkz : Int32) (r : Int32) : Prop := ∃ n_1 : Nat, ((n_1 : Int) = p0.toInt) ∧ (((A 10) n_1).toInt = 1) ∧ (((A 13) n_1).toInt = ((A 12) n_1).toInt) ∧ (¬ ((A 18) n_1).toInt = 0) ∧ ∃ x_32 : Int32, ((x_32 = ((A 15) n_1) + 1) ∧ ∃ g_33 : Nat → Int32, (g_33 = upd (A 15) n_1 x_32) ∧ (((A 18) n_1).toInt = 0) ∧ (¬ x_32.toInt = t0.toInt) ∧ (Z = (uA (uA (uA (uA (uA (uA (uA (uA (uA (uA A 8 (A 8)) 9 (A 9)) 10 (A 10)) 13 (A 13)) 15 g_33) 16 (A 16)) 18 (A 18)) 20 (A 20)) 30 (A 30)) 36 (A 36))) ∧ (cdz = cd) ∧ (pkz = pk) ∧ (r = 0))
abbrev D_X10_tickPair_s11 (A : AA) (cd : Int32) (pk : Int32) (Z : AA) (cdz : Int32) (pkz : Int32) (r : Int32) (n_1 : Nat) : Prop := (((A 10) n_1).toInt = 1) ∧ (((A 13) n_1).toInt = ((A 12) n_1).toInt) ∧ (¬ ((A 18) n_1).toInt = 0) ∧ ∃ x_32 : Int32, (x_32 = ((A 15) n_1) + 1) ∧ ∃ g_33 : Nat → Int32, (g_33 = upd (A 15) n_1 x_32) ∧ (¬ ((A 18) n_1).toInt = 0) ∧ ((3 ≤ x_32.toInt) ∧ ∃ g_50 : Nat → Int32, (g_50 = upd (A 18) n_1 0) ∧ ∃ g_51 : Nat → Int32, (g_51 = upd g_33 n_1 0) ∧ (Z = (uA (uA (uA (uA (uA (uA (uA (uA (uA (uA A 8 (A 8)) 9 (A 9)) 10 (A 10)) 13 (A 13)) 15 g_51) 16 (A 16)) 18 g_50) 20 (A 20)) 30 (A 30)) 36 (A 36))) ∧ (cdz = cd) ∧ (pkz = pk) ∧ (r = 0))
abbrev D_X10_tickPair_s12 (A : AA) (cd : Int32) (pk : Int32) (p0 : Int32) (Z : AA) (cdz : Int32) (pkz : Int32) (r : Int32) : Prop := ∃ n_1 : Nat, ((n_1 : Int) = p0.toInt) ∧ (((A 10) n_1).toInt = 1) ∧ (((A 13) n_1).toInt = ((A 12) n_1).toInt) ∧ (¬ ((A 18) n_1).toInt = 0) ∧ ∃ x_32 : Int32, ((x_32 = ((A 15) n_1) + 1) ∧ ∃ g_33 : Nat → Int32, (g_33 = upd (A 15) n_1 x_32) ∧ (¬ ((A 18) n_1).toInt = 0) ∧ (¬ 3 ≤ x_32.toInt) ∧ (Z = (uA (uA (uA (uA (uA (uA (uA (uA (uA (uA A 8 (A 8)) 9 (A 9)) 10 (A 10)) 13 (A 13)) 15 g_33) 16 (A 16)) 18 (A 18)) 20 (A 20)) 30 (A 30)) 36 (A 36))) ∧ (cdz = cd) ∧ (pkz = pk) ∧ (r = 0))
def D_X10_tickPair (t0 t1 t2 : Int32) (A : AA) (cd pk : Int32) (p0 : Int32) (Z : AA) (cdz pkz : Int32) (r : Int32) : Prop := (∃ n_1 : Nat, ((n_1 : Int) = p0.toInt) ∧ (¬ ((A 10) n_1).toInt = 1) ∧ (Z = (uA (uA (uA (uA (uA (uA (uA (uA (uA (uA A 8 (A 8)) 9 (A 9)) 10 (A 10)) 13 (A 13)) 15 (A 15)) 16 (A 16)) 18 (A 18)) 20 (A 20)) 30 (A 30)) 36 (A 36))) ∧ (cdz = cd) ∧ (pkz = pk) ∧ (r = 0)) ∨ (∃ n_1 : Nat, ((n_1 : Int) = p0.toInt) ∧ (((A 10) n_1).toInt = 1) ∧ (¬ ((A 13) n_1).toInt = ((A 12) n_1).toInt) ∧ ∃ x_9 : Int32, (x_9 = ((A 15) n_1) + 1) ∧ (D_X10_tickPair_s1 t0 t1 A cd pk Z cdz pkz r n_1 x_9)) ∨ (∃ n_1 : Nat, (D_X10_tickPair_s3 t0 t1 A cd pk p0 Z cdz pkz r n_1)) ∨ (D_X10_tickPair_s4 t0 A cd pk p0 Z cdz pkz r) ∨ (∃ n_1 : Nat, (D_X10_tickPair_s5 A cd pk p0 Z cdz pkz r n_1)) ∨ (D_X10_tickPair_s6 A cd pk p0 Z cdz pkz r) ∨ (∃ n_1 : Nat, ((n_1 : Int) = p0.toInt) ∧ (((A 10) n_1).toInt = 1) ∧ (((A 13) n_1).toInt = ((A 12) n_1).toInt) ∧ (¬ ((A 18) n_1).toInt = 0) ∧ ∃ x_32 : Int32, (x_32 = ((A 15) n_1) + 1) ∧ (D_X10_tickPair_s7 t0 t1 A cd pk Z cdz pkz r n_1 x_32)) ∨ (∃ n_1 : Nat, ((n_1 : Int) = p0.toInt) ∧ (D_X10_tickPair_s9 t0 t1 A cd pk p0 Z cdz pkz r n_1)) ∨ (D_X10_tickPair_s10 t0 A cd pk p0 Z cdz pkz r) ∨ (∃ n_1 : Nat, ((n_1 : Int) = p0.toInt) ∧ (D_X10_tickPair_s11 A cd pk Z cdz pkz r n_1)) ∨ (D_X10_tickPair_s12 A cd pk p0 Z cdz pkz r) ∨ (∃ n_1 : Nat, ((n_1 : Int) = p0.toInt) ∧ (((A 10) n_1).toInt = 1) ∧ (((A 13) n_1).toInt = ((A 12) n_1).toInt) ∧ (((A 18) n_1).toInt = 0) ∧ (Z = (uA (uA (uA (uA (uA (uA (uA (uA (uA (uA A 8 (A 8)) 9 (A 9)) 10 (A 10)) 13 (A 13)) 15 (A 15)) 16 (A 16)) 18 (A 18)) 20 (A 20)) 30 (A 30)) 36 (A 36))) ∧ (cdz = cd) ∧ (pkz = pk) ∧ (r = 0))
def D_X10_tick (t0 t1 t2 : Int32) (A : AA) (cd pk : Int32) (Z : AA) (cdz pkz : Int32) (r : Int32) : Prop :=
  (∃ ur_2 : (Nat → Int32) × (Nat → Int32) × (Nat → Int32) × (Nat → Int32) × (Nat → Int32) × (Nat → Int32) × (Nat → Int32) × (Nat → Int32) × (Nat → Int32) × (Nat → Int32), ∃ r_2 : Int32, (D_X10_tickPair t0 t1 t2 A (0 : Int32) pk (0 : Int32) (uA (uA (uA (uA (uA (uA (uA (uA (uA (uA A 8 (ur_2.1)) 9 (ur_2.2.1)) 10 (ur_2.2.2.1)) 13 (ur_2.2.2.2.1)) 15 (ur_2.2.2.2.2.1)) 16 (ur_2.2.2.2.2.2.1)) 18 (ur_2.2.2.2.2.2.2.1)) 20 (ur_2.2.2.2.2.2.2.2.1)) 30 (ur_2.2.2.2.2.2.2.2.2.1)) 36 (ur_2.2.2.2.2.2.2.2.2.2)) (0 : Int32) pk r_2) ∧ (I3 (ur_2.1)) ∧ (I4 (ur_2.2.2.1) (ur_2.2.2.2.2.2.2.2.1) (A 29) (A 24) (A 11) (A 12) (ur_2.2.2.2.1)) ∧ (I8 (ur_2.2.2.2.2.2.2.2.1) (ur_2.2.2.2.2.2.2.2.2.1) (A 37) (ur_2.2.2.2.2.2.2.2.2.2)) ∧ ∃ x_3 : Int32, (x_3 = 0 + r_2) ∧ ∃ ur_5 : (Nat → Int32) × (Nat → Int32) × (Nat → Int32) × (Nat → Int32) × (Nat → Int32) × (Nat → Int32) × (Nat → Int32) × (Nat → Int32) × (Nat → Int32) × (Nat → Int32), ∃ r_5 : Int32, (D_X10_tickPair t0 t1 t2 (uA (uA (uA (uA (uA (uA (uA (uA (uA (uA A 8 (ur_2.1)) 9 (ur_2.2.1)) 10 (ur_2.2.2.1)) 13 (ur_2.2.2.2.1)) 15 (ur_2.2.2.2.2.1)) 16 (ur_2.2.2.2.2.2.1)) 18 (ur_2.2.2.2.2.2.2.1)) 20 (ur_2.2.2.2.2.2.2.2.1)) 30 (ur_2.2.2.2.2.2.2.2.2.1)) 36 (ur_2.2.2.2.2.2.2.2.2.2)) (0 : Int32) pk (1 : Int32) (uA (uA (uA (uA (uA (uA (uA (uA (uA (uA (uA (uA (uA (uA (uA (uA (uA (uA (uA (uA A 8 (ur_2.1)) 9 (ur_2.2.1)) 10 (ur_2.2.2.1)) 13 (ur_2.2.2.2.1)) 15 (ur_2.2.2.2.2.1)) 16 (ur_2.2.2.2.2.2.1)) 18 (ur_2.2.2.2.2.2.2.1)) 20 (ur_2.2.2.2.2.2.2.2.1)) 30 (ur_2.2.2.2.2.2.2.2.2.1)) 36 (ur_2.2.2.2.2.2.2.2.2.2)) 8 (ur_5.1)) 9 (ur_5.2.1)) 10 (ur_5.2.2.1)) 13 (ur_5.2.2.2.1)) 15 (ur_5.2.2.2.2.1)) 16 (ur_5.2.2.2.2.2.1)) 18 (ur_5.2.2.2.2.2.2.1)) 20 (ur_5.2.2.2.2.2.2.2.1)) 30 (ur_5.2.2.2.2.2.2.2.2.1)) 36 (ur_5.2.2.2.2.2.2.2.2.2)) (0 : Int32) pk r_5) ∧ (I3 (ur_5.1)) ∧ (I4 (ur_5.2.2.1) (ur_5.2.2.2.2.2.2.2.1) (A 29) (A 24) (A 11) (A 12) (ur_5.2.2.2.1)) ∧ (I8 (ur_5.2.2.2.2.2.2.2.1) (ur_5.2.2.2.2.2.2.2.2.1) (A 37) (ur_5.2.2.2.2.2.2.2.2.2)) ∧ ∃ x_6 : Int32, (x_6 = x_3 + r_5) ∧ ∃ ur_8 : (Nat → Int32) × (Nat → Int32) × (Nat → Int32) × (Nat → Int32) × (Nat → Int32) × (Nat → Int32) × (Nat → Int32) × (Nat → Int32) × (Nat → Int32) × (Nat → Int32), ∃ r_8 : Int32, (D_X10_tickPair t0 t1 t2 (uA (uA (uA (uA (uA (uA (uA (uA (uA (uA (uA (uA (uA (uA (uA (uA (uA (uA (uA (uA A 8 (ur_2.1)) 9 (ur_2.2.1)) 10 (ur_2.2.2.1)) 13 (ur_2.2.2.2.1)) 15 (ur_2.2.2.2.2.1)) 16 (ur_2.2.2.2.2.2.1)) 18 (ur_2.2.2.2.2.2.2.1)) 20 (ur_2.2.2.2.2.2.2.2.1)) 30 (ur_2.2.2.2.2.2.2.2.2.1)) 36 (ur_2.2.2.2.2.2.2.2.2.2)) 8 (ur_5.1)) 9 (ur_5.2.1)) 10 (ur_5.2.2.1)) 13 (ur_5.2.2.2.1)) 15 (ur_5.2.2.2.2.1)) 16 (ur_5.2.2.2.2.2.1)) 18 (ur_5.2.2.2.2.2.2.1)) 20 (ur_5.2.2.2.2.2.2.2.1)) 30 (ur_5.2.2.2.2.2.2.2.2.1)) 36 (ur_5.2.2.2.2.2.2.2.2.2)) (0 : Int32) pk (2 : Int32) (uA (uA (uA (uA (uA (uA (uA (uA (uA (uA (uA (uA (uA (uA (uA (uA (uA (uA (uA (uA (uA (uA (uA (uA (uA (uA (uA (uA (uA (uA A 8 (ur_2.1)) 9 (ur_2.2.1)) 10 (ur_2.2.2.1)) 13 (ur_2.2.2.2.1)) 15 (ur_2.2.2.2.2.1)) 16 (ur_2.2.2.2.2.2.1)) 18 (ur_2.2.2.2.2.2.2.1)) 20 (ur_2.2.2.2.2.2.2.2.1)) 30 (ur_2.2.2.2.2.2.2.2.2.1)) 36 (ur_2.2.2.2.2.2.2.2.2.2)) 8 (ur_5.1)) 9 (ur_5.2.1)) 10 (ur_5.2.2.1)) 13 (ur_5.2.2.2.1)) 15 (ur_5.2.2.2.2.1)) 16 (ur_5.2.2.2.2.2.1)) 18 (ur_5.2.2.2.2.2.2.1)) 20 (ur_5.2.2.2.2.2.2.2.1)) 30 (ur_5.2.2.2.2.2.2.2.2.1)) 36 (ur_5.2.2.2.2.2.2.2.2.2)) 8 (ur_8.1)) 9 (ur_8.2.1)) 10 (ur_8.2.2.1)) 13 (ur_8.2.2.2.1)) 15 (ur_8.2.2.2.2.1)) 16 (ur_8.2.2.2.2.2.1)) 18 (ur_8.2.2.2.2.2.2.1)) 20 (ur_8.2.2.2.2.2.2.2.1)) 30 (ur_8.2.2.2.2.2.2.2.2.1)) 36 (ur_8.2.2.2.2.2.2.2.2.2)) (0 : Int32) pk r_8) ∧ (I3 (ur_8.1)) ∧ (I4 (ur_8.2.2.1) (ur_8.2.2.2.2.2.2.2.1) (A 29) (A 24) (A 11) (A 12) (ur_8.2.2.2.1)) ∧ (I8 (ur_8.2.2.2.2.2.2.2.1) (ur_8.2.2.2.2.2.2.2.2.1) (A 37) (ur_8.2.2.2.2.2.2.2.2.2)) ∧ ∃ x_9 : Int32, (x_9 = x_6 + r_8) ∧ ∃ ur_11 : (Nat → Int32) × (Nat → Int32) × (Nat → Int32) × (Nat → Int32) × (Nat → Int32) × (Nat → Int32) × (Nat → Int32) × (Nat → Int32) × (Nat → Int32) × (Nat → Int32), ∃ r_11 : Int32, (D_X10_tickPair t0 t1 t2 (uA (uA (uA (uA (uA (uA (uA (uA (uA (uA (uA (uA (uA (uA (uA (uA (uA (uA (uA (uA (uA (uA (uA (uA (uA (uA (uA (uA (uA (uA A 8 (ur_2.1)) 9 (ur_2.2.1)) 10 (ur_2.2.2.1)) 13 (ur_2.2.2.2.1)) 15 (ur_2.2.2.2.2.1)) 16 (ur_2.2.2.2.2.2.1)) 18 (ur_2.2.2.2.2.2.2.1)) 20 (ur_2.2.2.2.2.2.2.2.1)) 30 (ur_2.2.2.2.2.2.2.2.2.1)) 36 (ur_2.2.2.2.2.2.2.2.2.2)) 8 (ur_5.1)) 9 (ur_5.2.1)) 10 (ur_5.2.2.1)) 13 (ur_5.2.2.2.1)) 15 (ur_5.2.2.2.2.1)) 16 (ur_5.2.2.2.2.2.1)) 18 (ur_5.2.2.2.2.2.2.1)) 20 (ur_5.2.2.2.2.2.2.2.1)) 30 (ur_5.2.2.2.2.2.2.2.2.1)) 36 (ur_5.2.2.2.2.2.2.2.2.2)) 8 (ur_8.1)) 9 (ur_8.2.1)) 10 (ur_8.2.2.1)) 13 (ur_8.2.2.2.1)) 15 (ur_8.2.2.2.2.1)) 16 (ur_8.2.2.2.2.2.1)) 18 (ur_8.2.2.2.2.2.2.1)) 20 (ur_8.2.2.2.2.2.2.2.1)) 30 (ur_8.2.2.2.2.2.2.2.2.1)) 36 (ur_8.2.2.2.2.2.2.2.2.2)) (0 : Int32) pk (3 : Int32) (uA (uA (uA (uA (uA (uA (uA (uA (uA (uA (uA (uA (uA (uA (uA (uA (uA (uA (uA (uA (uA (uA (uA (uA (uA (uA (uA (uA (uA (uA (uA (uA (uA (uA (uA (uA (uA (uA (uA (uA A 8 (ur_2.1)) 9 (ur_2.2.1)) 10 (ur_2.2.2.1)) 13 (ur_2.2.2.2.1)) 15 (ur_2.2.2.2.2.1)) 16 (ur_2.2.2.2.2.2.1)) 18 (ur_2.2.2.2.2.2.2.1)) 20 (ur_2.2.2.2.2.2.2.2.1)) 30 (ur_2.2.2.2.2.2.2.2.2.1)) 36 (ur_2.2.2.2.2.2.2.2.2.2)) 8 (ur_5.1)) 9 (ur_5.2.1)) 10 (ur_5.2.2.1)) 13 (ur_5.2.2.2.1)) 15 (ur_5.2.2.2.2.1)) 16 (ur_5.2.2.2.2.2.1)) 18 (ur_5.2.2.2.2.2.2.1)) 20 (ur_5.2.2.2.2.2.2.2.1)) 30 (ur_5.2.2.2.2.2.2.2.2.1)) 36 (ur_5.2.2.2.2.2.2.2.2.2)) 8 (ur_8.1)) 9 (ur_8.2.1)) 10 (ur_8.2.2.1)) 13 (ur_8.2.2.2.1)) 15 (ur_8.2.2.2.2.1)) 16 (ur_8.2.2.2.2.2.1)) 18 (ur_8.2.2.2.2.2.2.1)) 20 (ur_8.2.2.2.2.2.2.2.1)) 30 (ur_8.2.2.2.2.2.2.2.2.1)) 36 (ur_8.2.2.2.2.2.2.2.2.2)) 8 (ur_11.1)) 9 (ur_11.2.1)) 10 (ur_11.2.2.1)) 13 (ur_11.2.2.2.1)) 15 (ur_11.2.2.2.2.1)) 16 (ur_11.2.2.2.2.2.1)) 18 (ur_11.2.2.2.2.2.2.1)) 20 (ur_11.2.2.2.2.2.2.2.1)) 30 (ur_11.2.2.2.2.2.2.2.2.1)) 36 (ur_11.2.2.2.2.2.2.2.2.2)) (0 : Int32) pk r_11) ∧ (I3 (ur_11.1)) ∧ (I4 (ur_11.2.2.1) (ur_11.2.2.2.2.2.2.2.1) (A 29) (A 24) (A 11) (A 12) (ur_11.2.2.2.1)) ∧ (I8 (ur_11.2.2.2.2.2.2.2.1) (ur_11.2.2.2.2.2.2.2.2.1) (A 37) (ur_11.2.2.2.2.2.2.2.2.2)) ∧ ∃ x_12 : Int32, (x_12 = x_9 + r_11) ∧ Z = (uA (uA (uA (uA (uA (uA (uA (uA (uA (uA A 8 (ur_11.1)) 9 (ur_11.2.1)) 10 (ur_11.2.2.1)) 13 (ur_11.2.2.2.1)) 15 (ur_11.2.2.2.2.1)) 16 (ur_11.2.2.2.2.2.1)) 18 (ur_11.2.2.2.2.2.2.1)) 20 (ur_11.2.2.2.2.2.2.2.1)) 30 (ur_11.2.2.2.2.2.2.2.2.1)) 36 (ur_11.2.2.2.2.2.2.2.2.2)) ∧ cdz = 0 ∧ pkz = pk ∧ r = x_12)
abbrev D_X10_deliver_s1 (t0 : Int32) (t1 : Int32) (t2 : Int32) (A : AA) (Z : AA) (cdz : Int32) (pkz : Int32) (r : Int32) (ur_3 : (Nat → Int32) × (Nat → Int32) × (Nat → Int32) × (Nat → Int32) × (Nat → Int32) × (Nat → Int32) × (Nat → Int32) × (Nat → Int32)) (ur_4 : (Nat → Int32) × (Nat → Int32) × (Nat → Int32) × (Nat → Int32) × (Nat → Int32) × (Nat → Int32) × (Nat → Int32) × (Nat → Int32) × Int32) : Prop := (4 ≤ ((ur_4.2.1) 24).toInt) ∧ (¬ ((ur_4.2.1) 24).toInt = 4) ∧ (¬ ((ur_4.2.1) 24).toInt = 5) ∧ ∃ ur_19 : AA × Int32 × Int32, (D_X10_refused t0 t1 t2 (uA (uA (uA (uA (uA (uA (uA (uA (uA (uA (uA (uA (uA (uA (uA (uA A 41 (ur_3.1)) 42 (ur_3.2.1)) 43 (ur_3.2.2.1)) 44 (ur_3.2.2.2.1)) 45 (ur_3.2.2.2.2.1)) 46 (ur_3.2.2.2.2.2.1)) 47 (ur_3.2.2.2.2.2.2.1)) 48 (ur_3.2.2.2.2.2.2.2)) 41 (ur_4.1)) 42 (ur_4.2.1)) 43 (ur_4.2.2.1)) 44 (ur_4.2.2.2.1)) 45 (ur_4.2.2.2.2.1)) 46 (ur_4.2.2.2.2.2.1)) 47 (ur_4.2.2.2.2.2.2.1)) 48 (ur_4.2.2.2.2.2.2.2.1)) (0 : Int32) (ur_4.2.2.2.2.2.2.2.2) ((ur_4.1) 24) ur_19.1 (ur_19.2.1) (ur_19.2.2)) ∧ (I2 (ur_19.1 5) (ur_19.1 6)) ∧ (I3 (ur_19.1 8)) ∧ (I4 (ur_19.1 10) (ur_19.1 20) (ur_19.1 29) (ur_19.1 24) (ur_19.1 11) (ur_19.1 12) (ur_19.1 13)) ∧ ((I5 (ur_19.1 32) (ur_19.1 33) (ur_19.1 35)) ∧ (I6 (ur_19.1 22) (ur_19.1 23) (ur_19.1 24) (ur_19.1 25) (ur_19.1 26)) ∧ (I7 (ur_19.1 41) (ur_19.1 42) (ur_19.1 44) (ur_19.1 45) (ur_19.1 46)) ∧ (I8 (ur_19.1 20) (ur_19.1 30) (ur_19.1 37) (ur_19.1 36)) ∧ (0 ≤ ur_19.2.2.toInt ∧ ur_19.2.2.toInt ≤ 24) ∧ (Z = ur_19.1) ∧ (cdz = ur_19.2.1) ∧ (pkz = ur_19.2.2) ∧ (r = 1))
abbrev D_X10_deliver_s2 (t0 : Int32) (t1 : Int32) (t2 : Int32) (A : AA) (pk : Int32) (p0 : Int32) (Z : AA) (cdz : Int32) (pkz : Int32) (r : Int32) (ur_3 : (Nat → Int32) × (Nat → Int32) × (Nat → Int32) × (Nat → Int32) × (Nat → Int32) × (Nat → Int32) × (Nat → Int32) × (Nat → Int32)) : Prop := (I7 (ur_3.1) (ur_3.2.1) (ur_3.2.2.2.1) (ur_3.2.2.2.2.1) (ur_3.2.2.2.2.2.1)) ∧ ∃ ur_4 : (Nat → Int32) × (Nat → Int32) × (Nat → Int32) × (Nat → Int32) × (Nat → Int32) × (Nat → Int32) × (Nat → Int32) × (Nat → Int32) × Int32, (D_X10_drop (uA (uA (uA (uA (uA (uA (uA (uA A 41 (ur_3.1)) 42 (ur_3.2.1)) 43 (ur_3.2.2.1)) 44 (ur_3.2.2.2.1)) 45 (ur_3.2.2.2.2.1)) 46 (ur_3.2.2.2.2.2.1)) 47 (ur_3.2.2.2.2.2.2.1)) 48 (ur_3.2.2.2.2.2.2.2)) (0 : Int32) pk p0 (uA (uA (uA (uA (uA (uA (uA (uA (uA (uA (uA (uA (uA (uA (uA (uA A 41 (ur_3.1)) 42 (ur_3.2.1)) 43 (ur_3.2.2.1)) 44 (ur_3.2.2.2.1)) 45 (ur_3.2.2.2.2.1)) 46 (ur_3.2.2.2.2.2.1)) 47 (ur_3.2.2.2.2.2.2.1)) 48 (ur_3.2.2.2.2.2.2.2)) 41 (ur_4.1)) 42 (ur_4.2.1)) 43 (ur_4.2.2.1)) 44 (ur_4.2.2.2.1)) 45 (ur_4.2.2.2.2.1)) 46 (ur_4.2.2.2.2.2.1)) 47 (ur_4.2.2.2.2.2.2.1)) 48 (ur_4.2.2.2.2.2.2.2.1)) (0 : Int32) (ur_4.2.2.2.2.2.2.2.2)) ∧ (I7 (ur_4.1) (ur_4.2.1) (ur_4.2.2.2.1) (ur_4.2.2.2.2.1) (ur_4.2.2.2.2.2.1)) ∧ (0 ≤ ur_4.2.2.2.2.2.2.2.2.toInt ∧ ur_4.2.2.2.2.2.2.2.2.toInt ≤ 24) ∧ ∃ n_10 : Nat, ((n_10 : Int) = ((ur_4.1) 24).toInt) ∧ (((A 10) n_10).toInt = 1) ∧ (D_X10_deliver_s1 t0 t1 t2 A Z cdz pkz r ur_3 ur_4)
abbrev D_X10_deliver_s3 (t0 : Int32) (t1 : Int32) (t2 : Int32) (A : AA) (pk : Int32) (p0 : Int32) (Z : AA) (cdz : Int32) (pkz : Int32) (r : Int32) : Prop := (¬ p0.toInt < 0) ∧ (p0.toInt < pk.toInt) ∧ ∃ ur_3 : (Nat → Int32) × (Nat → Int32) × (Nat → Int32) × (Nat → Int32) × (Nat → Int32) × (Nat → Int32) × (Nat → Int32) × (Nat → Int32), (D_X10_move1 A (0 : Int32) pk p0 (24 : Int32) (uA (uA (uA (uA (uA (uA (uA (uA A 41 (ur_3.1)) 42 (ur_3.2.1)) 43 (ur_3.2.2.1)) 44 (ur_3.2.2.2.1)) 45 (ur_3.2.2.2.2.1)) 46 (ur_3.2.2.2.2.2.1)) 47 (ur_3.2.2.2.2.2.2.1)) 48 (ur_3.2.2.2.2.2.2.2)) (0 : Int32) pk) ∧ (D_X10_deliver_s2 t0 t1 t2 A pk p0 Z cdz pkz r ur_3)
abbrev D_X10_deliver_s4 (A : AA) (Z : AA) (cdz : Int32) (pkz : Int32) (r : Int32) (ur_3 : (Nat → Int32) × (Nat → Int32) × (Nat → Int32) × (Nat → Int32) × (Nat → Int32) × (Nat → Int32) × (Nat → Int32) × (Nat → Int32)) (ur_4 : (Nat → Int32) × (Nat → Int32) × (Nat → Int32) × (Nat → Int32) × (Nat → Int32) × (Nat → Int32) × (Nat → Int32) × (Nat → Int32) × Int32) (x_23 : Int32) (ur_24 : (Nat → Int32) × (Nat → Int32) × (Nat → Int32) × (Nat → Int32) × (Nat → Int32) × (Nat → Int32) × (Nat → Int32) × (Nat → Int32) × (Nat → Int32) × (Nat → Int32) × (Nat → Int32) × (Nat → Int32) × (Nat → Int32) × (Nat → Int32) × (Nat → Int32) × (Nat → Int32)) : Prop := (D_X10_answerSome (uA (uA (uA (uA (uA (uA (uA (uA (uA (uA (uA (uA (uA (uA (uA (uA A 41 (ur_3.1)) 42 (ur_3.2.1)) 43 (ur_3.2.2.1)) 44 (ur_3.2.2.2.1)) 45 (ur_3.2.2.2.2.1)) 46 (ur_3.2.2.2.2.2.1)) 47 (ur_3.2.2.2.2.2.2.1)) 48 (ur_3.2.2.2.2.2.2.2)) 41 (ur_4.1)) 42 (ur_4.2.1)) 43 (ur_4.2.2.1)) 44 (ur_4.2.2.2.1)) 45 (ur_4.2.2.2.2.1)) 46 (ur_4.2.2.2.2.2.1)) 47 (ur_4.2.2.2.2.2.2.1)) 48 (ur_4.2.2.2.2.2.2.2.1)) (0 : Int32) (ur_4.2.2.2.2.2.2.2.2) ((ur_4.1) 24) x_23 (uA (uA (uA (uA (uA (uA (uA (uA (uA (uA (uA (uA (uA (uA (uA (uA (uA (uA (uA (uA (uA (uA (uA (uA (uA (uA (uA (uA (uA (uA (uA (uA A 41 (ur_3.1)) 42 (ur_3.2.1)) 43 (ur_3.2.2.1)) 44 (ur_3.2.2.2.1)) 45 (ur_3.2.2.2.2.1)) 46 (ur_3.2.2.2.2.2.1)) 47 (ur_3.2.2.2.2.2.2.1)) 48 (ur_3.2.2.2.2.2.2.2)) 41 (ur_4.1)) 42 (ur_4.2.1)) 43 (ur_4.2.2.1)) 44 (ur_4.2.2.2.1)) 45 (ur_4.2.2.2.2.1)) 46 (ur_4.2.2.2.2.2.1)) 47 (ur_4.2.2.2.2.2.2.1)) 48 (ur_4.2.2.2.2.2.2.2.1)) 8 (ur_24.1)) 9 (ur_24.2.1)) 12 (ur_24.2.2.1)) 15 (ur_24.2.2.2.1)) 16 (ur_24.2.2.2.2.1)) 17 (ur_24.2.2.2.2.2.1)) 18 (ur_24.2.2.2.2.2.2.1)) 20 (ur_24.2.2.2.2.2.2.2.1)) 22 (ur_24.2.2.2.2.2.2.2.2.1)) 23 (ur_24.2.2.2.2.2.2.2.2.2.1)) 24 (ur_24.2.2.2.2.2.2.2.2.2.2.1)) 25 (ur_24.2.2.2.2.2.2.2.2.2.2.2.1)) 26 (ur_24.2.2.2.2.2.2.2.2.2.2.2.2.1)) 27 (ur_24.2.2.2.2.2.2.2.2.2.2.2.2.2.1)) 28 (ur_24.2.2.2.2.2.2.2.2.2.2.2.2.2.2.1)) 29 (ur_24.2.2.2.2.2.2.2.2.2.2.2.2.2.2.2)) (0 : Int32) (ur_4.2.2.2.2.2.2.2.2)) ∧ (I3 (ur_24.1)) ∧ (I4 (A 10) (ur_24.2.2.2.2.2.2.2.1) (ur_24.2.2.2.2.2.2.2.2.2.2.2.2.2.2.2) (ur_24.2.2.2.2.2.2.2.2.2.2.1) (A 11) (ur_24.2.2.1) (A 13)) ∧ (I6 (ur_24.2.2.2.2.2.2.2.2.1) (ur_24.2.2.2.2.2.2.2.2.2.1) (ur_24.2.2.2.2.2.2.2.2.2.2.1) (ur_24.2.2.2.2.2.2.2.2.2.2.2.1) (ur_24.2.2.2.2.2.2.2.2.2.2.2.2.1)) ∧ (I8 (ur_24.2.2.2.2.2.2.2.1) (A 30) (A 37) (A 36)) ∧ (Z = (uA (uA (uA (uA (uA (uA (uA (uA (uA (uA (uA (uA (uA (uA (uA (uA (uA (uA (uA (uA (uA (uA (uA (uA (uA (uA (uA (uA (uA (uA (uA (uA A 41 (ur_3.1)) 42 (ur_3.2.1)) 43 (ur_3.2.2.1)) 44 (ur_3.2.2.2.1)) 45 (ur_3.2.2.2.2.1)) 46 (ur_3.2.2.2.2.2.1)) 47 (ur_3.2.2.2.2.2.2.1)) 48 (ur_3.2.2.2.2.2.2.2)) 41 (ur_4.1)) 42 (ur_4.2.1)) 43 (ur_4.2.2.1)) 44 (ur_4.2.2.2.1)) 45 (ur_4.2.2.2.2.1)) 46 (ur_4.2.2.2.2.2.1)) 47 (ur_4.2.2.2.2.2.2.1)) 48 (ur_4.2.2.2.2.2.2.2.1)) 8 (ur_24.1)) 9 (ur_24.2.1)) 12 (ur_24.2.2.1)) 15 (ur_24.2.2.2.1)) 16 (ur_24.2.2.2.2.1)) 17 (ur_24.2.2.2.2.2.1)) 18 (ur_24.2.2.2.2.2.2.1)) 20 (ur_24.2.2.2.2.2.2.2.1)) 22 (ur_24.2.2.2.2.2.2.2.2.1)) 23 (ur_24.2.2.2.2.2.2.2.2.2.1)) 24 (ur_24.2.2.2.2.2.2.2.2.2.2.1)) 25 (ur_24.2.2.2.2.2.2.2.2.2.2.2.1)) 26 (ur_24.2.2.2.2.2.2.2.2.2.2.2.2.1)) 27 (ur_24.2.2.2.2.2.2.2.2.2.2.2.2.2.1)) 28 (ur_24.2.2.2.2.2.2.2.2.2.2.2.2.2.2.1)) 29 (ur_24.2.2.2.2.2.2.2.2.2.2.2.2.2.2.2))) ∧ (cdz = 0) ∧ (pkz = ur_4.2.2.2.2.2.2.2.2) ∧ (r = 1)
abbrev D_X10_deliver_s5 (A : AA) (Z : AA) (cdz : Int32) (pkz : Int32) (r : Int32) (ur_3 : (Nat → Int32) × (Nat → Int32) × (Nat → Int32) × (Nat → Int32) × (Nat → Int32) × (Nat → Int32) × (Nat → Int32) × (Nat → Int32)) (ur_4 : (Nat → Int32) × (Nat → Int32) × (Nat → Int32) × (Nat → Int32) × (Nat → Int32) × (Nat → Int32) × (Nat → Int32) × (Nat → Int32) × Int32) (n_10 : Nat) : Prop := (4 ≤ ((ur_4.2.1) 24).toInt) ∧ (¬ ((ur_4.2.1) 24).toInt = 4) ∧ (((ur_4.2.1) 24).toInt = 5) ∧ ∃ x_22 : Int32, (x_22 = ((((ur_4.2.2.1) 24) - ((A 12) n_10)) + 64) - ((((ur_4.2.2.1) 24) - ((A 12) n_10)) + 64) / 64 * 64) ∧ ∃ x_23 : Int32, (x_23 = x_22 + 1) ∧ ∃ ur_24 : (Nat → Int32) × (Nat → Int32) × (Nat → Int32) × (Nat → Int32) × (Nat → Int32) × (Nat → Int32) × (Nat → Int32) × (Nat → Int32) × (Nat → Int32) × (Nat → Int32) × (Nat → Int32) × (Nat → Int32) × (Nat → Int32) × (Nat → Int32) × (Nat → Int32) × (Nat → Int32), (D_X10_deliver_s4 A Z cdz pkz r ur_3 ur_4 x_23 ur_24)
abbrev D_X10_deliver_s6 (A : AA) (pk : Int32) (p0 : Int32) (Z : AA) (cdz : Int32) (pkz : Int32) (r : Int32) (ur_3 : (Nat → Int32) × (Nat → Int32) × (Nat → Int32) × (Nat → Int32) × (Nat → Int32) × (Nat → Int32) × (Nat → Int32) × (Nat → Int32)) : Prop := (I7 (ur_3.1) (ur_3.2.1) (ur_3.2.2.2.1) (ur_3.2.2.2.2.1) (ur_3.2.2.2.2.2.1)) ∧ ∃ ur_4 : (Nat → Int32) × (Nat → Int32) × (Nat → Int32) × (Nat → Int32) × (Nat → Int32) × (Nat → Int32) × (Nat → Int32) × (Nat → Int32) × Int32, (D_X10_drop (uA (uA (uA (uA (uA (uA (uA (uA A 41 (ur_3.1)) 42 (ur_3.2.1)) 43 (ur_3.2.2.1)) 44 (ur_3.2.2.2.1)) 45 (ur_3.2.2.2.2.1)) 46 (ur_3.2.2.2.2.2.1)) 47 (ur_3.2.2.2.2.2.2.1)) 48 (ur_3.2.2.2.2.2.2.2)) (0 : Int32) pk p0 (uA (uA (uA (uA (uA (uA (uA (uA (uA (uA (uA (uA (uA (uA (uA (uA A 41 (ur_3.1)) 42 (ur_3.2.1)) 43 (ur_3.2.2.1)) 44 (ur_3.2.2.2.1)) 45 (ur_3.2.2.2.2.1)) 46 (ur_3.2.2.2.2.2.1)) 47 (ur_3.2.2.2.2.2.2.1)) 48 (ur_3.2.2.2.2.2.2.2)) 41 (ur_4.1)) 42 (ur_4.2.1)) 43 (ur_4.2.2.1)) 44 (ur_4.2.2.2.1)) 45 (ur_4.2.2.2.2.1)) 46 (ur_4.2.2.2.2.2.1)) 47 (ur_4.2.2.2.2.2.2.1)) 48 (ur_4.2.2.2.2.2.2.2.1)) (0 : Int32) (ur_4.2.2.2.2.2.2.2.2)) ∧ (I7 (ur_4.1) (ur_4.2.1) (ur_4.2.2.2.1) (ur_4.2.2.2.2.1) (ur_4.2.2.2.2.2.1)) ∧ (0 ≤ ur_4.2.2.2.2.2.2.2.2.toInt ∧ ur_4.2.2.2.2.2.2.2.2.toInt ≤ 24) ∧ ∃ n_10 : Nat, ((n_10 : Int) = ((ur_4.1) 24).toInt) ∧ (((A 10) n_10).toInt = 1) ∧ (D_X10_deliver_s5 A Z cdz pkz r ur_3 ur_4 n_10)
abbrev D_X10_deliver_s7 (A : AA) (pk : Int32) (p0 : Int32) (Z : AA) (cdz : Int32) (pkz : Int32) (r : Int32) : Prop := (¬ p0.toInt < 0) ∧ (p0.toInt < pk.toInt) ∧ ∃ ur_3 : (Nat → Int32) × (Nat → Int32) × (Nat → Int32) × (Nat → Int32) × (Nat → Int32) × (Nat → Int32) × (Nat → Int32) × (Nat → Int32), (D_X10_move1 A (0 : Int32) pk p0 (24 : Int32) (uA (uA (uA (uA (uA (uA (uA (uA A 41 (ur_3.1)) 42 (ur_3.2.1)) 43 (ur_3.2.2.1)) 44 (ur_3.2.2.2.1)) 45 (ur_3.2.2.2.2.1)) 46 (ur_3.2.2.2.2.2.1)) 47 (ur_3.2.2.2.2.2.2.1)) 48 (ur_3.2.2.2.2.2.2.2)) (0 : Int32) pk) ∧ (D_X10_deliver_s6 A pk p0 Z cdz pkz r ur_3)
abbrev D_X10_deliver_s8 (A : AA) (Z : AA) (cdz : Int32) (pkz : Int32) (r : Int32) (ur_3 : (Nat → Int32) × (Nat → Int32) × (Nat → Int32) × (Nat → Int32) × (Nat → Int32) × (Nat → Int32) × (Nat → Int32) × (Nat → Int32)) (ur_4 : (Nat → Int32) × (Nat → Int32) × (Nat → Int32) × (Nat → Int32) × (Nat → Int32) × (Nat → Int32) × (Nat → Int32) × (Nat → Int32) × Int32) (ur_25 : (Nat → Int32) × (Nat → Int32) × (Nat → Int32) × (Nat → Int32) × (Nat → Int32) × (Nat → Int32) × (Nat → Int32) × (Nat → Int32) × (Nat → Int32) × (Nat → Int32) × (Nat → Int32) × (Nat → Int32) × (Nat → Int32) × (Nat → Int32) × (Nat → Int32) × (Nat → Int32) × (Nat → Int32)) : Prop := (D_X10_replied (uA (uA (uA (uA (uA (uA (uA (uA (uA (uA (uA (uA (uA (uA (uA (uA A 41 (ur_3.1)) 42 (ur_3.2.1)) 43 (ur_3.2.2.1)) 44 (ur_3.2.2.2.1)) 45 (ur_3.2.2.2.2.1)) 46 (ur_3.2.2.2.2.2.1)) 47 (ur_3.2.2.2.2.2.2.1)) 48 (ur_3.2.2.2.2.2.2.2)) 41 (ur_4.1)) 42 (ur_4.2.1)) 43 (ur_4.2.2.1)) 44 (ur_4.2.2.2.1)) 45 (ur_4.2.2.2.2.1)) 46 (ur_4.2.2.2.2.2.1)) 47 (ur_4.2.2.2.2.2.2.1)) 48 (ur_4.2.2.2.2.2.2.2.1)) (0 : Int32) (ur_4.2.2.2.2.2.2.2.2) ((ur_4.1) 24) (uA (uA (uA (uA (uA (uA (uA (uA (uA (uA (uA (uA (uA (uA (uA (uA (uA (uA (uA (uA (uA (uA (uA (uA (uA (uA (uA (uA (uA (uA (uA (uA (uA A 41 (ur_3.1)) 42 (ur_3.2.1)) 43 (ur_3.2.2.1)) 44 (ur_3.2.2.2.1)) 45 (ur_3.2.2.2.2.1)) 46 (ur_3.2.2.2.2.2.1)) 47 (ur_3.2.2.2.2.2.2.1)) 48 (ur_3.2.2.2.2.2.2.2)) 41 (ur_4.1)) 42 (ur_4.2.1)) 43 (ur_4.2.2.1)) 44 (ur_4.2.2.2.1)) 45 (ur_4.2.2.2.2.1)) 46 (ur_4.2.2.2.2.2.1)) 47 (ur_4.2.2.2.2.2.2.1)) 48 (ur_4.2.2.2.2.2.2.2.1)) 4 (ur_25.1)) 8 (ur_25.2.1)) 9 (ur_25.2.2.1)) 12 (ur_25.2.2.2.1)) 15 (ur_25.2.2.2.2.1)) 16 (ur_25.2.2.2.2.2.1)) 17 (ur_25.2.2.2.2.2.2.1)) 18 (ur_25.2.2.2.2.2.2.2.1)) 20 (ur_25.2.2.2.2.2.2.2.2.1)) 22 (ur_25.2.2.2.2.2.2.2.2.2.1)) 23 (ur_25.2.2.2.2.2.2.2.2.2.2.1)) 24 (ur_25.2.2.2.2.2.2.2.2.2.2.2.1)) 25 (ur_25.2.2.2.2.2.2.2.2.2.2.2.2.1)) 26 (ur_25.2.2.2.2.2.2.2.2.2.2.2.2.2.1)) 27 (ur_25.2.2.2.2.2.2.2.2.2.2.2.2.2.2.1)) 28 (ur_25.2.2.2.2.2.2.2.2.2.2.2.2.2.2.2.1)) 29 (ur_25.2.2.2.2.2.2.2.2.2.2.2.2.2.2.2.2)) (0 : Int32) (ur_4.2.2.2.2.2.2.2.2)) ∧ (I3 (ur_25.2.1)) ∧ (I4 (A 10) (ur_25.2.2.2.2.2.2.2.2.1) (ur_25.2.2.2.2.2.2.2.2.2.2.2.2.2.2.2.2) (ur_25.2.2.2.2.2.2.2.2.2.2.2.1) (A 11) (ur_25.2.2.2.1) (A 13)) ∧ (I6 (ur_25.2.2.2.2.2.2.2.2.2.1) (ur_25.2.2.2.2.2.2.2.2.2.2.1) (ur_25.2.2.2.2.2.2.2.2.2.2.2.1) (ur_25.2.2.2.2.2.2.2.2.2.2.2.2.1) (ur_25.2.2.2.2.2.2.2.2.2.2.2.2.2.1)) ∧ (I8 (ur_25.2.2.2.2.2.2.2.2.1) (A 30) (A 37) (A 36)) ∧ (Z = (uA (uA (uA (uA (uA (uA (uA (uA (uA (uA (uA (uA (uA (uA (uA (uA (uA (uA (uA (uA (uA (uA (uA (uA (uA (uA (uA (uA (uA (uA (uA (uA (uA A 41 (ur_3.1)) 42 (ur_3.2.1)) 43 (ur_3.2.2.1)) 44 (ur_3.2.2.2.1)) 45 (ur_3.2.2.2.2.1)) 46 (ur_3.2.2.2.2.2.1)) 47 (ur_3.2.2.2.2.2.2.1)) 48 (ur_3.2.2.2.2.2.2.2)) 41 (ur_4.1)) 42 (ur_4.2.1)) 43 (ur_4.2.2.1)) 44 (ur_4.2.2.2.1)) 45 (ur_4.2.2.2.2.1)) 46 (ur_4.2.2.2.2.2.1)) 47 (ur_4.2.2.2.2.2.2.1)) 48 (ur_4.2.2.2.2.2.2.2.1)) 4 (ur_25.1)) 8 (ur_25.2.1)) 9 (ur_25.2.2.1)) 12 (ur_25.2.2.2.1)) 15 (ur_25.2.2.2.2.1)) 16 (ur_25.2.2.2.2.2.1)) 17 (ur_25.2.2.2.2.2.2.1)) 18 (ur_25.2.2.2.2.2.2.2.1)) 20 (ur_25.2.2.2.2.2.2.2.2.1)) 22 (ur_25.2.2.2.2.2.2.2.2.2.1)) 23 (ur_25.2.2.2.2.2.2.2.2.2.2.1)) 24 (ur_25.2.2.2.2.2.2.2.2.2.2.2.1)) 25 (ur_25.2.2.2.2.2.2.2.2.2.2.2.2.1)) 26 (ur_25.2.2.2.2.2.2.2.2.2.2.2.2.2.1)) 27 (ur_25.2.2.2.2.2.2.2.2.2.2.2.2.2.2.1)) 28 (ur_25.2.2.2.2.2.2.2.2.2.2.2.2.2.2.2.1)) 29 (ur_25.2.2.2.2.2.2.2.2.2.2.2.2.2.2.2.2))) ∧ (cdz = 0) ∧ (pkz = ur_4.2.2.2.2.2.2.2.2) ∧ (r = 1)
abbrev D_X10_deliver_s9 (A : AA) (Z : AA) (cdz : Int32) (pkz : Int32) (r : Int32) (ur_3 : (Nat → Int32) × (Nat → Int32) × (Nat → Int32) × (Nat → Int32) × (Nat → Int32) × (Nat → Int32) × (Nat → Int32) × (Nat → Int32)) (ur_4 : (Nat → Int32) × (Nat → Int32) × (Nat → Int32) × (Nat → Int32) × (Nat → Int32) × (Nat → Int32) × (Nat → Int32) × (Nat → Int32) × Int32) : Prop := (I7 (ur_4.1) (ur_4.2.1) (ur_4.2.2.2.1) (ur_4.2.2.2.2.1) (ur_4.2.2.2.2.2.1)) ∧ (0 ≤ ur_4.2.2.2.2.2.2.2.2.toInt ∧ ur_4.2.2.2.2.2.2.2.2.toInt ≤ 24) ∧ ∃ n_10 : Nat, ((n_10 : Int) = ((ur_4.1) 24).toInt) ∧ (((A 10) n_10).toInt = 1) ∧ (4 ≤ ((ur_4.2.1) 24).toInt) ∧ (((ur_4.2.1) 24).toInt = 4) ∧ ∃ ur_25 : (Nat → Int32) × (Nat → Int32) × (Nat → Int32) × (Nat → Int32) × (Nat → Int32) × (Nat → Int32) × (Nat → Int32) × (Nat → Int32) × (Nat → Int32) × (Nat → Int32) × (Nat → Int32) × (Nat → Int32) × (Nat → Int32) × (Nat → Int32) × (Nat → Int32) × (Nat → Int32) × (Nat → Int32), (D_X10_deliver_s8 A Z cdz pkz r ur_3 ur_4 ur_25)
abbrev D_X10_deliver_s10 (A : AA) (pk : Int32) (p0 : Int32) (Z : AA) (cdz : Int32) (pkz : Int32) (r : Int32) : Prop := (¬ p0.toInt < 0) ∧ (p0.toInt < pk.toInt) ∧ ∃ ur_3 : (Nat → Int32) × (Nat → Int32) × (Nat → Int32) × (Nat → Int32) × (Nat → Int32) × (Nat → Int32) × (Nat → Int32) × (Nat → Int32), (D_X10_move1 A (0 : Int32) pk p0 (24 : Int32) (uA (uA (uA (uA (uA (uA (uA (uA A 41 (ur_3.1)) 42 (ur_3.2.1)) 43 (ur_3.2.2.1)) 44 (ur_3.2.2.2.1)) 45 (ur_3.2.2.2.2.1)) 46 (ur_3.2.2.2.2.2.1)) 47 (ur_3.2.2.2.2.2.2.1)) 48 (ur_3.2.2.2.2.2.2.2)) (0 : Int32) pk) ∧ (I7 (ur_3.1) (ur_3.2.1) (ur_3.2.2.2.1) (ur_3.2.2.2.2.1) (ur_3.2.2.2.2.2.1)) ∧ ∃ ur_4 : (Nat → Int32) × (Nat → Int32) × (Nat → Int32) × (Nat → Int32) × (Nat → Int32) × (Nat → Int32) × (Nat → Int32) × (Nat → Int32) × Int32, (D_X10_drop (uA (uA (uA (uA (uA (uA (uA (uA A 41 (ur_3.1)) 42 (ur_3.2.1)) 43 (ur_3.2.2.1)) 44 (ur_3.2.2.2.1)) 45 (ur_3.2.2.2.2.1)) 46 (ur_3.2.2.2.2.2.1)) 47 (ur_3.2.2.2.2.2.2.1)) 48 (ur_3.2.2.2.2.2.2.2)) (0 : Int32) pk p0 (uA (uA (uA (uA (uA (uA (uA (uA (uA (uA (uA (uA (uA (uA (uA (uA A 41 (ur_3.1)) 42 (ur_3.2.1)) 43 (ur_3.2.2.1)) 44 (ur_3.2.2.2.1)) 45 (ur_3.2.2.2.2.1)) 46 (ur_3.2.2.2.2.2.1)) 47 (ur_3.2.2.2.2.2.2.1)) 48 (ur_3.2.2.2.2.2.2.2)) 41 (ur_4.1)) 42 (ur_4.2.1)) 43 (ur_4.2.2.1)) 44 (ur_4.2.2.2.1)) 45 (ur_4.2.2.2.2.1)) 46 (ur_4.2.2.2.2.2.1)) 47 (ur_4.2.2.2.2.2.2.1)) 48 (ur_4.2.2.2.2.2.2.2.1)) (0 : Int32) (ur_4.2.2.2.2.2.2.2.2)) ∧ (D_X10_deliver_s9 A Z cdz pkz r ur_3 ur_4)
abbrev D_X10_deliver_s11 (A : AA) (Z : AA) (cdz : Int32) (pkz : Int32) (r : Int32) (ur_3 : (Nat → Int32) × (Nat → Int32) × (Nat → Int32) × (Nat → Int32) × (Nat → Int32) × (Nat → Int32) × (Nat → Int32) × (Nat → Int32)) (ur_4 : (Nat → Int32) × (Nat → Int32) × (Nat → Int32) × (Nat → Int32) × (Nat → Int32) × (Nat → Int32) × (Nat → Int32) × (Nat → Int32) × Int32) (n_10 : Nat) : Prop := ((n_10 : Int) = ((ur_4.1) 24).toInt) ∧ (((A 10) n_10).toInt = 1) ∧ (¬ 4 ≤ ((ur_4.2.1) 24).toInt) ∧ ∃ ur_26 : AA × Int32 × Int32, (D_X10_asked (uA (uA (uA (uA (uA (uA (uA (uA (uA (uA (uA (uA (uA (uA (uA (uA A 41 (ur_3.1)) 42 (ur_3.2.1)) 43 (ur_3.2.2.1)) 44 (ur_3.2.2.2.1)) 45 (ur_3.2.2.2.2.1)) 46 (ur_3.2.2.2.2.2.1)) 47 (ur_3.2.2.2.2.2.2.1)) 48 (ur_3.2.2.2.2.2.2.2)) 41 (ur_4.1)) 42 (ur_4.2.1)) 43 (ur_4.2.2.1)) 44 (ur_4.2.2.2.1)) 45 (ur_4.2.2.2.2.1)) 46 (ur_4.2.2.2.2.2.1)) 47 (ur_4.2.2.2.2.2.2.1)) 48 (ur_4.2.2.2.2.2.2.2.1)) (0 : Int32) (ur_4.2.2.2.2.2.2.2.2) ((ur_4.1) 24) ur_26.1 (ur_26.2.1) (ur_26.2.2)) ∧ (I2 (ur_26.1 5) (ur_26.1 6)) ∧ (I3 (ur_26.1 8)) ∧ (I4 (ur_26.1 10) (ur_26.1 20) (ur_26.1 29) (ur_26.1 24) (ur_26.1 11) (ur_26.1 12) (ur_26.1 13)) ∧ ((I5 (ur_26.1 32) (ur_26.1 33) (ur_26.1 35)) ∧ (I6 (ur_26.1 22) (ur_26.1 23) (ur_26.1 24) (ur_26.1 25) (ur_26.1 26)) ∧ (I7 (ur_26.1 41) (ur_26.1 42) (ur_26.1 44) (ur_26.1 45) (ur_26.1 46)) ∧ (I8 (ur_26.1 20) (ur_26.1 30) (ur_26.1 37) (ur_26.1 36)) ∧ (0 ≤ ur_26.2.2.toInt ∧ ur_26.2.2.toInt ≤ 24) ∧ (Z = ur_26.1) ∧ (cdz = ur_26.2.1) ∧ (pkz = ur_26.2.2) ∧ (r = 1))
abbrev D_X10_deliver_s12 (A : AA) (pk : Int32) (p0 : Int32) (Z : AA) (cdz : Int32) (pkz : Int32) (r : Int32) : Prop := ∃ ur_3 : (Nat → Int32) × (Nat → Int32) × (Nat → Int32) × (Nat → Int32) × (Nat → Int32) × (Nat → Int32) × (Nat → Int32) × (Nat → Int32), (D_X10_move1 A (0 : Int32) pk p0 (24 : Int32) (uA (uA (uA (uA (uA (uA (uA (uA A 41 (ur_3.1)) 42 (ur_3.2.1)) 43 (ur_3.2.2.1)) 44 (ur_3.2.2.2.1)) 45 (ur_3.2.2.2.2.1)) 46 (ur_3.2.2.2.2.2.1)) 47 (ur_3.2.2.2.2.2.2.1)) 48 (ur_3.2.2.2.2.2.2.2)) (0 : Int32) pk) ∧ (I7 (ur_3.1) (ur_3.2.1) (ur_3.2.2.2.1) (ur_3.2.2.2.2.1) (ur_3.2.2.2.2.2.1)) ∧ ∃ ur_4 : (Nat → Int32) × (Nat → Int32) × (Nat → Int32) × (Nat → Int32) × (Nat → Int32) × (Nat → Int32) × (Nat → Int32) × (Nat → Int32) × Int32, (D_X10_drop (uA (uA (uA (uA (uA (uA (uA (uA A 41 (ur_3.1)) 42 (ur_3.2.1)) 43 (ur_3.2.2.1)) 44 (ur_3.2.2.2.1)) 45 (ur_3.2.2.2.2.1)) 46 (ur_3.2.2.2.2.2.1)) 47 (ur_3.2.2.2.2.2.2.1)) 48 (ur_3.2.2.2.2.2.2.2)) (0 : Int32) pk p0 (uA (uA (uA (uA (uA (uA (uA (uA (uA (uA (uA (uA (uA (uA (uA (uA A 41 (ur_3.1)) 42 (ur_3.2.1)) 43 (ur_3.2.2.1)) 44 (ur_3.2.2.2.1)) 45 (ur_3.2.2.2.2.1)) 46 (ur_3.2.2.2.2.2.1)) 47 (ur_3.2.2.2.2.2.2.1)) 48 (ur_3.2.2.2.2.2.2.2)) 41 (ur_4.1)) 42 (ur_4.2.1)) 43 (ur_4.2.2.1)) 44 (ur_4.2.2.2.1)) 45 (ur_4.2.2.2.2.1)) 46 (ur_4.2.2.2.2.2.1)) 47 (ur_4.2.2.2.2.2.2.1)) 48 (ur_4.2.2.2.2.2.2.2.1)) (0 : Int32) (ur_4.2.2.2.2.2.2.2.2)) ∧ (I7 (ur_4.1) (ur_4.2.1) (ur_4.2.2.2.1) (ur_4.2.2.2.2.1) (ur_4.2.2.2.2.2.1)) ∧ (0 ≤ ur_4.2.2.2.2.2.2.2.2.toInt ∧ ur_4.2.2.2.2.2.2.2.2.toInt ≤ 24) ∧ ∃ n_10 : Nat, (D_X10_deliver_s11 A Z cdz pkz r ur_3 ur_4 n_10)
abbrev D_X10_deliver_s13 (A : AA) (Z : AA) (cdz : Int32) (pkz : Int32) (r : Int32) (ur_3 : (Nat → Int32) × (Nat → Int32) × (Nat → Int32) × (Nat → Int32) × (Nat → Int32) × (Nat → Int32) × (Nat → Int32) × (Nat → Int32)) (ur_4 : (Nat → Int32) × (Nat → Int32) × (Nat → Int32) × (Nat → Int32) × (Nat → Int32) × (Nat → Int32) × (Nat → Int32) × (Nat → Int32) × Int32) : Prop := (I7 (ur_4.1) (ur_4.2.1) (ur_4.2.2.2.1) (ur_4.2.2.2.2.1) (ur_4.2.2.2.2.2.1)) ∧ (0 ≤ ur_4.2.2.2.2.2.2.2.2.toInt ∧ ur_4.2.2.2.2.2.2.2.2.toInt ≤ 24) ∧ ∃ n_10 : Nat, ((n_10 : Int) = ((ur_4.1) 24).toInt) ∧ (¬ ((A 10) n_10).toInt = 1) ∧ (Z = (uA (uA (uA (uA (uA (uA (uA (uA (uA (uA (uA (uA (uA (uA (uA (uA A 41 (ur_3.1)) 42 (ur_3.2.1)) 43 (ur_3.2.2.1)) 44 (ur_3.2.2.2.1)) 45 (ur_3.2.2.2.2.1)) 46 (ur_3.2.2.2.2.2.1)) 47 (ur_3.2.2.2.2.2.2.1)) 48 (ur_3.2.2.2.2.2.2.2)) 41 (ur_4.1)) 42 (ur_4.2.1)) 43 (ur_4.2.2.1)) 44 (ur_4.2.2.2.1)) 45 (ur_4.2.2.2.2.1)) 46 (ur_4.2.2.2.2.2.1)) 47 (ur_4.2.2.2.2.2.2.1)) 48 (ur_4.2.2.2.2.2.2.2.1))) ∧ (cdz = 0) ∧ (pkz = ur_4.2.2.2.2.2.2.2.2) ∧ (r = 1)
abbrev D_X10_deliver_s14 (A : AA) (pk : Int32) (p0 : Int32) (Z : AA) (cdz : Int32) (pkz : Int32) (r : Int32) : Prop := (¬ p0.toInt < 0) ∧ (p0.toInt < pk.toInt) ∧ ∃ ur_3 : (Nat → Int32) × (Nat → Int32) × (Nat → Int32) × (Nat → Int32) × (Nat → Int32) × (Nat → Int32) × (Nat → Int32) × (Nat → Int32), (D_X10_move1 A (0 : Int32) pk p0 (24 : Int32) (uA (uA (uA (uA (uA (uA (uA (uA A 41 (ur_3.1)) 42 (ur_3.2.1)) 43 (ur_3.2.2.1)) 44 (ur_3.2.2.2.1)) 45 (ur_3.2.2.2.2.1)) 46 (ur_3.2.2.2.2.2.1)) 47 (ur_3.2.2.2.2.2.2.1)) 48 (ur_3.2.2.2.2.2.2.2)) (0 : Int32) pk) ∧ (I7 (ur_3.1) (ur_3.2.1) (ur_3.2.2.2.1) (ur_3.2.2.2.2.1) (ur_3.2.2.2.2.2.1)) ∧ ∃ ur_4 : (Nat → Int32) × (Nat → Int32) × (Nat → Int32) × (Nat → Int32) × (Nat → Int32) × (Nat → Int32) × (Nat → Int32) × (Nat → Int32) × Int32, (D_X10_drop (uA (uA (uA (uA (uA (uA (uA (uA A 41 (ur_3.1)) 42 (ur_3.2.1)) 43 (ur_3.2.2.1)) 44 (ur_3.2.2.2.1)) 45 (ur_3.2.2.2.2.1)) 46 (ur_3.2.2.2.2.2.1)) 47 (ur_3.2.2.2.2.2.2.1)) 48 (ur_3.2.2.2.2.2.2.2)) (0 : Int32) pk p0 (uA (uA (uA (uA (uA (uA (uA (uA (uA (uA (uA (uA (uA (uA (uA (uA A 41 (ur_3.1)) 42 (ur_3.2.1)) 43 (ur_3.2.2.1)) 44 (ur_3.2.2.2.1)) 45 (ur_3.2.2.2.2.1)) 46 (ur_3.2.2.2.2.2.1)) 47 (ur_3.2.2.2.2.2.2.1)) 48 (ur_3.2.2.2.2.2.2.2)) 41 (ur_4.1)) 42 (ur_4.2.1)) 43 (ur_4.2.2.1)) 44 (ur_4.2.2.2.1)) 45 (ur_4.2.2.2.2.1)) 46 (ur_4.2.2.2.2.2.1)) 47 (ur_4.2.2.2.2.2.2.1)) 48 (ur_4.2.2.2.2.2.2.2.1)) (0 : Int32) (ur_4.2.2.2.2.2.2.2.2)) ∧ (D_X10_deliver_s13 A Z cdz pkz r ur_3 ur_4)
def D_X10_deliver (t0 t1 t2 : Int32) (A : AA) (cd pk : Int32) (p0 : Int32) (Z : AA) (cdz pkz : Int32) (r : Int32) : Prop := ((p0.toInt < 0) ∧ (Z = A) ∧ (cdz = 0) ∧ (pkz = pk) ∧ (r = 0)) ∨ (D_X10_deliver_s3 t0 t1 t2 A pk p0 Z cdz pkz r) ∨ (D_X10_deliver_s7 A pk p0 Z cdz pkz r) ∨ (D_X10_deliver_s10 A pk p0 Z cdz pkz r) ∨ ((¬ p0.toInt < 0) ∧ (p0.toInt < pk.toInt) ∧ (D_X10_deliver_s12 A pk p0 Z cdz pkz r)) ∨ (D_X10_deliver_s14 A pk p0 Z cdz pkz r) ∨ ((¬ p0.toInt < 0) ∧ (¬ p0.toInt < pk.toInt) ∧ (Z = A) ∧ (cdz = 0) ∧ (pkz = pk) ∧ (r = 0))
def D_X10_spoil (A : AA) (cd pk : Int32) (p0 : Int32) (p1 : Int32) (Z : AA) (cdz pkz : Int32) (r : Int32) : Prop :=
  ((p0.toInt < 0) ∧ Z = (uA (uA (uA (uA (uA (uA (uA (uA A 41 (A 41)) 42 (A 42)) 43 (A 43)) 44 (A 44)) 45 (A 45)) 46 (A 46)) 47 (A 47)) 48 (A 48)) ∧ cdz = 0 ∧ pkz = pk ∧ r = 0)
  ∨ ((¬ p0.toInt < 0) ∧ (pk.toInt ≤ p0.toInt) ∧ Z = (uA (uA (uA (uA (uA (uA (uA (uA A 41 (A 41)) 42 (A 42)) 43 (A 43)) 44 (A 44)) 45 (A 45)) 46 (A 46)) 47 (A 47)) 48 (A 48)) ∧ cdz = 0 ∧ pkz = pk ∧ r = 0)
  ∨ ((¬ p0.toInt < 0) ∧ (¬ pk.toInt ≤ p0.toInt) ∧ (p1.toInt = 0) ∧ (p1.toInt = 0) ∧ ∃ ur_5 : (Nat → Int32) × (Nat → Int32) × (Nat → Int32) × (Nat → Int32) × (Nat → Int32) × (Nat → Int32) × (Nat → Int32) × (Nat → Int32) × Int32, (D_X10_drop A (0 : Int32) pk p0 (uA (uA (uA (uA (uA (uA (uA (uA A 41 (ur_5.1)) 42 (ur_5.2.1)) 43 (ur_5.2.2.1)) 44 (ur_5.2.2.2.1)) 45 (ur_5.2.2.2.2.1)) 46 (ur_5.2.2.2.2.2.1)) 47 (ur_5.2.2.2.2.2.2.1)) 48 (ur_5.2.2.2.2.2.2.2.1)) (0 : Int32) (ur_5.2.2.2.2.2.2.2.2)) ∧ (I7 (ur_5.1) (ur_5.2.1) (ur_5.2.2.2.1) (ur_5.2.2.2.2.1) (ur_5.2.2.2.2.2.1)) ∧ (0 ≤ ur_5.2.2.2.2.2.2.2.2.toInt ∧ ur_5.2.2.2.2.2.2.2.2.toInt ≤ 24) ∧ Z = (uA (uA (uA (uA (uA (uA (uA (uA A 41 (ur_5.1)) 42 (ur_5.2.1)) 43 (ur_5.2.2.1)) 44 (ur_5.2.2.2.1)) 45 (ur_5.2.2.2.2.1)) 46 (ur_5.2.2.2.2.2.1)) 47 (ur_5.2.2.2.2.2.2.1)) 48 (ur_5.2.2.2.2.2.2.2.1)) ∧ cdz = 0 ∧ pkz = ur_5.2.2.2.2.2.2.2.2 ∧ r = 1)
  ∨ ((¬ p0.toInt < 0) ∧ (¬ pk.toInt ≤ p0.toInt) ∧ (p1.toInt = 0) ∧ (¬ p1.toInt = 0) ∧ ∃ ur_6 : (Nat → Int32) × (Nat → Int32) × (Nat → Int32) × (Nat → Int32) × (Nat → Int32) × (Nat → Int32) × (Nat → Int32) × (Nat → Int32), (D_X10_move1 A (0 : Int32) pk p0 pk (uA (uA (uA (uA (uA (uA (uA (uA A 41 (ur_6.1)) 42 (ur_6.2.1)) 43 (ur_6.2.2.1)) 44 (ur_6.2.2.2.1)) 45 (ur_6.2.2.2.2.1)) 46 (ur_6.2.2.2.2.2.1)) 47 (ur_6.2.2.2.2.2.2.1)) 48 (ur_6.2.2.2.2.2.2.2)) (0 : Int32) pk) ∧ (I7 (ur_6.1) (ur_6.2.1) (ur_6.2.2.2.1) (ur_6.2.2.2.2.1) (ur_6.2.2.2.2.2.1)) ∧ ∃ x_7 : Int32, (x_7 = pk + 1) ∧ (x_7.toInt = pk.toInt + 1) ∧ Z = (uA (uA (uA (uA (uA (uA (uA (uA A 41 (ur_6.1)) 42 (ur_6.2.1)) 43 (ur_6.2.2.1)) 44 (ur_6.2.2.2.1)) 45 (ur_6.2.2.2.2.1)) 46 (ur_6.2.2.2.2.2.1)) 47 (ur_6.2.2.2.2.2.2.1)) 48 (ur_6.2.2.2.2.2.2.2)) ∧ cdz = 0 ∧ pkz = x_7 ∧ r = 1)
  ∨ ((¬ p0.toInt < 0) ∧ (¬ pk.toInt ≤ p0.toInt) ∧ (¬ p1.toInt = 0) ∧ (¬ pk.toInt = 24) ∧ (p1.toInt = 0) ∧ ∃ ur_10 : (Nat → Int32) × (Nat → Int32) × (Nat → Int32) × (Nat → Int32) × (Nat → Int32) × (Nat → Int32) × (Nat → Int32) × (Nat → Int32) × Int32, (D_X10_drop A (0 : Int32) pk p0 (uA (uA (uA (uA (uA (uA (uA (uA A 41 (ur_10.1)) 42 (ur_10.2.1)) 43 (ur_10.2.2.1)) 44 (ur_10.2.2.2.1)) 45 (ur_10.2.2.2.2.1)) 46 (ur_10.2.2.2.2.2.1)) 47 (ur_10.2.2.2.2.2.2.1)) 48 (ur_10.2.2.2.2.2.2.2.1)) (0 : Int32) (ur_10.2.2.2.2.2.2.2.2)) ∧ (I7 (ur_10.1) (ur_10.2.1) (ur_10.2.2.2.1) (ur_10.2.2.2.2.1) (ur_10.2.2.2.2.2.1)) ∧ (0 ≤ ur_10.2.2.2.2.2.2.2.2.toInt ∧ ur_10.2.2.2.2.2.2.2.2.toInt ≤ 24) ∧ Z = (uA (uA (uA (uA (uA (uA (uA (uA A 41 (ur_10.1)) 42 (ur_10.2.1)) 43 (ur_10.2.2.1)) 44 (ur_10.2.2.2.1)) 45 (ur_10.2.2.2.2.1)) 46 (ur_10.2.2.2.2.2.1)) 47 (ur_10.2.2.2.2.2.2.1)) 48 (ur_10.2.2.2.2.2.2.2.1)) ∧ cdz = 0 ∧ pkz = ur_10.2.2.2.2.2.2.2.2 ∧ r = 1)
  ∨ ((¬ p0.toInt < 0) ∧ (¬ pk.toInt ≤ p0.toInt) ∧ (¬ p1.toInt = 0) ∧ (¬ pk.toInt = 24) ∧ (¬ p1.toInt = 0) ∧ ∃ ur_11 : (Nat → Int32) × (Nat → Int32) × (Nat → Int32) × (Nat → Int32) × (Nat → Int32) × (Nat → Int32) × (Nat → Int32) × (Nat → Int32), (D_X10_move1 A (0 : Int32) pk p0 pk (uA (uA (uA (uA (uA (uA (uA (uA A 41 (ur_11.1)) 42 (ur_11.2.1)) 43 (ur_11.2.2.1)) 44 (ur_11.2.2.2.1)) 45 (ur_11.2.2.2.2.1)) 46 (ur_11.2.2.2.2.2.1)) 47 (ur_11.2.2.2.2.2.2.1)) 48 (ur_11.2.2.2.2.2.2.2)) (0 : Int32) pk) ∧ (I7 (ur_11.1) (ur_11.2.1) (ur_11.2.2.2.1) (ur_11.2.2.2.2.1) (ur_11.2.2.2.2.2.1)) ∧ ∃ x_12 : Int32, (x_12 = pk + 1) ∧ (x_12.toInt = pk.toInt + 1) ∧ Z = (uA (uA (uA (uA (uA (uA (uA (uA A 41 (ur_11.1)) 42 (ur_11.2.1)) 43 (ur_11.2.2.1)) 44 (ur_11.2.2.2.1)) 45 (ur_11.2.2.2.2.1)) 46 (ur_11.2.2.2.2.2.1)) 47 (ur_11.2.2.2.2.2.2.1)) 48 (ur_11.2.2.2.2.2.2.2)) ∧ cdz = 0 ∧ pkz = x_12 ∧ r = 1)
  ∨ ((¬ p0.toInt < 0) ∧ (¬ pk.toInt ≤ p0.toInt) ∧ (¬ p1.toInt = 0) ∧ (pk.toInt = 24) ∧ Z = (uA (uA (uA (uA (uA (uA (uA (uA A 41 (A 41)) 42 (A 42)) 43 (A 43)) 44 (A 44)) 45 (A 45)) 46 (A 46)) 47 (A 47)) 48 (A 48)) ∧ cdz = 0 ∧ pkz = pk ∧ r = 0)
end
section
theorem and63 (x : Int32) : (x &&& 63).toInt = x.toInt % 64 := by
  rw [pk_and x 6 (by decide)]
  have h := Nat.mod_lt x.toBitVec.toNat (show 0 < 2 ^ 6 by decide)
  rw [nI_toInt (by omega)]
  have h1 : x.toInt = x.toBitVec.toInt := rfl
  rw [h1, BitVec.toInt_eq_toNat_cond]
  have h2 := x.toBitVec.isLt
  split <;> omega
theorem add_m64 (a b : Int32) : (a + b).toInt % 64 = (a.toInt + b.toInt) % 64 := by
  simp only [Int32.toInt_add, Int.bmod]
  generalize a.toInt + b.toInt = z
  omega
theorem sub_m64 (a b : Int32) : (a - b).toInt % 64 = (a.toInt - b.toInt) % 64 := by
  simp only [Int32.toInt_sub, Int.bmod]
  generalize a.toInt - b.toInt = z
  omega
theorem aft (a b : Int32) : ((a + b) &&& 63).toInt = (a.toInt + b.toInt) % 64 := by rw [and63, add_m64]
theorem dst (a b : Int32) : ((b - a) &&& 63).toInt = (b.toInt - a.toInt) % 64 := by rw [and63, sub_m64]
theorem i32_eq {a b : Int32} (h : a.toInt = b.toInt) : a = b := by rw [eq_I]; exact h
theorem i32_ne {a b : Int32} (h : ¬ a = b) : a.toInt ≠ b.toInt := fun e => h (i32_eq e)
theorem add_t {a b : Int32} (h1 : -2147483648 ≤ a.toInt + b.toInt) (h2 : a.toInt + b.toInt < 2147483648) : (a + b).toInt = a.toInt + b.toInt := s_add (by omega) (by omega)
end
section
theorem uA_u {A : AA} {j : Nat} {f g : Nat → Int32} : uA (uA A j f) j g = uA A j g := by
  funext k
  by_cases e : k = j
  · subst e; rw [uA_s, uA_s]
  · rw [uA_n e, uA_n e, uA_n e]
/-- where the class's objects lie -/
def SHX (x : Nat) (R : RR) : Prop :=
  (R x 0 = x + 55 ∧ R x 1 = x + 76 ∧ R x 2 = x + 1) ∧
  (∀ n, n < 2 → R (x + 55) n = x + 56 + 10 * n ∧ R (x + 56 + 10 * n) 0 = x + 57 + 10 * n ∧ R (x + 56 + 10 * n) 1 = x + 58 + 10 * n ∧ R (x + 56 + 10 * n) 2 = x + 59 + 10 * n ∧ ∀ j, j < 6 → R (x + 58 + 10 * n) j = x + 60 + 10 * n + j) ∧
  (∀ q, q < 4 → R (x + 76) q = x + 84 + 17 * q ∧ R (x + 84 + 17 * q) 0 = x + 77 + 17 * q ∧ R (x + 84 + 17 * q) 1 = x + 85 + 17 * q) ∧
  (∀ q, q < 4 → R (x + 77 + 17 * q) 1 = x + 56 + 10 * (q % 2) ∧ R (x + 77 + 17 * q) 2 = x + 1 ∧ R (x + 77 + 17 * q) 6 = x + 78 + 17 * q) ∧
  (∀ q, q < 4 → R (x + 78 + 17 * q) 1 = x + 56 + 10 * (q % 2) ∧ R (x + 78 + 17 * q) 2 = x + 79 + 17 * q ∧ ∀ i, i < 4 → R (x + 79 + 17 * q) i = x + 80 + 17 * q + i) ∧
  (∀ q, q < 4 → R (x + 85 + 17 * q) 1 = x + 56 + 10 * (q % 2) ∧ R (x + 85 + 17 * q) 2 = x + 1 ∧ R (x + 85 + 17 * q) 3 = x + 88 + 17 * q ∧ R (x + 85 + 17 * q) 7 = x + 86 + 17 * q ∧ R (x + 85 + 17 * q) 8 = x + 87 + 17 * q) ∧
  (∀ q, q < 4 → R (x + 88 + 17 * q) 1 = x + 56 + 10 * (q % 2) ∧ R (x + 88 + 17 * q) 2 = x + 89 + 17 * q ∧ ∀ i, i < 4 → R (x + 89 + 17 * q) i = x + 90 + 17 * q + i) ∧
  (R (x + 1) 0 = x + 2 ∧ R (x + 1) 3 = x + 5 ∧ ∀ p, p < 26 → R (x + 3 + 2 * p) 7 = x + 4 + 2 * p)
/-- the groups of these objects -/
def GRX (x : Nat) (G : Nat → Nat) : Prop :=
  (G x = 1 ∧ G (x + 1) = 4 ∧ G (x + 2) = 30 ∧ G (x + 55) = 2 ∧ G (x + 76) = 3) ∧
  (∀ p, p < 26 → G (x + 3 + 2 * p) = 31 ∧ G (x + 4 + 2 * p) = 32) ∧
  (∀ n, n < 2 → G (x + 56 + 10 * n) = 5 ∧ G (x + 57 + 10 * n) = 14 ∧ G (x + 58 + 10 * n) = 6 ∧ G (x + 59 + 10 * n) = 15 ∧ ∀ j, j < 6 → G (x + 60 + 10 * n + j) = 7) ∧
  (∀ q, q < 4 → G (x + 77 + 17 * q) = 9 ∧ G (x + 78 + 17 * q) = 11 ∧ G (x + 79 + 17 * q) = 12 ∧ G (x + 84 + 17 * q) = 8 ∧ G (x + 85 + 17 * q) = 10 ∧ G (x + 86 + 17 * q) = 16 ∧ G (x + 87 + 17 * q) = 17 ∧ G (x + 88 + 17 * q) = 11 ∧ G (x + 89 + 17 * q) = 12 ∧ ∀ i, i < 4 → G (x + 80 + 17 * q + i) = 13 ∧ G (x + 90 + 17 * q + i) = 13)
/-- the completions of a node -/
def NS (x n : Nat) (B : AA) (d e : Nat → Int32) : Prop := ∃ h : Nat, h < 16 ∧ (h : Int) = (B (x + 56 + 10 * n) 3).toInt ∧ B (x + 56 + 10 * n) 4 = d n ∧ ∀ i p : Nat, (i : Int) < (d n).toInt → p < 5 → B (x + 59 + 10 * n) (5 * ((h + i) % 16) + p) = e (80 * n + 5 * i + p)
theorem NS.cg {x n : Nat} {B Z : AA} {d e d' e' : Nat → Int32} (h : NS x n B d e) (h1 : Z (x + 56 + 10 * n) = B (x + 56 + 10 * n)) (h2 : Z (x + 59 + 10 * n) = B (x + 59 + 10 * n)) (h3 : d' n = d n) (h4 : ∀ k, 80 * n ≤ k → k < 80 * n + 80 → e' k = e k) (h5 : (d n).toInt ≤ 16) : NS x n Z d' e' := by
  obtain ⟨a, b1, b2, b3, b4⟩ := h
  refine ⟨a, b1, by rw [h1]; exact b2, by rw [h1, h3]; exact b3, fun i p hi hp => ?_⟩
  rw [h3] at hi
  rw [h2, h4 _ (by omega) (by omega)]
  exact b4 i p hi hp
/-- five in a row -/
def w5 (f : Nat → Int32) (n : Nat) (a b c d e : Int32) : Nat → Int32 := fun k => if k = n then a else if k = n + 1 then b else if k = n + 2 then c else if k = n + 3 then d else if k = n + 4 then e else f k
theorem w5_u {f : Nat → Int32} {n n1 n2 n3 n4 : Nat} {a b c d e : Int32} (h1 : n1 = n + 1) (h2 : n2 = n + 2) (h3 : n3 = n + 3) (h4 : n4 = n + 4) : upd (upd (upd (upd (upd f n a) n1 b) n2 c) n3 d) n4 e = w5 f n a b c d e := by
  subst h1 h2 h3 h4
  funext k
  unfold w5
  by_cases q4 : k = n + 4
  · subst q4; rw [upd_s, if_neg (by omega), if_neg (by omega), if_neg (by omega), if_neg (by omega), if_pos rfl]
  rw [upd_n q4]
  by_cases q3 : k = n + 3
  · subst q3; rw [upd_s, if_neg (by omega), if_neg (by omega), if_neg (by omega), if_pos rfl]
  rw [upd_n q3]
  by_cases q2 : k = n + 2
  · subst q2; rw [upd_s, if_neg (by omega), if_neg (by omega), if_pos rfl]
  rw [upd_n q2]
  by_cases q1 : k = n + 1
  · subst q1; rw [upd_s, if_neg (by omega), if_pos rfl]
  rw [upd_n q1]
  by_cases q0 : k = n
  · subst q0; rw [upd_s, if_pos rfl]
  rw [upd_n q0, if_neg q0, if_neg q1, if_neg q2, if_neg q3, if_neg q4]
theorem w5_o {f : Nat → Int32} {n k : Nat} {a b c d e : Int32} (h : k < n ∨ n + 5 ≤ k) : w5 f n a b c d e k = f k := by
  unfold w5
  rw [if_neg (by omega), if_neg (by omega), if_neg (by omega), if_neg (by omega), if_neg (by omega)]
theorem w5_i {f g : Nat → Int32} {n m p : Nat} {a b c d e : Int32} (h : p < 5) : w5 f n a b c d e (n + p) = w5 g m a b c d e (m + p) := by
  unfold w5
  rcases (show p = 0 ∨ p = 1 ∨ p = 2 ∨ p = 3 ∨ p = 4 by omega) with rfl | rfl | rfl | rfl | rfl <;> simp
/-- what a completion does in the class -/
theorem e_complete {G : Nat → Nat} {B : AA} {R : RR} {N p : Nat} {q st : Int32} {Z : AA} (h : C_X1_complete G B R N q p st Z) (hr : R N 2 ≠ N) : ((B N 4).toInt = 16 ∧ Z = B) ∨ ((B N 4).toInt ≠ 16 ∧ ∃ (n : Nat) (c : Int32), (n : Int) = 5 * (((B N 3).toInt + (B N 4).toInt) % 16) ∧ c.toInt = (B N 4).toInt + 1 ∧ c = B N 4 + 1 ∧ Z = uA (uA B (R N 2) (w5 (B (R N 2)) n q (B p 0) (B p 1) st (if (B p 0).toInt = 4 then B p 9 else B p 3))) N (upd (B N) 4 c)) := by
  rcases h with ⟨c1, x_5, ex_5, fx_5, x_6, ex_6, fx_6, x_7, ex_7, fx_7, n_11, hn_11, B_12, rfl, x_14, ex_14, fx_14, n_19, hn_19, B_20, rfl, x_22, ex_22, fx_22, n_27, hn_27, B_28, rfl, x_30, ex_30, fx_30, n_33, hn_33, B_34, rfl, x_36, ex_36, fx_36, c2, n_44, hn_44, B_45, rfl, x_48, ex_48, fx_48, B_50, rfl, rfl⟩ | ⟨c1, x_5, ex_5, fx_5, x_6, ex_6, fx_6, x_7, ex_7, fx_7, n_11, hn_11, B_12, rfl, x_14, ex_14, fx_14, n_19, hn_19, B_20, rfl, x_22, ex_22, fx_22, n_27, hn_27, B_28, rfl, x_30, ex_30, fx_30, n_33, hn_33, B_34, rfl, x_36, ex_36, fx_36, c2, n_54, hn_54, B_55, rfl, x_58, ex_58, fx_58, B_60, rfl, rfl⟩ | ⟨c1, rfl⟩
  · refine Or.inr ⟨c1, n_11, x_48, by omega, fx_48, ex_48, ?_⟩
    rw [if_neg c2]
    simp only [uA_s, uA_u, uA_n (Ne.symm hr)]
    rw [w5_u (by omega) (by omega) (by omega) (by omega)]
  · refine Or.inr ⟨c1, n_11, x_58, by omega, fx_58, ex_58, ?_⟩
    rw [if_pos c2]
    simp only [uA_s, uA_u, uA_n (Ne.symm hr)]
    rw [w5_u (by omega) (by omega) (by omega) (by omega)]
  · exact Or.inl ⟨c1, rfl⟩
/-- and in the reference -/
theorem r_complete {A : AA} {cd pk q kd se st le : Int32} {Z : AA} {cdz pkz : Int32} (h : D_X10_complete A cd pk q kd se st le Z cdz pkz) {n : Nat} (hn : (n : Int) = q.toInt % 2) : cdz = cd ∧ pkz = pk ∧ (((A 8 n).toInt = 16 ∧ Z = A) ∨ ((A 8 n).toInt ≠ 16 ∧ ∃ (m : Nat) (c : Int32), (m : Int) = 80 * (n : Int) + 5 * (A 8 n).toInt ∧ c.toInt = (A 8 n).toInt + 1 ∧ c = A 8 n + 1 ∧ Z = uA (uA A 8 (upd (A 8) n c)) 9 (w5 (A 9) m q kd se st le))) := by
  rcases h with ⟨x_1, ex_1, fx_1, n_4, hn_4, c1, x_9, ex_9, fx_9, x_11, ex_11, fx_11, x_12, ex_12, fx_12, n_15, hn_15, g_14, rfl, x_16, ex_16, fx_16, n_19, hn_19, g_18, rfl, x_20, ex_20, fx_20, n_23, hn_23, g_22, rfl, x_24, ex_24, fx_24, n_27, hn_27, g_26, rfl, x_28, ex_28, fx_28, n_31, hn_31, g_30, rfl, x_33, ex_33, fx_33, g_34, rfl, rfl, rfl, rfl⟩ | ⟨x_1, ex_1, fx_1, n_4, hn_4, c1, rfl, rfl, rfl⟩
  · obtain rfl : n_4 = n := by omega
    refine ⟨rfl, rfl, Or.inr ⟨c1, n_15, x_33, by omega, fx_33, ex_33, ?_⟩⟩
    rw [w5_u (by omega) (by omega) (by omega) (by omega)]
  · obtain rfl : n_4 = n := by omega
    exact ⟨rfl, rfl, Or.inl ⟨c1, uu_id⟩⟩
/-- all that a completion at a node changes, on both sides -/
def CMP (x n : Nat) (B Z A A' : AA) : Prop := (∀ m, m < 2 → NS x m Z (A' 8) (A' 9)) ∧ I3 (A' 8) ∧ (∀ a, a ≠ x + 56 + 10 * n → a ≠ x + 59 + 10 * n → Z a = B a) ∧ (∀ j, j ≠ 8 → j ≠ 9 → A' j = A j)
theorem CMP.rf {x n : Nat} {B A : AA} (h : ∀ m, m < 2 → NS x m B (A 8) (A 9)) (hI : I3 (A 8)) : CMP x n B B A A := ⟨h, hI, fun _ _ _ => rfl, fun _ _ _ => rfl⟩
theorem CMP.tr {x n : Nat} {B Z Y A A' A2 : AA} (h : CMP x n B Z A A') (g : CMP x n Z Y A' A2) : CMP x n B Y A A2 := ⟨g.1, g.2.1, fun a h1 h2 => (g.2.2.1 a h1 h2).trans (h.2.2.1 a h1 h2), fun j h1 h2 => (g.2.2.2 j h1 h2).trans (h.2.2.2 j h1 h2)⟩
theorem s_complete {x n : Nat} {G : Nat → Nat} {B : AA} {R : RR} {A : AA} (hS : SHX x R) (hn : n < 2) (hns : ∀ m, m < 2 → NS x m B (A 8) (A 9)) (hI : I3 (A 8)) {q kd se st le cd pk cdz pkz : Int32} {p : Nat} {Z A' : AA} (hq : (n : Int) = q.toInt % 2) (hc : C_X1_complete G B R (x + 56 + 10 * n) q p st Z) (hd : D_X10_complete A cd pk q kd se st le A' cdz pkz) (e0 : B p 0 = kd) (e1 : B p 1 = se) (e2 : (if kd.toInt = 4 then B p 9 else B p 3) = le) : cdz = cd ∧ pkz = pk ∧ CMP x n B Z A A' := by
  have hr : R (x + 56 + 10 * n) 2 = x + 59 + 10 * n := (hS.2.1 n hn).2.2.2.1
  obtain ⟨rfl, rfl, hd2⟩ := r_complete hd hq
  clear hd
  refine ⟨rfl, rfl, ?_⟩
  obtain ⟨h, hh, h1, h2, h3⟩ := hns n hn
  have hI1 := hI n hn
  rcases e_complete hc (by rw [hr]; omega) with ⟨c1, rfl⟩ | ⟨c1, k, c, hk, hc1, hc2, rfl⟩
  · rcases hd2 with ⟨d1, rfl⟩ | ⟨d1, -⟩
    · exact CMP.rf hns hI
    · rw [h2] at c1; exact absurd c1 d1
  · rcases hd2 with ⟨d1, -⟩ | ⟨d1, m, d, hm, hd1, hd2, rfl⟩
    · rw [h2] at c1; exact absurd d1 c1
    · rw [e0, e1, e2, hr]
      rw [h2] at hk hc1 hc2
      have ecd : c = d := by rw [hc2, hd2]
      subst ecd
      refine ⟨fun m2 hm2 => ?_, fun m2 hm2 => ?_, fun a h4 h5 => by rw [uA_n h4, uA_n h5], fun j h4 h5 => by rw [uA_n h5, uA_n h4]⟩
      · by_cases e : m2 = n
        · subst e
          refine ⟨h, hh, by rw [uA_s, upd_n (by decide)]; exact h1, by rw [uA_s, upd_s]; exact upd_s.symm, fun i p2 hi hp2 => ?_⟩
          show uA (uA B _ _) _ _ (x + 59 + 10 * m2) _ = w5 (A 9) m _ _ _ _ _ _
          have hi : (i : Int) < (upd (A 8) m2 c m2).toInt := hi
          rw [upd_s] at hi
          rw [uA_n (by omega), uA_s]
          by_cases e : (i : Int) = (A 8 m2).toInt
          · rw [show 5 * ((h + i) % 16) + p2 = k + p2 by omega, show 80 * m2 + 5 * i + p2 = m + p2 by omega]
            exact w5_i hp2
          · rw [w5_o (by omega), w5_o (by omega)]
            exact h3 i p2 (by omega) hp2
        · refine (hns m2 hm2).cg (by rw [uA_n (by omega), uA_n (by omega)]) (by rw [uA_n (by omega), uA_n (by omega)]) (upd_n e) (fun k2 h4 h5 => w5_o (by omega)) (hI m2 hm2).2
      · show 0 ≤ (upd (A 8) n c m2).toInt ∧ (upd (A 8) n c m2).toInt ≤ 16
        by_cases e : m2 = n
        · subst e; rw [upd_s]; omega
        · rw [upd_n e]; exact hI m2 hm2
end
section
/-- a request's row, a receive's row -/
def RWQ (b : Nat → Int32) (A : AA) (k : Nat) : Prop := b 0 = A 22 k ∧ b 1 = A 28 k ∧ b 2 = A 23 k ∧ b 3 = A 24 k ∧ b 4 = A 29 k ∧ (b 5).toInt = NB (A 24) k ∧ b 6 = A 25 k ∧ b 7 = A 26 k ∧ b 8 = A 27 k ∧ ((A 22 k).toInt ≠ 3 → A 27 k = 0) ∧ (0 ≤ (A 22 k).toInt ∧ (A 22 k).toInt ≤ 3)
def RQ (x q : Nat) (B A : AA) : Prop := ∃ h : Nat, h < 4 ∧ (h : Int) = (B (x + 78 + 17 * q) 3).toInt ∧ B (x + 78 + 17 * q) 4 = A 20 q ∧ B (x + 78 + 17 * q) 5 = A 21 q ∧ ∀ i : Nat, (i : Int) < (A 20 q).toInt → RWQ (B (x + 80 + 17 * q + (h + i) % 4)) A (4 * q + i)
def RWV (b : Nat → Int32) (A : AA) (k : Nat) : Prop := b 0 = 4 ∧ b 1 = A 34 k ∧ b 2 = A 32 k ∧ b 3 = A 33 k ∧ b 9 = A 35 k
def RV (x q : Nat) (B A : AA) : Prop := ∃ h : Nat, h < 4 ∧ (h : Int) = (B (x + 88 + 17 * q) 3).toInt ∧ B (x + 88 + 17 * q) 4 = A 30 q ∧ B (x + 88 + 17 * q) 5 = A 31 q ∧ ∀ i : Nat, (i : Int) < (A 30 q).toInt → RWV (B (x + 90 + 17 * q + (h + i) % 4)) A (4 * q + i)
theorem RWQ.cg {b b' : Nat → Int32} {A A' : AA} {k k' : Nat} (h : RWQ b A k) (e : b' = b) (hj : ∀ j, 22 ≤ j → j ≤ 29 → A' j k' = A j k) : RWQ b' A' k' := by
  subst e
  obtain ⟨h0, h1, h2, h3, h4, h5, h6, h7, h8, h9, h10⟩ := h
  have hz : NB (A' 24) k' = NB (A 24) k := by unfold NB; rw [hj 24 (by decide) (by decide)]
  have a := hj 22 (by decide) (by decide)
  have b := hj 27 (by decide) (by decide)
  exact ⟨by rw [a]; exact h0, by rw [hj 28 (by decide) (by decide)]; exact h1, by rw [hj 23 (by decide) (by decide)]; exact h2, by rw [hj 24 (by decide) (by decide)]; exact h3, by rw [hj 29 (by decide) (by decide)]; exact h4, by rw [hz]; exact h5, by rw [hj 25 (by decide) (by decide)]; exact h6, by rw [hj 26 (by decide) (by decide)]; exact h7, by rw [b]; exact h8, by rw [a, b]; exact h9, by rw [a]; exact h10⟩
theorem RWV.cg {b b' : Nat → Int32} {A A' : AA} {k k' : Nat} (h : RWV b A k) (e : b' = b) (hj : ∀ j, 32 ≤ j → j ≤ 35 → A' j k' = A j k) : RWV b' A' k' := by
  subst e
  obtain ⟨h0, h1, h2, h3, h4⟩ := h
  exact ⟨h0, by rw [hj 34 (by decide) (by decide)]; exact h1, by rw [hj 32 (by decide) (by decide)]; exact h2, by rw [hj 33 (by decide) (by decide)]; exact h3, by rw [hj 35 (by decide) (by decide)]; exact h4⟩
theorem RQ.cg {x q : Nat} {B Z A A' : AA} (h : RQ x q B A) (hK : Z (x + 78 + 17 * q) = B (x + 78 + 17 * q)) (hr : ∀ i, i < 4 → Z (x + 80 + 17 * q + i) = B (x + 80 + 17 * q + i)) (h20 : A' 20 q = A 20 q) (h21 : A' 21 q = A 21 q) (hj : ∀ j, 22 ≤ j → j ≤ 29 → ∀ i, i < 4 → A' j (4 * q + i) = A j (4 * q + i)) (h4 : (A 20 q).toInt ≤ 4) : RQ x q Z A' := by
  obtain ⟨a, b1, b2, b3, b4, b5⟩ := h
  refine ⟨a, b1, by rw [hK]; exact b2, by rw [hK, h20]; exact b3, by rw [hK, h21]; exact b4, fun i hi => ?_⟩
  rw [h20] at hi
  exact (b5 i hi).cg (hr _ (by omega)) (fun j h1 h2 => hj j h1 h2 i (by omega))
theorem RV.cg {x q : Nat} {B Z A A' : AA} (h : RV x q B A) (hK : Z (x + 88 + 17 * q) = B (x + 88 + 17 * q)) (hr : ∀ i, i < 4 → Z (x + 90 + 17 * q + i) = B (x + 90 + 17 * q + i)) (h20 : A' 30 q = A 30 q) (h21 : A' 31 q = A 31 q) (hj : ∀ j, 32 ≤ j → j ≤ 35 → ∀ i, i < 4 → A' j (4 * q + i) = A j (4 * q + i)) (h4 : (A 30 q).toInt ≤ 4) : RV x q Z A' := by
  obtain ⟨a, b1, b2, b3, b4, b5⟩ := h
  refine ⟨a, b1, by rw [hK]; exact b2, by rw [hK, h20]; exact b3, by rw [hK, h21]; exact b4, fun i hi => ?_⟩
  rw [h20] at hi
  exact (b5 i hi).cg (hr _ (by omega)) (fun j h1 h2 => hj j h1 h2 i (by omega))
/-- where a queue's row lies -/
theorem e_atQ {x q : Nat} {G : Nat → Nat} {B : AA} {R : RR} (hS : SHX x R) (hq : q < 4) {i : Int32} {r h k : Nat} (hc : C_X5_at G B R (x + 78 + 17 * q) i r) (hh : (h : Int) = (B (x + 78 + 17 * q) 3).toInt) (hk : (k : Int) = i.toInt) : r = x + 80 + 17 * q + (h + k) % 4 := by
  rcases hc with ⟨x_4, ex_4, fx_4, x_5, ex_5, fx_5, n_8, hn_8, rfl⟩
  have h1 := (hS.2.2.2.2.1 q hq)
  rw [h1.2.1, h1.2.2 n_8 (by omega)]
  omega
theorem e_atV {x q : Nat} {G : Nat → Nat} {B : AA} {R : RR} (hS : SHX x R) (hq : q < 4) {i : Int32} {r h k : Nat} (hc : C_X5_at G B R (x + 88 + 17 * q) i r) (hh : (h : Int) = (B (x + 88 + 17 * q) 3).toInt) (hk : (k : Int) = i.toInt) : r = x + 90 + 17 * q + (h + k) % 4 := by
  rcases hc with ⟨x_4, ex_4, fx_4, x_5, ex_5, fx_5, n_8, hn_8, rfl⟩
  have h1 := (hS.2.2.2.2.2.2.1 q hq)
  rw [h1.2.1, h1.2.2 n_8 (by omega)]
  omega
theorem e_first {G : Nat → Nat} {B : AA} {R : RR} {K : Nat} {st : Int32} {Z : AA} (h : C_X5_completeFirst G B R K st Z) : ∃ (r : Nat) (U : AA) (h' c' : Int32), C_X5_at G B R K 0 r ∧ C_X1_complete G B R (R K 1) (B K 0) r st U ∧ h'.toInt = ((B K 3).toInt + 1) % 4 ∧ c'.toInt = (B K 4).toInt - 1 ∧ c' = B K 4 - 1 ∧ Z = uA U K (upd (upd (U K) 3 h') 4 c') := by
  rcases h with ⟨r_3, hat, U_6, hF, hcomplete, x_10, ex_10, fx_10, x_11, ex_11, fx_11, B_13, rfl, x_17, ex_17, fx_17, B_19, rfl, rfl⟩
  refine ⟨r_3, U_6, x_11, x_17, hat, hcomplete, by omega, fx_17, ex_17, ?_⟩
  simp only [uA_s, uA_u]
theorem nd2 {q : Nat} {p : Int32} (hp : (q : Int) = p.toInt) : ((q % 2 : Nat) : Int) = p.toInt % 2 := by omega
/-- the first request is completed: what is left of the class's queue is the reference's from the next row on -/
theorem s_firstQ {x q : Nat} {G : Nat → Nat} {B : AA} {R : RR} {A : AA} (hS : SHX x R) (hq : q < 4) (hns : ∀ m, m < 2 → NS x m B (A 8) (A 9)) (hI : I3 (A 8)) {k : Nat} {p st cd pk cdz pkz : Int32} {Z A' : AA} (hp : (q : Int) = p.toInt) (hb0 : B (x + 78 + 17 * q) 0 = p) (hrow : ∀ h : Nat, (h : Int) = (B (x + 78 + 17 * q) 3).toInt → RWQ (B (x + 80 + 17 * q + h % 4)) A k) (h3 : 0 ≤ (B (x + 78 + 17 * q) 3).toInt ∧ (B (x + 78 + 17 * q) 3).toInt ≤ 3) (hc : C_X5_completeFirst G B R (x + 78 + 17 * q) st Z) (hd : D_X10_complete A cd pk p (A 22 k) (A 28 k) st (A 24 k) A' cdz pkz) : cdz = cd ∧ pkz = pk ∧ ∃ U : AA, CMP x (q % 2) B U A A' ∧ ∃ h' c' : Int32, h'.toInt = ((B (x + 78 + 17 * q) 3).toInt + 1) % 4 ∧ c'.toInt = (B (x + 78 + 17 * q) 4).toInt - 1 ∧ c' = B (x + 78 + 17 * q) 4 - 1 ∧ Z = uA U (x + 78 + 17 * q) (upd (upd (B (x + 78 + 17 * q)) 3 h') 4 c') := by
  obtain ⟨r, U, h', c', hat, hco, e1, e2, e3, rfl⟩ := e_first hc
  obtain ⟨h, hh⟩ : ∃ h : Nat, (h : Int) = (B (x + 78 + 17 * q) 3).toInt := ⟨_, Int.toNat_of_nonneg h3.1⟩
  have er := e_atQ hS hq hat hh (k := 0) (by decide)
  have hw := hrow h hh
  have h4 : r = x + 80 + 17 * q + h % 4 := by rw [er]; rfl
  rw [← h4] at hw
  rw [hb0, (hS.2.2.2.2.1 q hq).1] at hco
  obtain ⟨a, b, c⟩ := s_complete hS (by omega) hns hI (nd2 hp) hco hd hw.1 hw.2.1 (by rw [if_neg (by have := hw.2.2.2.2.2.2.2.2.2.2; omega)]; exact hw.2.2.2.1)
  refine ⟨a, b, U, c, h', c', e1, e2, e3, ?_⟩
  rw [c.2.2.1 (x + 78 + 17 * q) (by omega) (by omega)]
theorem s_firstV {x q : Nat} {G : Nat → Nat} {B : AA} {R : RR} {A : AA} (hS : SHX x R) (hq : q < 4) (hns : ∀ m, m < 2 → NS x m B (A 8) (A 9)) (hI : I3 (A 8)) {k : Nat} {p st cd pk cdz pkz : Int32} {Z A' : AA} (hp : (q : Int) = p.toInt) (hb0 : B (x + 88 + 17 * q) 0 = p) (hrow : ∀ h : Nat, (h : Int) = (B (x + 88 + 17 * q) 3).toInt → RWV (B (x + 90 + 17 * q + h % 4)) A k) (h3 : 0 ≤ (B (x + 88 + 17 * q) 3).toInt ∧ (B (x + 88 + 17 * q) 3).toInt ≤ 3) (hc : C_X5_completeFirst G B R (x + 88 + 17 * q) st Z) (hd : D_X10_complete A cd pk p 4 (A 34 k) st (A 35 k) A' cdz pkz) : cdz = cd ∧ pkz = pk ∧ ∃ U : AA, CMP x (q % 2) B U A A' ∧ ∃ h' c' : Int32, h'.toInt = ((B (x + 88 + 17 * q) 3).toInt + 1) % 4 ∧ c'.toInt = (B (x + 88 + 17 * q) 4).toInt - 1 ∧ c' = B (x + 88 + 17 * q) 4 - 1 ∧ Z = uA U (x + 88 + 17 * q) (upd (upd (B (x + 88 + 17 * q)) 3 h') 4 c') := by
  obtain ⟨r, U, h', c', hat, hco, e1, e2, e3, rfl⟩ := e_first hc
  obtain ⟨h, hh⟩ : ∃ h : Nat, (h : Int) = (B (x + 88 + 17 * q) 3).toInt := ⟨_, Int.toNat_of_nonneg h3.1⟩
  have er := e_atV hS hq hat hh (k := 0) (by decide)
  have hw := hrow h hh
  have h4 : r = x + 90 + 17 * q + h % 4 := by rw [er]; rfl
  rw [← h4] at hw
  rw [hb0, (hS.2.2.2.2.2.2.1 q hq).1] at hco
  obtain ⟨a, b, c⟩ := s_complete hS (by omega) hns hI (nd2 hp) hco hd hw.1 hw.2.1 (by rw [if_pos (by decide)]; exact hw.2.2.2.2)
  refine ⟨a, b, U, c, h', c', e1, e2, e3, ?_⟩
  rw [c.2.2.1 (x + 88 + 17 * q) (by omega) (by omega)]
end
section
/-- i of a queue's rows are completed -/
def STK (x n K h i : Nat) (B A Z A' : AA) : Prop := (∀ m, m < 2 → NS x m Z (A' 8) (A' 9)) ∧ I3 (A' 8) ∧ (∀ a, a ≠ x + 56 + 10 * n → a ≠ x + 59 + 10 * n → a ≠ K → Z a = B a) ∧ (∀ j, j ≠ 8 → j ≠ 9 → A' j = A j) ∧ (Z K 3).toInt = ((h + i) % 4 : Nat) ∧ (Z K 4).toInt = (B K 4).toInt - i ∧ ∀ j, j ≠ 3 → j ≠ 4 → Z K j = B K j
theorem STK.rf {x n K h : Nat} {B A : AA} (hns : ∀ m, m < 2 → NS x m B (A 8) (A 9)) (hI : I3 (A 8)) (hh : (h : Int) = (B K 3).toInt) (h4 : h < 4) : STK x n K h 0 B A B A := ⟨hns, hI, fun _ _ _ _ => rfl, fun _ _ _ => rfl, by omega, by omega, fun _ _ _ => rfl⟩
theorem stepQ {x q h i : Nat} {G : Nat → Nat} {B : AA} {R : RR} {A Y Ay : AA} (hS : SHX x R) (hq : q < 4) {p st cd pk cdz pkz : Int32} {Z A' : AA} (hp : (q : Int) = p.toInt) (hb0 : B (x + 78 + 17 * q) 0 = p) (hT : STK x (q % 2) (x + 78 + 17 * q) h i B A Y Ay) (hw : RWQ (B (x + 80 + 17 * q + (h + i) % 4)) A (4 * q + i)) (hc : C_X5_completeFirst G Y R (x + 78 + 17 * q) st Z) (hd : D_X10_complete Ay cd pk p (A 22 (4 * q + i)) (A 28 (4 * q + i)) st (A 24 (4 * q + i)) A' cdz pkz) : cdz = cd ∧ pkz = pk ∧ STK x (q % 2) (x + 78 + 17 * q) h (i + 1) B A Z A' := by
  obtain ⟨t1, t2, t3, t4, t5, t6, t7⟩ := hT
  rw [← t4 22 (by decide) (by decide), ← t4 28 (by decide) (by decide), ← t4 24 (by decide) (by decide)] at hd
  obtain ⟨a, b, U, hU, h', c', e1, e2, e3, rfl⟩ := s_firstQ hS hq t1 t2 hp ((t7 0 (by decide) (by decide)).trans hb0) (fun h2 hh2 => by
    obtain rfl : h2 = (h + i) % 4 := by omega
    rw [show (h + i) % 4 % 4 = (h + i) % 4 by omega]
    exact hw.cg (t3 _ (by omega) (by omega) (by omega)) (fun j h1 h2 => by rw [t4 j (by omega) (by omega)])) (by omega) hc hd
  refine ⟨a, b, fun m hm => ?_, hU.2.1, fun a h1 h2 h3 => ?_, fun j h1 h2 => (hU.2.2.2 j h1 h2).trans (t4 j h1 h2), ?_, ?_, fun j h1 h2 => ?_⟩
  · exact (hU.1 m hm).cg (uA_n (by omega)) (uA_n (by omega)) rfl (fun _ _ _ => rfl) (hU.2.1 m hm).2
  · rw [uA_n h3, hU.2.2.1 a h1 h2, t3 a h1 h2 h3]
  · rw [uA_s, upd_n (by decide), upd_s]; omega
  · rw [uA_s, upd_s]; omega
  · rw [uA_s, upd_n h2, upd_n h1, t7 j h1 h2]
theorem stepV {x q h i : Nat} {G : Nat → Nat} {B : AA} {R : RR} {A Y Ay : AA} (hS : SHX x R) (hq : q < 4) {p st cd pk cdz pkz : Int32} {Z A' : AA} (hp : (q : Int) = p.toInt) (hb0 : B (x + 88 + 17 * q) 0 = p) (hT : STK x (q % 2) (x + 88 + 17 * q) h i B A Y Ay) (hw : RWV (B (x + 90 + 17 * q + (h + i) % 4)) A (4 * q + i)) (hc : C_X5_completeFirst G Y R (x + 88 + 17 * q) st Z) (hd : D_X10_complete Ay cd pk p 4 (A 34 (4 * q + i)) st (A 35 (4 * q + i)) A' cdz pkz) : cdz = cd ∧ pkz = pk ∧ STK x (q % 2) (x + 88 + 17 * q) h (i + 1) B A Z A' := by
  obtain ⟨t1, t2, t3, t4, t5, t6, t7⟩ := hT
  rw [← t4 34 (by decide) (by decide), ← t4 35 (by decide) (by decide)] at hd
  obtain ⟨a, b, U, hU, h', c', e1, e2, e3, rfl⟩ := s_firstV hS hq t1 t2 hp ((t7 0 (by decide) (by decide)).trans hb0) (fun h2 hh2 => by
    obtain rfl : h2 = (h + i) % 4 := by omega
    rw [show (h + i) % 4 % 4 = (h + i) % 4 by omega]
    exact hw.cg (t3 _ (by omega) (by omega) (by omega)) (fun j h1 h2 => by rw [t4 j (by omega) (by omega)])) (by omega) hc hd
  refine ⟨a, b, fun m hm => ?_, hU.2.1, fun a h1 h2 h3 => ?_, fun j h1 h2 => (hU.2.2.2 j h1 h2).trans (t4 j h1 h2), ?_, ?_, fun j h1 h2 => ?_⟩
  · exact (hU.1 m hm).cg (uA_n (by omega)) (uA_n (by omega)) rfl (fun _ _ _ => rfl) (hU.2.1 m hm).2
  · rw [uA_n h3, hU.2.2.1 a h1 h2, t3 a h1 h2 h3]
  · rw [uA_s, upd_n (by decide), upd_s]; omega
  · rw [uA_s, upd_s]; omega
  · rw [uA_s, upd_n h2, upd_n h1, t7 j h1 h2]
theorem FPQ_s {A : AA} {cd pk q st : Int32} {n i : Nat} {Z : AA} (h : FPQ A cd pk q st n (i + 1) Z) : ∃ Y : AA, FPQ A cd pk q st n i Y ∧ ∃ v : Int32, (v = if i = 0 ∧ 0 < st.toInt then st else 5) ∧ D_X10_complete Y cd pk q (A 22 (4 * n + i)) (A 28 (4 * n + i)) v (A 24 (4 * n + i)) Z cd pk := h
theorem FPV_s {A : AA} {cd pk q st : Int32} {n i : Nat} {Z : AA} (h : FPV A cd pk q st n (i + 1) Z) : ∃ Y : AA, FPV A cd pk q st n i Y ∧ ∃ v : Int32, (v = if i = 0 ∧ (A 36 n).toInt ≠ 0 ∧ 0 < st.toInt then st else 5) ∧ D_X10_complete Y cd pk q 4 (A 34 (4 * n + i)) v (A 35 (4 * n + i)) Z cd pk := h
theorem e_first4 {G : Nat → Nat} {B : AA} {R : RR} {K : Nat} {st : Int32} {Z : AA} (h : C_X5_completeFirst G B R K st Z) : (Z K 4).toInt = (B K 4).toInt - 1 := by
  obtain ⟨r, U, h', c', -, -, -, e2, -, rfl⟩ := e_first h
  rw [uA_s, upd_s]; exact e2
/-- all requests are completed -/
theorem s_allQ {x q b : Nat} {G : Nat → Nat} {B : AA} {R : RR} {A : AA} (hS : SHX x R) (hq : q < 4) (hns : ∀ m, m < 2 → NS x m B (A 8) (A 9)) (hI : I3 (A 8)) {p sc st cd pk : Int32} {Z A' : AA} (hp : (q : Int) = p.toInt) (hb0 : B (x + 78 + 17 * q) 0 = p) (hR : RQ x q B A) (h4 : 0 ≤ (A 20 q).toInt ∧ (A 20 q).toInt ≤ 4) (hsc : sc = if 0 < st.toInt then st else 5) (hc : C_X5_completeAll G B R (x + 78 + 17 * q) sc Z) (hd : FPQ A cd pk p st q b A') (hb : (b : Int) = (A 20 q).toInt) : ∃ h, STK x (q % 2) (x + 78 + 17 * q) h b B A Z A' := by
  obtain ⟨h, g1, g2, g3, g4, g5⟩ := hR
  have T0 := STK.rf (n := q % 2) (K := x + 78 + 17 * q) hns hI g2 g1
  refine ⟨h, ?_⟩
  have g3 := congrArg Int32.toInt g3
  have v0 : ∀ {v : Int32}, (v = if (0 : Nat) = 0 ∧ 0 < st.toInt then st else 5) → v = sc := fun e => by rw [e, hsc]; simp
  have v1 : ∀ {v : Int32} {i : Nat}, (v = if i + 1 = 0 ∧ 0 < st.toInt then st else 5) → v = 5 := fun e => by rw [e, if_neg (by omega)]
  rcases hc with ⟨c1, rfl⟩ | ⟨c1, U_6, hF, hcompleteFirst, c2, rfl⟩ | ⟨c1, U_6, hF, hcompleteFirst, c2, U_12, hF_1, hcompleteFirst_1, c3, rfl⟩ | ⟨c1, U_6, hF, hcompleteFirst, c2, U_12, hF_1, hcompleteFirst_1, c3, U_18, hF_2, hcompleteFirst_2, c4, rfl⟩ | ⟨c1, U_6, hF, hcompleteFirst, c2, U_12, hF_1, hcompleteFirst_1, c3, U_18, hF_2, hcompleteFirst_2, c4, U_24, hF_3, hcompleteFirst_3, rfl⟩
  · obtain rfl : b = 0 := by omega
    have e : A' = A := hd
    subst e
    exact T0
  · have a0 := e_first4 hcompleteFirst
    obtain rfl : b = 1 := by omega
    obtain ⟨Y0, f0, w0, u0, d0⟩ := FPQ_s (i := 0) hd
    have e0 : Y0 = A := f0
    subst e0
    rw [v0 u0] at d0
    have T1 := (stepQ hS hq hp hb0 T0 (g5 0 (by omega)) hcompleteFirst d0).2.2
    exact T1
  · have a0 := e_first4 hcompleteFirst
    have a1 := e_first4 hcompleteFirst_1
    obtain rfl : b = 2 := by omega
    obtain ⟨Y1, f1, w1, u1, d1⟩ := FPQ_s (i := 1) hd
    obtain ⟨Y0, f0, w0, u0, d0⟩ := FPQ_s (i := 0) f1
    have e0 : Y0 = A := f0
    subst e0
    rw [v0 u0] at d0
    rw [v1 u1] at d1
    have T1 := (stepQ hS hq hp hb0 T0 (g5 0 (by omega)) hcompleteFirst d0).2.2
    have T2 := (stepQ hS hq hp hb0 T1 (g5 1 (by omega)) hcompleteFirst_1 d1).2.2
    exact T2
  · have a0 := e_first4 hcompleteFirst
    have a1 := e_first4 hcompleteFirst_1
    have a2 := e_first4 hcompleteFirst_2
    obtain rfl : b = 3 := by omega
    obtain ⟨Y2, f2, w2, u2, d2⟩ := FPQ_s (i := 2) hd
    obtain ⟨Y1, f1, w1, u1, d1⟩ := FPQ_s (i := 1) f2
    obtain ⟨Y0, f0, w0, u0, d0⟩ := FPQ_s (i := 0) f1
    have e0 : Y0 = A := f0
    subst e0
    rw [v0 u0] at d0
    rw [v1 u1] at d1
    rw [v1 u2] at d2
    have T1 := (stepQ hS hq hp hb0 T0 (g5 0 (by omega)) hcompleteFirst d0).2.2
    have T2 := (stepQ hS hq hp hb0 T1 (g5 1 (by omega)) hcompleteFirst_1 d1).2.2
    have T3 := (stepQ hS hq hp hb0 T2 (g5 2 (by omega)) hcompleteFirst_2 d2).2.2
    exact T3
  · have a0 := e_first4 hcompleteFirst
    have a1 := e_first4 hcompleteFirst_1
    have a2 := e_first4 hcompleteFirst_2
    have a3 := e_first4 hcompleteFirst_3
    obtain rfl : b = 4 := by omega
    obtain ⟨Y3, f3, w3, u3, d3⟩ := FPQ_s (i := 3) hd
    obtain ⟨Y2, f2, w2, u2, d2⟩ := FPQ_s (i := 2) f3
    obtain ⟨Y1, f1, w1, u1, d1⟩ := FPQ_s (i := 1) f2
    obtain ⟨Y0, f0, w0, u0, d0⟩ := FPQ_s (i := 0) f1
    have e0 : Y0 = A := f0
    subst e0
    rw [v0 u0] at d0
    rw [v1 u1] at d1
    rw [v1 u2] at d2
    rw [v1 u3] at d3
    have T1 := (stepQ hS hq hp hb0 T0 (g5 0 (by omega)) hcompleteFirst d0).2.2
    have T2 := (stepQ hS hq hp hb0 T1 (g5 1 (by omega)) hcompleteFirst_1 d1).2.2
    have T3 := (stepQ hS hq hp hb0 T2 (g5 2 (by omega)) hcompleteFirst_2 d2).2.2
    have T4 := (stepQ hS hq hp hb0 T3 (g5 3 (by omega)) hcompleteFirst_3 d3).2.2
    exact T4
/-- all receives are completed -/
theorem s_allV {x q b : Nat} {G : Nat → Nat} {B : AA} {R : RR} {A : AA} (hS : SHX x R) (hq : q < 4) (hns : ∀ m, m < 2 → NS x m B (A 8) (A 9)) (hI : I3 (A 8)) {p sc st cd pk : Int32} {Z A' : AA} (hp : (q : Int) = p.toInt) (hb0 : B (x + 88 + 17 * q) 0 = p) (hR : RV x q B A) (h4 : 0 ≤ (A 30 q).toInt ∧ (A 30 q).toInt ≤ 4) (hsc : sc = if (A 36 q).toInt ≠ 0 ∧ 0 < st.toInt then st else 5) (hc : C_X5_completeAll G B R (x + 88 + 17 * q) sc Z) (hd : FPV A cd pk p st q b A') (hb : (b : Int) = (A 30 q).toInt) : ∃ h, STK x (q % 2) (x + 88 + 17 * q) h b B A Z A' := by
  obtain ⟨h, g1, g2, g3, g4, g5⟩ := hR
  have T0 := STK.rf (n := q % 2) (K := x + 88 + 17 * q) hns hI g2 g1
  refine ⟨h, ?_⟩
  have g3 := congrArg Int32.toInt g3
  have v0 : ∀ {v : Int32}, (v = if (0 : Nat) = 0 ∧ (A 36 q).toInt ≠ 0 ∧ 0 < st.toInt then st else 5) → v = sc := fun e => by rw [e, hsc]; simp
  have v1 : ∀ {v : Int32} {i : Nat}, (v = if i + 1 = 0 ∧ (A 36 q).toInt ≠ 0 ∧ 0 < st.toInt then st else 5) → v = 5 := fun e => by rw [e, if_neg (by omega)]
  rcases hc with ⟨c1, rfl⟩ | ⟨c1, U_6, hF, hcompleteFirst, c2, rfl⟩ | ⟨c1, U_6, hF, hcompleteFirst, c2, U_12, hF_1, hcompleteFirst_1, c3, rfl⟩ | ⟨c1, U_6, hF, hcompleteFirst, c2, U_12, hF_1, hcompleteFirst_1, c3, U_18, hF_2, hcompleteFirst_2, c4, rfl⟩ | ⟨c1, U_6, hF, hcompleteFirst, c2, U_12, hF_1, hcompleteFirst_1, c3, U_18, hF_2, hcompleteFirst_2, c4, U_24, hF_3, hcompleteFirst_3, rfl⟩
  · obtain rfl : b = 0 := by omega
    have e : A' = A := hd
    subst e
    exact T0
  · have a0 := e_first4 hcompleteFirst
    obtain rfl : b = 1 := by omega
    obtain ⟨Y0, f0, w0, u0, d0⟩ := FPV_s (i := 0) hd
    have e0 : Y0 = A := f0
    subst e0
    rw [v0 u0] at d0
    have T1 := (stepV hS hq hp hb0 T0 (g5 0 (by omega)) hcompleteFirst d0).2.2
    exact T1
  · have a0 := e_first4 hcompleteFirst
    have a1 := e_first4 hcompleteFirst_1
    obtain rfl : b = 2 := by omega
    obtain ⟨Y1, f1, w1, u1, d1⟩ := FPV_s (i := 1) hd
    obtain ⟨Y0, f0, w0, u0, d0⟩ := FPV_s (i := 0) f1
    have e0 : Y0 = A := f0
    subst e0
    rw [v0 u0] at d0
    rw [v1 u1] at d1
    have T1 := (stepV hS hq hp hb0 T0 (g5 0 (by omega)) hcompleteFirst d0).2.2
    have T2 := (stepV hS hq hp hb0 T1 (g5 1 (by omega)) hcompleteFirst_1 d1).2.2
    exact T2
  · have a0 := e_first4 hcompleteFirst
    have a1 := e_first4 hcompleteFirst_1
    have a2 := e_first4 hcompleteFirst_2
    obtain rfl : b = 3 := by omega
    obtain ⟨Y2, f2, w2, u2, d2⟩ := FPV_s (i := 2) hd
    obtain ⟨Y1, f1, w1, u1, d1⟩ := FPV_s (i := 1) f2
    obtain ⟨Y0, f0, w0, u0, d0⟩ := FPV_s (i := 0) f1
    have e0 : Y0 = A := f0
    subst e0
    rw [v0 u0] at d0
    rw [v1 u1] at d1
    rw [v1 u2] at d2
    have T1 := (stepV hS hq hp hb0 T0 (g5 0 (by omega)) hcompleteFirst d0).2.2
    have T2 := (stepV hS hq hp hb0 T1 (g5 1 (by omega)) hcompleteFirst_1 d1).2.2
    have T3 := (stepV hS hq hp hb0 T2 (g5 2 (by omega)) hcompleteFirst_2 d2).2.2
    exact T3
  · have a0 := e_first4 hcompleteFirst
    have a1 := e_first4 hcompleteFirst_1
    have a2 := e_first4 hcompleteFirst_2
    have a3 := e_first4 hcompleteFirst_3
    obtain rfl : b = 4 := by omega
    obtain ⟨Y3, f3, w3, u3, d3⟩ := FPV_s (i := 3) hd
    obtain ⟨Y2, f2, w2, u2, d2⟩ := FPV_s (i := 2) f3
    obtain ⟨Y1, f1, w1, u1, d1⟩ := FPV_s (i := 1) f2
    obtain ⟨Y0, f0, w0, u0, d0⟩ := FPV_s (i := 0) f1
    have e0 : Y0 = A := f0
    subst e0
    rw [v0 u0] at d0
    rw [v1 u1] at d1
    rw [v1 u2] at d2
    rw [v1 u3] at d3
    have T1 := (stepV hS hq hp hb0 T0 (g5 0 (by omega)) hcompleteFirst d0).2.2
    have T2 := (stepV hS hq hp hb0 T1 (g5 1 (by omega)) hcompleteFirst_1 d1).2.2
    have T3 := (stepV hS hq hp hb0 T2 (g5 2 (by omega)) hcompleteFirst_2 d2).2.2
    have T4 := (stepV hS hq hp hb0 T3 (g5 3 (by omega)) hcompleteFirst_3 d3).2.2
    exact T4
end
section
def TIM (t r c : Int32) : Prop := (r.toInt = 0 → 0 ≤ c.toInt ∧ c.toInt < t.toInt) ∧ (r.toInt = 1 → 0 ≤ c.toInt ∧ c.toInt < 3)
def B01 (b : Int32) : Prop := b = 0 ∨ b = 1
/-- a pair's state, numbers, clock and marks -/
def PS (x q : Nat) (t0 : Int32) (B A : AA) : Prop :=
  B (x + 84 + 17 * q) 2 = A 10 q ∧
  ((A 10 q).toInt = 1 → B (x + 77 + 17 * q) 7 = A 11 q ∧ B (x + 77 + 17 * q) 8 = A 12 q ∧ B (x + 77 + 17 * q) 9 = A 13 q ∧ B (x + 85 + 17 * q) 4 = A 14 q) ∧
  (B (x + 77 + 17 * q) 10 = A 15 q ∧ B (x + 77 + 17 * q) 11 = A 16 q ∧ B (x + 77 + 17 * q) 12 = A 17 q) ∧
  ((A 10 q).toInt ≠ 2 → B (x + 77 + 17 * q) 13 = A 18 q ∧ TIM t0 (A 18 q) (A 15 q)) ∧
  (B (x + 85 + 17 * q) 6 = A 19 q ∧ B (x + 85 + 17 * q) 5 = A 36 q) ∧
  (0 ≤ (A 14 q).toInt ∧ (A 14 q).toInt ≤ 63) ∧ (0 ≤ (A 10 q).toInt ∧ (A 10 q).toInt ≤ 2) ∧ B01 (A 18 q) ∧ B01 (A 19 q) ∧ B01 (A 36 q)
def AD (x q : Nat) (B A : AA) : Prop := (∀ i : Nat, i < 2 → (i : Int) < (A 37 q).toInt → B (x + 86 + 17 * q) i = A 38 (2 * q + i) ∧ B (x + 87 + 17 * q) i = A 39 (2 * q + i)) ∧ ∀ i : Nat, i < 2 → (A 37 q).toInt ≤ (i : Int) → B (x + 86 + 17 * q) i = -1
/-- what stays as it was made -/
def CST (x q : Nat) (t0 t1 t2 : Int32) (B : AA) : Prop := (B (x + 77 + 17 * q) 0).toInt = (q : Int) + 1 - 2 * ((q % 2 : Nat) : Int) ∧ B (x + 77 + 17 * q) 3 = t0 ∧ B (x + 77 + 17 * q) 4 = t1 ∧ B (x + 77 + 17 * q) 5 = t2 ∧ (B (x + 85 + 17 * q) 0).toInt = (q : Int) + 1 - 2 * ((q % 2 : Nat) : Int) ∧ (B (x + 78 + 17 * q) 0).toInt = q ∧ (B (x + 88 + 17 * q) 0).toInt = q
def PQ (x q : Nat) (t0 t1 t2 : Int32) (B A : AA) : Prop := CST x q t0 t1 t2 B ∧ PS x q t0 B A ∧ RQ x q B A ∧ RV x q B A ∧ AD x q B A
/-- the reference's arrays agree at a pair -/
def AGR (q : Nat) (A A' : AA) : Prop := (∀ j, 10 ≤ j → j ≤ 37 → A' j q = A j q ∨ (22 ≤ j ∧ j ≤ 29) ∨ (32 ≤ j ∧ j ≤ 35)) ∧ (∀ j, (22 ≤ j ∧ j ≤ 29) ∨ (32 ≤ j ∧ j ≤ 35) → ∀ i, i < 4 → A' j (4 * q + i) = A j (4 * q + i)) ∧ ∀ j, j = 38 ∨ j = 39 → ∀ i, i < 2 → A' j (2 * q + i) = A j (2 * q + i)
theorem AGR.s {q : Nat} {A A' : AA} (h : AGR q A A') (j : Nat) (h1 : 10 ≤ j) (h2 : j ≤ 37) (h3 : ¬ (22 ≤ j ∧ j ≤ 29)) (h4 : ¬ (32 ≤ j ∧ j ≤ 35)) : A' j q = A j q := (h.1 j h1 h2).resolve_right (fun e => e.elim h3 h4)
theorem AGR.tr {q : Nat} {A A' A2 : AA} (h : AGR q A A') (g : AGR q A' A2) : AGR q A A2 := ⟨fun j h1 h2 => by
  rcases h.1 j h1 h2 with a | a
  · rcases g.1 j h1 h2 with b | b
    · exact Or.inl (b.trans a)
    · exact Or.inr b
  · exact Or.inr a, fun j hj i hi => (g.2.1 j hj i hi).trans (h.2.1 j hj i hi), fun j hj i hi => (g.2.2 j hj i hi).trans (h.2.2 j hj i hi)⟩
theorem AGR.of {q : Nat} {A A' : AA} (h : ∀ j, 10 ≤ j → j ≤ 39 → A' j = A j) : AGR q A A' := ⟨fun j h1 h2 => Or.inl (by rw [h j h1 (by omega)]), fun j hj i _ => by rw [h j (by omega) (by omega)], fun j hj i _ => by rw [h j (by omega) (by omega)]⟩
theorem PS.cg {x q : Nat} {t0 : Int32} {B Z A A' : AA} (h : PS x q t0 B A) (h1 : Z (x + 84 + 17 * q) = B (x + 84 + 17 * q)) (h2 : Z (x + 77 + 17 * q) = B (x + 77 + 17 * q)) (h3 : Z (x + 85 + 17 * q) = B (x + 85 + 17 * q)) (ha : ∀ j, (10 ≤ j ∧ j ≤ 19) ∨ j = 36 → A' j q = A j q) : PS x q t0 Z A' := by
  unfold PS at h ⊢
  rw [h1, h2, h3, ha 10 (by omega), ha 11 (by omega), ha 12 (by omega), ha 13 (by omega), ha 14 (by omega), ha 15 (by omega), ha 16 (by omega), ha 17 (by omega), ha 18 (by omega), ha 19 (by omega), ha 36 (by omega)]
  exact h
theorem AD.cg {x q : Nat} {B Z A A' : AA} (h : AD x q B A) (h1 : Z (x + 86 + 17 * q) = B (x + 86 + 17 * q)) (h2 : Z (x + 87 + 17 * q) = B (x + 87 + 17 * q)) (h37 : A' 37 q = A 37 q) (h38 : ∀ i, i < 2 → A' 38 (2 * q + i) = A 38 (2 * q + i)) (h39 : ∀ i, i < 2 → A' 39 (2 * q + i) = A 39 (2 * q + i)) : AD x q Z A' := by
  refine ⟨fun i hi hl => ?_, fun i hi hl => ?_⟩
  · rw [h37] at hl
    rw [h1, h2, h38 i hi, h39 i hi]
    exact h.1 i hi hl
  · rw [h37] at hl
    rw [h1]
    exact h.2 i hi hl
theorem CST.cg {x q : Nat} {t0 t1 t2 : Int32} {B Z : AA} (h : CST x q t0 t1 t2 B) (h1 : ∀ j, j = 0 ∨ j = 3 ∨ j = 4 ∨ j = 5 → Z (x + 77 + 17 * q) j = B (x + 77 + 17 * q) j) (h2 : Z (x + 85 + 17 * q) 0 = B (x + 85 + 17 * q) 0) (h3 : Z (x + 78 + 17 * q) 0 = B (x + 78 + 17 * q) 0) (h4 : Z (x + 88 + 17 * q) 0 = B (x + 88 + 17 * q) 0) : CST x q t0 t1 t2 Z := by
  unfold CST at h ⊢
  rw [h1 0 (by omega), h1 3 (by omega), h1 4 (by omega), h1 5 (by omega), h2, h3, h4]
  exact h
theorem PQ.cg {x q : Nat} {t0 t1 t2 : Int32} {B Z A A' : AA} (h : PQ x q t0 t1 t2 B A) (hB : ∀ a, x + 77 + 17 * q ≤ a → a < x + 94 + 17 * q → Z a = B a) (hA : AGR q A A') (h20 : (A 20 q).toInt ≤ 4) (h30 : (A 30 q).toInt ≤ 4) : PQ x q t0 t1 t2 Z A' := by
  have s := fun j a b c d => hA.s j a b c d
  refine ⟨h.1.cg (fun j _ => by rw [hB _ (by omega) (by omega)]) (by rw [hB _ (by omega) (by omega)]) (by rw [hB _ (by omega) (by omega)]) (by rw [hB _ (by omega) (by omega)]), h.2.1.cg (hB _ (by omega) (by omega)) (hB _ (by omega) (by omega)) (hB _ (by omega) (by omega)) (fun j hj => s j (by omega) (by omega) (by omega) (by omega)), h.2.2.1.cg (hB _ (by omega) (by omega)) (fun i _ => hB _ (by omega) (by omega)) (s 20 (by omega) (by omega) (by omega) (by omega)) (s 21 (by omega) (by omega) (by omega) (by omega)) (fun j a b i hi => hA.2.1 j (by omega) i hi) h20, h.2.2.2.1.cg (hB _ (by omega) (by omega)) (fun i _ => hB _ (by omega) (by omega)) (s 30 (by omega) (by omega) (by omega) (by omega)) (s 31 (by omega) (by omega) (by omega) (by omega)) (fun j a b i hi => hA.2.1 j (by omega) i hi) h30, h.2.2.2.2.cg (hB _ (by omega) (by omega)) (hB _ (by omega) (by omega)) (s 37 (by omega) (by omega) (by omega) (by omega)) (fun i hi => hA.2.2 38 (by omega) i hi) (fun i hi => hA.2.2 39 (by omega) i hi)⟩
/-- a pair fails -/
theorem s_fail {x q : Nat} {G : Nat → Nat} {B : AA} {R : RR} {A : AA} {t0 t1 t2 : Int32} (hS : SHX x R) (hq : q < 4) (hns : ∀ m, m < 2 → NS x m B (A 8) (A 9)) (hI : I3 (A 8)) (hP : PQ x q t0 t1 t2 B A) (h8 : (0 ≤ (A 20 q).toInt ∧ (A 20 q).toInt ≤ 4) ∧ (0 ≤ (A 30 q).toInt ∧ (A 30 q).toInt ≤ 4)) {p c1 c2 st rs cd pk cdz pkz : Int32} {Z A' : AA} (hp : (q : Int) = p.toInt) (e1 : c1 = if 0 < st.toInt then st else 5) (e2 : c2 = if 0 < rs.toInt then rs else 5) (hc : C_X3_fail G B R (x + 84 + 17 * q) c1 c2 Z) (hd : D_X10_failPair A cd pk p st rs A' cdz pkz) : cdz = cd ∧ pkz = pk ∧ (∀ m, m < 2 → NS x m Z (A' 8) (A' 9)) ∧ I3 (A' 8) ∧ PQ x q t0 t1 t2 Z A' ∧ (∀ a, a ≠ x + 56 + 10 * (q % 2) → a ≠ x + 59 + 10 * (q % 2) → ¬ (x + 77 + 17 * q ≤ a ∧ a < x + 94 + 17 * q) → Z a = B a) ∧ (∀ q', q' ≠ q → AGR q' A A') ∧ (∀ j, j ≠ 8 → j ≠ 9 → j ≠ 10 → j ≠ 18 → j ≠ 20 → j ≠ 30 → j ≠ 36 → A' j = A j) := by
  obtain ⟨hC, hPS, hRQ, hRV, hAD⟩ := hP
  have hsh := hS.2.2.1 q hq
  rcases hd with ⟨n_1d, hn_1d, g_3d, rfl, ix_4d, u_4d, c1d, c2d, c3d, c4d, ix_11d, u_11d, c5d, c6d, c7d, c8d, g_17d, rfl, g_18d, rfl, g_19d, rfl, g_20d, rfl, rfl, rfl, rfl⟩
  obtain rfl : n_1d = q := by omega
  rcases hc with ⟨B_2, rfl, U_9, hF, hcompleteAll, U_14, hF_1, hcompleteAll_1, rfl⟩
  obtain ⟨b1, hb1, hF1⟩ := c3d
  obtain ⟨b2, hb2, hF2⟩ := c7d
  have hsr := hS.2.2.2.1 n_1d hq
  have hss := hS.2.2.2.2.2.1 n_1d hq
  rw [hsh.2.1, hsr.2.2] at hcompleteAll
  rw [hsh.2.2] at hcompleteAll_1
  have ep : B (x + 78 + 17 * n_1d) 0 = p := i32_eq (by rw [hC.2.2.2.2.2.1]; exact hp)
  have ep2 : B (x + 88 + 17 * n_1d) 0 = p := i32_eq (by rw [hC.2.2.2.2.2.2]; exact hp)
  -- the requests
  obtain ⟨h, T⟩ := s_allQ (B := uA B (x + 84 + 17 * n_1d) (upd (B (x + 84 + 17 * n_1d)) 2 2)) (A := uA A 10 (upd (A 10) n_1d 2)) (b := b1) hS hq (fun m hm => (hns m hm).cg (uA_n (by omega)) (uA_n (by omega)) rfl (fun _ _ _ => rfl) (hI m hm).2) hI hp (by rw [uA_n (by omega)]; exact ep) (hRQ.cg (uA_n (by omega)) (fun i _ => uA_n (by omega)) rfl rfl (fun j h1 h2 i hi => by rw [uA_n (by omega)]) h8.1.2) h8.1 e1 hcompleteAll hF1 (by show (b1 : Int) = (A 20 n_1d).toInt; omega)
  obtain ⟨s1, s2, s3, s4, s5, s6, s7⟩ := T
  have f9 : ∀ a, a ≠ x + 56 + 10 * (n_1d % 2) → a ≠ x + 59 + 10 * (n_1d % 2) → a ≠ x + 78 + 17 * n_1d → a ≠ x + 84 + 17 * n_1d → U_9 a = B a := fun a k1 k2 k3 k4 => by rw [s3 a k1 k2 k3, uA_n k4]
  have eP : U_9 (x + 84 + 17 * n_1d) = upd (B (x + 84 + 17 * n_1d)) 2 2 := by rw [s3 _ (by omega) (by omega) (by omega), uA_s]
  have eK : ∀ j, j ≠ 3 → j ≠ 4 → U_9 (x + 78 + 17 * n_1d) j = B (x + 78 + 17 * n_1d) j := fun j k1 k2 => by rw [s7 j k1 k2, uA_n (by omega)]
  have eK4 : (U_9 (x + 78 + 17 * n_1d) 4).toInt = 0 := by
    have k := hRQ
    obtain ⟨_, _, _, k3, _⟩ := k
    rw [uA_n (by omega), k3] at s6
    omega
  have key : ∀ (sc : Int32) (W : AA), (sc = if (A 36 n_1d).toInt ≠ 0 ∧ 0 < rs.toInt then rs else 5) → C_X5_completeAll G U_9 R (x + 88 + 17 * n_1d) sc W → ∀ Z, Z = uA W (x + 85 + 17 * n_1d) (upd (W (x + 85 + 17 * n_1d)) 5 0) → (∀ m, m < 2 → NS x m Z u_11d.1 u_11d.2) ∧ I3 u_11d.1 ∧ PQ x n_1d t0 t1 t2 Z (uA (uA (uA (uA (uA (uA (uA A 8 u_11d.1) 9 u_11d.2) 10 (upd (A 10) n_1d 2)) 18 (upd (A 18) n_1d 0)) 20 (upd (A 20) n_1d 0)) 30 (upd (A 30) n_1d 0)) 36 (upd (A 36) n_1d 0)) ∧ (∀ a, a ≠ x + 56 + 10 * (n_1d % 2) → a ≠ x + 59 + 10 * (n_1d % 2) → ¬ (x + 77 + 17 * n_1d ≤ a ∧ a < x + 94 + 17 * n_1d) → Z a = B a) := by
    intro sc W hsc hW Z hZ
    obtain ⟨h2, T2⟩ := s_allV (B := U_9) (A := uA (uA (uA A 10 (upd (A 10) n_1d 2)) 8 u_4d.1) 9 u_4d.2) (b := b2) hS hq s1 s2 hp (by rw [f9 _ (by omega) (by omega) (by omega) (by omega)]; exact ep2) (hRV.cg (f9 _ (by omega) (by omega) (by omega) (by omega)) (fun i _ => f9 _ (by omega) (by omega) (by omega) (by omega)) rfl rfl (fun j h1 h2 i hi => by rw [uA_n (by omega), uA_n (by omega), uA_n (by omega)]) h8.2.2) h8.2 hsc hW hF2 (by show (b2 : Int) = (A 30 n_1d).toInt; omega)
    obtain ⟨r1, r2, r3, r4, r5, r6, r7⟩ := T2
    have g9 : ∀ a, a ≠ x + 56 + 10 * (n_1d % 2) → a ≠ x + 59 + 10 * (n_1d % 2) → a ≠ x + 78 + 17 * n_1d → a ≠ x + 84 + 17 * n_1d → a ≠ x + 88 + 17 * n_1d → a ≠ x + 85 + 17 * n_1d → Z a = B a := fun a k1 k2 k3 k4 k5 k6 => by rw [hZ, uA_n k6, r3 a k1 k2 k5, f9 a k1 k2 k3 k4]
    have zP : Z (x + 84 + 17 * n_1d) = upd (B (x + 84 + 17 * n_1d)) 2 2 := by rw [hZ, uA_n (by omega), r3 _ (by omega) (by omega) (by omega), eP]
    have zK : Z (x + 78 + 17 * n_1d) = U_9 (x + 78 + 17 * n_1d) := by rw [hZ, uA_n (by omega), r3 _ (by omega) (by omega) (by omega)]
    have zS : Z (x + 85 + 17 * n_1d) = upd (B (x + 85 + 17 * n_1d)) 5 0 := by rw [hZ, uA_s, r3 _ (by omega) (by omega) (by omega), f9 _ (by omega) (by omega) (by omega) (by omega)]
    have zV : Z (x + 88 + 17 * n_1d) = W (x + 88 + 17 * n_1d) := by rw [hZ, uA_n (by omega)]
    have zV4 : (Z (x + 88 + 17 * n_1d) 4).toInt = 0 := by
      have k := hRV
      obtain ⟨_, _, _, k3, _⟩ := k
      rw [zV, r6, f9 _ (by omega) (by omega) (by omega) (by omega), k3]
      omega
    have zVj : ∀ j, j ≠ 3 → j ≠ 4 → Z (x + 88 + 17 * n_1d) j = B (x + 88 + 17 * n_1d) j := fun j k1 k2 => by rw [zV, r7 j k1 k2, f9 _ (by omega) (by omega) (by omega) (by omega)]
    refine ⟨fun m hm => (r1 m hm).cg (by rw [hZ]; exact uA_n (by omega)) (by rw [hZ]; exact uA_n (by omega)) rfl (fun _ _ _ => rfl) (r2 m hm).2, r2, ⟨?_, ?_, ?_, ?_, ?_⟩, fun a k1 k2 k3 => g9 a k1 k2 (by omega) (by omega) (by omega) (by omega)⟩
    · exact hC.cg (fun j _ => by rw [g9 _ (by omega) (by omega) (by omega) (by omega) (by omega) (by omega)]) (by rw [zS, upd_n (by decide)]) (by rw [zK, eK 0 (by decide) (by decide)]) (zVj 0 (by decide) (by decide))
    · have z7 : Z (x + 77 + 17 * n_1d) = B (x + 77 + 17 * n_1d) := g9 _ (by omega) (by omega) (by omega) (by omega) (by omega) (by omega)
      show PS x n_1d t0 Z _
      unfold PS
      rw [zP, z7, zS]
      obtain ⟨p1, p2, p3, p4, p5, p6, p7, p8, p9, p10⟩ := hPS
      refine ⟨?_, ?_, p3, ?_, ?_, p6, ?_, ?_, p9, ?_⟩
      · rw [upd_s]; exact upd_s.symm
      · intro k
        have k : (upd (A 10) n_1d 2 n_1d).toInt = 1 := k
        rw [upd_s] at k
        exact absurd k (by decide)
      · intro k
        have k : (upd (A 10) n_1d 2 n_1d).toInt ≠ 2 := k
        rw [upd_s] at k
        exact absurd i_2 k
      · rw [upd_n (by decide), upd_s]
        exact ⟨p5.1, upd_s.symm⟩
      · show 0 ≤ (upd (A 10) n_1d 2 n_1d).toInt ∧ _
        rw [show (uA (uA (uA (uA (uA (uA (uA A 8 u_11d.1) 9 u_11d.2) 10 (upd (A 10) n_1d 2)) 18 (upd (A 18) n_1d 0)) 20 (upd (A 20) n_1d 0)) 30 (upd (A 30) n_1d 0)) 36 (upd (A 36) n_1d 0)) 10 n_1d = upd (A 10) n_1d 2 n_1d from rfl, upd_s]
        decide
      · show B01 (upd (A 18) n_1d 0 n_1d)
        rw [upd_s]; exact Or.inl rfl
      · show B01 (upd (A 36) n_1d 0 n_1d)
        rw [upd_s]; exact Or.inl rfl
    · refine ⟨(h + b1) % 4, by omega, ?_, ?_, ?_, fun i hi => ?_⟩
      · rw [zK]; exact s5.symm
      · rw [zK]
        show _ = upd (A 20) n_1d 0 n_1d
        rw [upd_s]
        exact i32_eq (by rw [eK4]; decide)
      · rw [zK, eK 5 (by decide) (by decide)]
        obtain ⟨_, _, _, _, k4, _⟩ := hRQ
        exact k4
      · have hi : (i : Int) < (upd (A 20) n_1d 0 n_1d).toInt := hi
        rw [upd_s, i_0] at hi
        omega
    · refine ⟨(h2 + b2) % 4, by omega, ?_, ?_, ?_, fun i hi => ?_⟩
      · rw [zV]; exact r5.symm
      · show _ = upd (A 30) n_1d 0 n_1d
        rw [upd_s]
        exact i32_eq (by rw [zV4]; decide)
      · rw [zVj 5 (by decide) (by decide)]
        obtain ⟨_, _, _, _, k4, _⟩ := hRV
        exact k4
      · have hi : (i : Int) < (upd (A 30) n_1d 0 n_1d).toInt := hi
        rw [upd_s, i_0] at hi
        omega
    · exact hAD.cg (g9 _ (by omega) (by omega) (by omega) (by omega) (by omega) (by omega)) (g9 _ (by omega) (by omega) (by omega) (by omega) (by omega) (by omega)) rfl (fun _ _ => rfl) (fun _ _ => rfl)
  have e5 : U_9 (x + 85 + 17 * n_1d) 5 = A 36 n_1d := by rw [f9 _ (by omega) (by omega) (by omega) (by omega)]; exact hPS.2.2.2.2.1.2
  have agr : ∀ q', q' ≠ n_1d → AGR q' A (uA (uA (uA (uA (uA (uA (uA A 8 u_11d.1) 9 u_11d.2) 10 (upd (A 10) n_1d 2)) 18 (upd (A 18) n_1d 0)) 20 (upd (A 20) n_1d 0)) 30 (upd (A 30) n_1d 0)) 36 (upd (A 36) n_1d 0)) := fun q' hne => by
    refine ⟨fun j k1 k2 => Or.inl ?_, fun j hj i hi => ?_, fun j hj i hi => ?_⟩
    · by_cases a1 : j = 36
      · subst a1; exact upd_n hne
      by_cases a2 : j = 30
      · subst a2; exact upd_n hne
      by_cases a3 : j = 20
      · subst a3; exact upd_n hne
      by_cases a4 : j = 18
      · subst a4; exact upd_n hne
      by_cases a5 : j = 10
      · subst a5; exact upd_n hne
      rw [uA_n a1, uA_n a2, uA_n a3, uA_n a4, uA_n a5, uA_n (by omega), uA_n (by omega)]
    · rw [uA_n (by omega), uA_n (by omega), uA_n (by omega), uA_n (by omega), uA_n (by omega), uA_n (by omega), uA_n (by omega)]
    · rw [uA_n (by omega), uA_n (by omega), uA_n (by omega), uA_n (by omega), uA_n (by omega), uA_n (by omega), uA_n (by omega)]
  have oth : ∀ j, j ≠ 8 → j ≠ 9 → j ≠ 10 → j ≠ 18 → j ≠ 20 → j ≠ 30 → j ≠ 36 → (uA (uA (uA (uA (uA (uA (uA A 8 u_11d.1) 9 u_11d.2) 10 (upd (A 10) n_1d 2)) 18 (upd (A 18) n_1d 0)) 20 (upd (A 20) n_1d 0)) 30 (upd (A 30) n_1d 0)) 36 (upd (A 36) n_1d 0)) j = A j := fun j a1 a2 a3 a4 a5 a6 a7 => by rw [uA_n a7, uA_n a6, uA_n a5, uA_n a4, uA_n a3, uA_n a2, uA_n a1]
  rcases hcompleteAll_1 with ⟨c1v, U_6v, hFv, hcompleteAllv, B_8v, rfl, rfl⟩ | ⟨c1v, U_11v, hFv, hcompleteAllv, B_13v, rfl, rfl⟩
  · rw [e5] at c1v
    rw [hss.2.2.1] at hcompleteAllv
    obtain ⟨k1, k2, k3, k4⟩ := key 5 U_6v (by rw [if_neg (fun k => k.1 c1v)]) hcompleteAllv _ rfl
    exact ⟨rfl, rfl, k1, k2, k3, k4, agr, oth⟩
  · rw [e5] at c1v
    rw [hss.2.2.1] at hcompleteAllv
    obtain ⟨k1, k2, k3, k4⟩ := key c2 U_11v (by rw [e2]; simp [c1v]) hcompleteAllv _ rfl
    exact ⟨rfl, rfl, k1, k2, k3, k4, agr, oth⟩
end
section
/-- the packets in the fabric: where they lie -/
def DYN (x : Nat) (R : RR) (pm : Nat → Nat) (tk : Nat) : Prop := R (x + 1) 2 = x + 3 + 2 * tk ∧ (∀ i, i < 24 → R (x + 2) i = x + 3 + 2 * pm i) ∧ tk < 26 ∧ tk ≠ 1 ∧ (∀ i, i < 24 → pm i < 26 ∧ pm i ≠ 1 ∧ pm i ≠ tk) ∧ ∀ i j, i < 24 → j < 24 → pm i = pm j → i = j
def PKR (A : AA) (i : Nat) : Prop := (0 ≤ (A 43 i).toInt ∧ (A 43 i).toInt ≤ 63) ∧ (0 ≤ (A 42 i).toInt ∧ (A 42 i).toInt ≤ 6) ∧ ((A 42 i).toInt = 0 → 0 ≤ (A 45 i).toInt ∧ (A 45 i).toInt ≤ 3) ∧ ((A 42 i).toInt = 6 → 1 ≤ (A 45 i).toInt ∧ (A 45 i).toInt ≤ 4) ∧ ((A 42 i).toInt = 0 ∨ (A 42 i).toInt = 1 ∨ (A 42 i).toInt = 4 → 1 ≤ (A 44 i).toInt ∧ (A 44 i).toInt ≤ 4) ∧ ((A 42 i).toInt = 2 → 1 ≤ (A 44 i).toInt ∧ (A 44 i).toInt ≤ 12)
/-- a packet of the class and a row of the reference's -/
def PKT (b c : Nat → Int32) (A : AA) (i : Nat) : Prop := (b 0 = A 41 i ∧ b 1 = A 42 i ∧ b 2 = A 43 i ∧ b 3 = A 44 i ∧ b 4 = A 45 i ∧ b 5 = A 46 i ∧ b 6 = A 47 i) ∧ ((A 42 i).toInt = 0 ∨ (A 42 i).toInt = 1 ∨ (A 42 i).toInt = 4 → ∀ k : Nat, k < 4 → (k : Int) < (A 44 i).toInt → c k = A 48 (4 * i + k)) ∧ PKR A i
theorem PKT.cg {b c b' c' : Nat → Int32} {A A' : AA} {i i' : Nat} (h : PKT b c A i) (hb : b' = b) (hc : c' = c) (hj : ∀ j, 41 ≤ j → j ≤ 47 → A' j i' = A j i) (h48 : ∀ k, k < 4 → A' 48 (4 * i' + k) = A 48 (4 * i + k)) : PKT b' c' A' i' := by
  subst hb hc
  unfold PKT PKR at h ⊢
  rw [hj 41 (by omega) (by omega), hj 42 (by omega) (by omega), hj 43 (by omega) (by omega), hj 44 (by omega) (by omega), hj 45 (by omega) (by omega), hj 46 (by omega) (by omega), hj 47 (by omega) (by omega)]
  exact ⟨h.1, fun hk k h1 h2 => by rw [h48 k h1]; exact h.2.1 hk k h1 h2, h.2.2⟩
def FB (x : Nat) (pm : Nat → Nat) (B A : AA) (pk : Int32) : Prop := B (x + 1) 1 = pk ∧ ∀ i : Nat, (i : Int) < pk.toInt → PKT (B (x + 3 + 2 * pm i)) (B (x + 4 + 2 * pm i)) A i
theorem FB.cg {x : Nat} {pm : Nat → Nat} {B Z A A' : AA} {pk : Int32} (h : FB x pm B A pk) (hB : ∀ a, x + 1 ≤ a → a < x + 55 → Z a = B a) (hA : ∀ j, 41 ≤ j → j ≤ 48 → A' j = A j) (h24 : pk.toInt ≤ 24) (hp : ∀ i, i < 24 → pm i < 26) : FB x pm Z A' pk := by
  refine ⟨by rw [hB _ (by omega) (by omega)]; exact h.1, fun i hi => ?_⟩
  have := hp i (by omega)
  exact (h.2 i hi).cg (hB _ (by omega) (by omega)) (hB _ (by omega) (by omega)) (fun j h1 h2 => by rw [hA j h1 (by omega)]) (fun k _ => by rw [hA 48 (by omega) (by omega)])
def MEM (x : Nat) (B : AA) (m : Nat → Int32) : Prop := ∀ n, n < 2 → ∀ c, c < 32 → B (x + 57 + 10 * n) c = m (32 * n + c)
def REG (x : Nat) (B : AA) (a b c : Nat → Int32) : Prop := ∀ n, n < 2 → ∀ j, j < 6 → B (x + 60 + 10 * n + j) 0 = a (6 * n + j) ∧ B (x + 60 + 10 * n + j) 1 = b (6 * n + j) ∧ B (x + 60 + 10 * n + j) 2 = c (6 * n + j) ∧ 0 ≤ (c (6 * n + j)).toInt ∧ (c (6 * n + j)).toInt ≤ 7
/-- the class and the reference agree -/
def SIM (x : Nat) (t0 t1 t2 : Int32) (B : AA) (R : RR) (A : AA) (pk : Int32) : Prop :=
  SHX x R ∧ (∃ (pm : Nat → Nat) (tk : Nat), DYN x R pm tk ∧ FB x pm B A pk) ∧ MEM x B (A 4) ∧ REG x B (A 5) (A 6) (A 7) ∧ (∀ m, m < 2 → NS x m B (A 8) (A 9)) ∧ ∀ q, q < 4 → PQ x q t0 t1 t2 B A
/-- what is known of the reference's arrays -/
def RIV (A : AA) (pk : Int32) : Prop := (I2 (A 5) (A 6) ∧ I3 (A 8) ∧ I4 (A 10) (A 20) (A 29) (A 24) (A 11) (A 12) (A 13) ∧ I5 (A 32) (A 33) (A 35) ∧ I6 (A 22) (A 23) (A 24) (A 25) (A 26) ∧ I7 (A 41) (A 42) (A 44) (A 45) (A 46) ∧ I8 (A 20) (A 30) (A 37) (A 36)) ∧ 0 ≤ pk.toInt ∧ pk.toInt ≤ 24
theorem RIV.c4 {A : AA} {pk : Int32} (h : RIV A pk) {q : Nat} (hq : q < 4) : (0 ≤ (A 20 q).toInt ∧ (A 20 q).toInt ≤ 4) ∧ (0 ≤ (A 30 q).toInt ∧ (A 30 q).toInt ≤ 4) := by
  have k := h.1.2.2.2.2.2.2 q hq
  omega
/-- a change within a pair and a node's completions -/
theorem SIM.pr {x q n : Nat} {t0 t1 t2 : Int32} {B Z : AA} {R : RR} {A A' : AA} {pk : Int32} (h : SIM x t0 t1 t2 B R A pk) (hV : RIV A pk) (hq : q < 4) (hn : n < 2) (hZ : ∀ a, a ≠ x + 56 + 10 * n → a ≠ x + 59 + 10 * n → ¬ (x + 77 + 17 * q ≤ a ∧ a < x + 94 + 17 * q) → Z a = B a) (hN : ∀ m, m < 2 → NS x m Z (A' 8) (A' 9)) (hP : PQ x q t0 t1 t2 Z A') (hA : ∀ q', q' ≠ q → AGR q' A A') (hj : ∀ j, j ≠ 8 → j ≠ 9 → (j < 10 ∨ 39 < j) → A' j = A j) : SIM x t0 t1 t2 Z R A' pk := by
  obtain ⟨h1, ⟨pm, tk, h2, h3⟩, h4, h5, h6, h7⟩ := h
  refine ⟨h1, ⟨pm, tk, h2, h3.cg (fun a k1 k2 => hZ a (by omega) (by omega) (by omega)) (fun j k1 k2 => hj j (by omega) (by omega) (by omega)) hV.2.2 (fun i hi => (h2.2.2.2.2.1 i hi).1)⟩, fun m hm c hc => ?_, fun m hm j hj2 => ?_, hN, fun q' hq' => ?_⟩
  · rw [hZ _ (by omega) (by omega) (by omega), hj 4 (by omega) (by omega) (by omega)]
    exact h4 m hm c hc
  · rw [hZ _ (by omega) (by omega) (by omega), hj 5 (by omega) (by omega) (by omega), hj 6 (by omega) (by omega) (by omega), hj 7 (by omega) (by omega) (by omega)]
    exact h5 m hm j hj2
  · by_cases e : q' = q
    · subst e; exact hP
    · exact (h7 q' hq').cg (fun a k1 k2 => hZ a (by omega) (by omega) (by omega)) (hA q' e) (hV.c4 hq').1.2 (hV.c4 hq').2.2
/-- the same, the completions untouched -/
theorem SIM.pr0 {x q : Nat} {t0 t1 t2 : Int32} {B Z : AA} {R : RR} {A A' : AA} {pk : Int32} (h : SIM x t0 t1 t2 B R A pk) (hV : RIV A pk) (hq : q < 4) (hZ : ∀ a, ¬ (x + 77 + 17 * q ≤ a ∧ a < x + 94 + 17 * q) → Z a = B a) (hP : PQ x q t0 t1 t2 Z A') (hA : ∀ q', q' ≠ q → AGR q' A A') (hj : ∀ j, (j < 10 ∨ 39 < j) → A' j = A j) : SIM x t0 t1 t2 Z R A' pk := by
  refine h.pr hV hq (n := 0) (by omega) (fun a _ _ k => hZ a k) (fun m hm => ?_) hP hA (fun j _ _ k => hj j k)
  exact (h.2.2.2.2.1 m hm).cg (hZ _ (by omega)) (hZ _ (by omega)) (by rw [hj 8 (by omega)]) (fun k _ _ => by rw [hj 9 (by omega)]) (hV.1.2.1 m hm).2
theorem i_3t : (3 : Int32).toInt = 3 := by decide
theorem i_1t : (1 : Int32).toInt = 1 := by decide
theorem i_31t : (31 : Int32).toInt = 31 := by decide
/-- cell -/
theorem s_cell {x : Nat} {G : Nat → Nat} {t0 t1 t2 : Int32} {B : AA} {R : RR} {A : AA} {pk cd p0 p1 r : Int32} (h : SIM x t0 t1 t2 B R A pk) (hc : C_X9_cell G B R x p0 p1 r) {Z : AA} {cdz pkz r' : Int32} (hd : D_X10_cell A cd pk p0 p1 Z cdz pkz r') : r = r' ∧ Z = A ∧ pkz = pk := by
  obtain ⟨hS, -, hM, -, -, -⟩ := h
  have i3 := i_1t
  have i31 := i_31t
  rcases hc with ⟨c1, rfl⟩ | ⟨c1, n_6, hn_6, r_9, hat, rfl⟩
  · rcases hd with ⟨c1d, rfl, rfl, rfl, rfl⟩ | ⟨c1d, c2d, rfl, rfl, rfl, rfl⟩ | ⟨c1d, c2d, x_3d, ex_3d, fx_3d, x_4d, ex_4d, fx_4d, n_7d, hn_7d, rfl, rfl, rfl, rfl⟩
    · exact ⟨rfl, rfl, rfl⟩
    · exact ⟨rfl, rfl, rfl⟩
    · omega
  · rw [hS.1.1, (hS.2.1 n_6 (by omega)).1] at hat
    rcases hat with ⟨c1a, rfl⟩ | ⟨c1a, n_6a, hn_6a, rfl⟩
    · rcases hd with ⟨c1d, rfl, rfl, rfl, rfl⟩ | ⟨c1d, c2d, rfl, rfl, rfl, rfl⟩ | ⟨c1d, c2d, x_3d, ex_3d, fx_3d, x_4d, ex_4d, fx_4d, n_7d, hn_7d, rfl, rfl, rfl, rfl⟩
      · omega
      · exact ⟨rfl, rfl, rfl⟩
      · omega
    · rcases hd with ⟨c1d, rfl, rfl, rfl, rfl⟩ | ⟨c1d, c2d, rfl, rfl, rfl, rfl⟩ | ⟨c1d, c2d, x_3d, ex_3d, fx_3d, x_4d, ex_4d, fx_4d, n_7d, hn_7d, rfl, rfl, rfl, rfl⟩
      · omega
      · omega
      · refine ⟨?_, rfl, rfl⟩
        rw [(hS.2.1 n_6 (by omega)).2.1, hM n_6 (by omega) n_6a (by omega)]
        congr 1
        omega
theorem s_packets {x : Nat} {G : Nat → Nat} {t0 t1 t2 : Int32} {B : AA} {R : RR} {A : AA} {pk cd r : Int32} (h : SIM x t0 t1 t2 B R A pk) (hc : C_X9_packets G B R x r) {Z : AA} {cdz pkz r' : Int32} (hd : D_X10_packets A cd pk Z cdz pkz r') : r = r' ∧ Z = A ∧ pkz = pk := by
  obtain ⟨hS, ⟨pm, tk, hD, hF⟩, -⟩ := h
  rcases hc with rfl
  rcases hd with ⟨rfl, rfl, rfl, rfl⟩
  refine ⟨?_, rfl, rfl⟩
  rw [hS.1.2.2]; exact hF.1
theorem s_completions {x : Nat} {G : Nat → Nat} {t0 t1 t2 : Int32} {B : AA} {R : RR} {A : AA} {pk cd p0 r : Int32} (h : SIM x t0 t1 t2 B R A pk) (hc : C_X9_completions G B R x p0 r) {Z : AA} {cdz pkz r' : Int32} (hd : D_X10_completions A cd pk p0 Z cdz pkz r') : r = r' ∧ Z = A ∧ pkz = pk := by
  obtain ⟨hS, -, -, -, hN, -⟩ := h
  have i1 := i_1t
  rcases hc with ⟨c1, rfl⟩ | ⟨c1, n_6, hn_6, rfl⟩
  · rcases hd with ⟨c1d, rfl, rfl, rfl, rfl⟩ | ⟨c1d, n_4d, hn_4d, rfl, rfl, rfl, rfl⟩
    · exact ⟨rfl, rfl, rfl⟩
    · omega
  · rcases hd with ⟨c1d, rfl, rfl, rfl, rfl⟩ | ⟨c1d, n_4d, hn_4d, rfl, rfl, rfl, rfl⟩
    · omega
    · obtain rfl : n_6 = n_4d := by omega
      obtain ⟨_, _, _, k, _⟩ := hN n_6 (by omega)
      refine ⟨?_, rfl, rfl⟩
      rw [hS.1.1, (hS.2.1 n_6 (by omega)).1]; exact k
theorem e_has {G : Nat → Nat} {B : AA} {R : RR} {f : Nat} {p r : Int32} (h : C_X0_has G B R f p r) : (r.toInt = 0 ∧ ¬ (0 ≤ p.toInt ∧ p.toInt < (B f 1).toInt)) ∨ (r.toInt = 1 ∧ 0 ≤ p.toInt ∧ p.toInt < (B f 1).toInt) := by
  rcases h with ⟨c1, rfl⟩ | ⟨c1, c2, rfl⟩ | ⟨c1, c2, rfl⟩
  · exact Or.inl ⟨by decide, by omega⟩
  · exact Or.inl ⟨by decide, by omega⟩
  · exact Or.inr ⟨by decide, by omega, by omega⟩
theorem s_packet {x : Nat} {G : Nat → Nat} {t0 t1 t2 : Int32} {B : AA} {R : RR} {A : AA} {pk cd p0 p1 r : Int32} (h : SIM x t0 t1 t2 B R A pk) (hV : RIV A pk) (hc : C_X9_packet G B R x p0 p1 r) {Z : AA} {cdz pkz r' : Int32} (hd : D_X10_packet A cd pk p0 p1 Z cdz pkz r') : r = r' ∧ Z = A ∧ pkz = pk := by
  obtain ⟨hS, ⟨pm, tk, hD, hF⟩, -⟩ := h
  have hpk := hV.2
  have hf := congrArg Int32.toInt hF.1
  rcases hc with ⟨r_4, hhas, c1, rfl⟩ | ⟨r_4, hhas, c1, n_11, hn_11, r_14, htell, rfl⟩
  · rw [hS.1.2.2] at hhas
    have k := e_has hhas
    rcases hd with ⟨c1d, rfl, rfl, rfl, rfl⟩ | ⟨c1d, c2d, c3d, n_6d, hn_6d, rfl, rfl, rfl, rfl⟩ | ⟨c1d, c2d, c3d, n_9d, hn_9d, rfl, rfl, rfl, rfl⟩ | ⟨c1d, c2d, c3d, n_12d, hn_12d, rfl, rfl, rfl, rfl⟩ | ⟨c1d, c2d, c3d, n_15d, hn_15d, rfl, rfl, rfl, rfl⟩ | ⟨c1d, c2d, c3d, n_18d, hn_18d, rfl, rfl, rfl, rfl⟩ | ⟨c1d, c2d, c3d, n_21d, hn_21d, rfl, rfl, rfl, rfl⟩ | ⟨c1d, c2d, c3d, rfl, rfl, rfl, rfl⟩ | ⟨c1d, c2d, rfl, rfl, rfl, rfl⟩ <;> first | exact ⟨rfl, rfl, rfl⟩ | (exfalso; omega)
  · rw [hS.1.2.2] at hhas
    have k := e_has hhas
    rw [hS.1.2.2, hS.2.2.2.2.2.2.2.1, hD.2.1 n_11 (by omega)] at htell
    have hp := hF.2 n_11 (by omega)
    rcases htell with ⟨c1t, rfl⟩ | ⟨c1t, rfl⟩ | ⟨c1t, rfl⟩ | ⟨c1t, rfl⟩ | ⟨c1t, rfl⟩ | ⟨c1t, rfl⟩ | ⟨c1t, rfl⟩ <;> rcases hd with ⟨c1d, rfl, rfl, rfl, rfl⟩ | ⟨c1d, c2d, c3d, n_6d, hn_6d, rfl, rfl, rfl, rfl⟩ | ⟨c1d, c2d, c3d, n_9d, hn_9d, rfl, rfl, rfl, rfl⟩ | ⟨c1d, c2d, c3d, n_12d, hn_12d, rfl, rfl, rfl, rfl⟩ | ⟨c1d, c2d, c3d, n_15d, hn_15d, rfl, rfl, rfl, rfl⟩ | ⟨c1d, c2d, c3d, n_18d, hn_18d, rfl, rfl, rfl, rfl⟩ | ⟨c1d, c2d, c3d, n_21d, hn_21d, rfl, rfl, rfl, rfl⟩ | ⟨c1d, c2d, c3d, rfl, rfl, rfl, rfl⟩ | ⟨c1d, c2d, rfl, rfl, rfl, rfl⟩
    all_goals first
      | (exfalso; omega)
      | (refine ⟨?_, rfl, rfl⟩; first
          | rfl
          | (obtain rfl : n_11 = n_6d := by omega
             exact hp.1.1)
          | (obtain rfl : n_11 = n_9d := by omega
             exact hp.1.2.1)
          | (obtain rfl : n_11 = n_12d := by omega
             exact hp.1.2.2.1)
          | (obtain rfl : n_11 = n_15d := by omega
             exact hp.1.2.2.2.1)
          | (obtain rfl : n_11 = n_18d := by omega
             exact hp.1.2.2.2.2.1)
          | (obtain rfl : n_11 = n_21d := by omega
             exact hp.1.2.2.2.2.2.1))
end
section
/-- a change within the nodes -/
theorem SIM.nd {x : Nat} {t0 t1 t2 : Int32} {B Z : AA} {R : RR} {A A' : AA} {pk : Int32} (h : SIM x t0 t1 t2 B R A pk) (hV : RIV A pk) (hZ : ∀ a, ¬ (x + 56 ≤ a ∧ a < x + 76) → Z a = B a) (hM : MEM x Z (A' 4)) (hG : REG x Z (A' 5) (A' 6) (A' 7)) (hN : ∀ m, m < 2 → NS x m Z (A' 8) (A' 9)) (hj : ∀ j, 10 ≤ j → A' j = A j) : SIM x t0 t1 t2 Z R A' pk := by
  obtain ⟨h1, ⟨pm, tk, h2, h3⟩, h4, h5, h6, h7⟩ := h
  refine ⟨h1, ⟨pm, tk, h2, h3.cg (fun a k1 k2 => hZ a (by omega)) (fun j k1 k2 => hj j (by omega)) hV.2.2 (fun i hi => (h2.2.2.2.2.1 i hi).1)⟩, hM, hG, hN, fun q' hq' => ?_⟩
  exact (h7 q' hq').cg (fun a k1 k2 => hZ a (by omega)) (AGR.of (fun j k1 _ => hj j k1)) (hV.c4 hq').1.2 (hV.c4 hq').2.2
theorem MEM.cg {x : Nat} {B Z : AA} {m : Nat → Int32} (h : MEM x B m) (hZ : ∀ n, n < 2 → Z (x + 57 + 10 * n) = B (x + 57 + 10 * n)) : MEM x Z m := fun n hn c hc => by rw [hZ n hn]; exact h n hn c hc
theorem REG.cg {x : Nat} {B Z : AA} {a b c : Nat → Int32} (h : REG x B a b c) (hZ : ∀ n, n < 2 → ∀ j, j < 6 → Z (x + 60 + 10 * n + j) = B (x + 60 + 10 * n + j)) : REG x Z a b c := fun n hn j hj => by rw [hZ n hn j hj]; exact h n hn j hj
theorem i_5t : (5 : Int32).toInt = 5 := by decide
theorem i_7t : (7 : Int32).toInt = 7 := by decide
theorem i_32t : (32 : Int32).toInt = 32 := by decide
theorem i_63t : (63 : Int32).toInt = 63 := by decide
theorem s_region {x : Nat} {G : Nat → Nat} {t0 t1 t2 : Int32} {B : AA} {R : RR} {A : AA} {pk cd p0 p1 p2 p3 p4 : Int32} (h : SIM x t0 t1 t2 B R A pk) (hV : RIV A pk) {Z : AA} (hc : C_X9_region G B R x p0 p1 p2 p3 p4 Z) {A' : AA} {cdz pkz : Int32} (hd : D_X10_region A cd pk p0 p1 p2 p3 p4 A' cdz pkz) : SIM x t0 t1 t2 Z R A' pk ∧ pkz = pk ∧ cdz = 0 := by
  have hh := h
  obtain ⟨hS, -, hM, hG, hN, -⟩ := hh
  have i1 := i_1t
  have i5 := i_5t
  have i7 := i_7t
  have i32 := i_32t
  rcases hc with ⟨c1, c2, c3, c4, c5, c6, x_15, ex_15, fx_15, c7, n_23, hn_23, n_29, hn_29, U_33, hF, hbecome, rfl⟩
  have k1 := hS.2.1 n_23 (by omega)
  rw [hS.1.1, k1.1, k1.2.2.1, k1.2.2.2.2 n_29 (by omega)] at hbecome
  rcases hbecome with ⟨B_2b, rfl, B_4b, rfl, B_6b, rfl, rfl⟩
  rcases hd with ⟨c1d, rfl, rfl, rfl⟩ | ⟨c1d, c2d, rfl, rfl, rfl⟩ | ⟨c1d, c2d, c3d, rfl, rfl, rfl⟩ | ⟨c1d, c2d, c3d, c4d, rfl, rfl, rfl⟩ | ⟨c1d, c2d, c3d, c4d, c5d, x_10d, ex_10d, fx_10d, c6d, x_13d, ex_13d, fx_13d, x_14d, ex_14d, fx_14d, n_17d, hn_17d, g_16d, rfl, g_18d, rfl, g_19d, rfl, rfl, rfl, rfl⟩ | ⟨c1d, c2d, c3d, c4d, c5d, x_10d, ex_10d, fx_10d, c6d, rfl, rfl, rfl⟩ | ⟨c1d, c2d, c3d, c4d, c5d, rfl, rfl, rfl⟩
  · omega
  · omega
  · omega
  · omega
  · refine ⟨SIM.nd h hV (fun a k => ?_) (hM.cg (fun n hn => ?_)) (fun n hn j hj => ?_) (fun m hm => ?_) (fun j hj => ?_), rfl, rfl⟩
    · rw [uA_u, uA_u, uA_n (by omega)]
    · rw [uA_u, uA_u, uA_n (by omega)]
    · simp only [uA_u, uA_s]
      show _ = upd (A 5) n_17d p2 (6 * n + j) ∧ _ = upd (A 6) n_17d p3 (6 * n + j) ∧ _ = upd (A 7) n_17d p4 (6 * n + j) ∧ 0 ≤ (upd (A 7) n_17d p4 (6 * n + j)).toInt ∧ (upd (A 7) n_17d p4 (6 * n + j)).toInt ≤ 7
      by_cases e : n = n_23 ∧ j = n_29
      · obtain ⟨rfl, rfl⟩ := e
        obtain rfl : n_17d = 6 * n + j := by omega
        rw [uA_s]
        refine ⟨?_, ?_, ?_, ?_, ?_⟩
        · rw [upd_n (by decide), upd_n (by decide), upd_s, upd_s]
        · rw [upd_n (by decide), upd_s, upd_s]
        · rw [upd_s, upd_s]
        · rw [upd_s]; omega
        · rw [upd_s]; omega
      · rw [uA_n (by omega), upd_n (by omega), upd_n (by omega), upd_n (by omega)]
        exact hG n hn j hj
    · exact (hN m hm).cg (by rw [uA_u, uA_u, uA_n (by omega)]) (by rw [uA_u, uA_u, uA_n (by omega)]) rfl (fun _ _ _ => rfl) (hV.1.2.1 m hm).2
    · rw [uA_n (by omega), uA_n (by omega), uA_n (by omega)]
  · omega
  · omega
theorem sx_region {x : Nat} {G : Nat → Nat} {t0 t1 t2 : Int32} {B : AA} {R : RR} {A : AA} {pk cd p0 p1 p2 p3 p4 : Int32} (h : SIM x t0 t1 t2 B R A pk) {En : String} (hc : X_X9_region G B R x p0 p1 p2 p3 p4 En) {A' : AA} {cdz pkz : Int32} (hd : D_X10_region A cd pk p0 p1 p2 p3 p4 A' cdz pkz) : SIM x t0 t1 t2 B R A' pk ∧ pkz = pk ∧ cdz = 1 ∧ En = IAE := by
  have i1 := i_1t
  have i5 := i_5t
  have i7 := i_7t
  have i32 := i_32t
  have e : (cdz = 1 ∧ A' = A ∧ pkz = pk) ∨ (0 ≤ p0.toInt ∧ p0.toInt ≤ 1 ∧ 0 ≤ p1.toInt ∧ p1.toInt ≤ 5 ∧ 0 ≤ p2.toInt ∧ 0 ≤ p3.toInt ∧ 0 ≤ p4.toInt ∧ p4.toInt ≤ 7 ∧ p2.toInt + p3.toInt ≤ 32) := by
    rcases hd with ⟨c1d, rfl, rfl, rfl⟩ | ⟨c1d, c2d, rfl, rfl, rfl⟩ | ⟨c1d, c2d, c3d, rfl, rfl, rfl⟩ | ⟨c1d, c2d, c3d, c4d, rfl, rfl, rfl⟩ | ⟨c1d, c2d, c3d, c4d, c5d, x_10d, ex_10d, fx_10d, c6d, x_13d, ex_13d, fx_13d, x_14d, ex_14d, fx_14d, n_17d, hn_17d, g_16d, rfl, g_18d, rfl, g_19d, rfl, rfl, rfl, rfl⟩ | ⟨c1d, c2d, c3d, c4d, c5d, x_10d, ex_10d, fx_10d, c6d, rfl, rfl, rfl⟩ | ⟨c1d, c2d, c3d, c4d, c5d, rfl, rfl, rfl⟩
    all_goals first
      | exact Or.inl ⟨rfl, by simp only [uA_ii], rfl⟩
      | (right; omega)
  rcases e with ⟨e1, e2, e3⟩ | e
  · subst e1 e2 e3
    refine ⟨h, rfl, rfl, ?_⟩
    rcases hc with ⟨c1, rfl⟩ | ⟨c1, c2, rfl⟩ | ⟨c1, c2, c3, rfl⟩ | ⟨c1, c2, c3, c4, rfl⟩ | ⟨c1, c2, c3, c4, c5, rfl⟩ | ⟨c1, c2, c3, c4, c5, c6, rfl⟩ | ⟨c1, c2, c3, c4, c5, c6, x_15, ex_15, fx_15, c7, rfl⟩ <;> rfl
  · exfalso
    rcases hc with ⟨c1, rfl⟩ | ⟨c1, c2, rfl⟩ | ⟨c1, c2, c3, rfl⟩ | ⟨c1, c2, c3, c4, rfl⟩ | ⟨c1, c2, c3, c4, c5, rfl⟩ | ⟨c1, c2, c3, c4, c5, c6, rfl⟩ | ⟨c1, c2, c3, c4, c5, c6, x_15, ex_15, fx_15, c7, rfl⟩ <;> omega
theorem s_store {x : Nat} {G : Nat → Nat} {t0 t1 t2 : Int32} {B : AA} {R : RR} {A : AA} {pk cd p0 p1 p2 : Int32} (h : SIM x t0 t1 t2 B R A pk) (hV : RIV A pk) {Z : AA} (hc : C_X9_store G B R x p0 p1 p2 Z) {A' : AA} {cdz pkz : Int32} (hd : D_X10_store A cd pk p0 p1 p2 A' cdz pkz) : SIM x t0 t1 t2 Z R A' pk ∧ pkz = pk ∧ cdz = 0 := by
  have hh := h
  obtain ⟨hS, -, hM, hG, hN, -⟩ := hh
  have i1 := i_1t
  have i31 := i_31t
  rcases hc with ⟨c1, c2, n_10, hn_10, U_14, hF, hput, rfl⟩
  have k1 := hS.2.1 n_10 (by omega)
  rw [hS.1.1, k1.1] at hput
  rcases hput with ⟨c1b, rfl⟩ | ⟨c1b, n_6b, hn_6b, B_7b, rfl, rfl⟩
  · omega
  rw [k1.2.1]
  rcases hd with ⟨c1d, rfl, rfl, rfl⟩ | ⟨c1d, c2d, x_3d, ex_3d, fx_3d, x_4d, ex_4d, fx_4d, n_7d, hn_7d, g_6d, rfl, rfl, rfl, rfl⟩ | ⟨c1d, c2d, rfl, rfl, rfl⟩
  · omega
  · refine ⟨SIM.nd h hV (fun a k => uA_n (by omega)) (fun n hn c hc => ?_) (hG.cg (fun n hn j hj => uA_n (by omega))) (fun m hm => ?_) (fun j hj => uA_n (by omega)), rfl, rfl⟩
    · show _ = upd (A 4) n_7d p2 (32 * n + c)
      by_cases e : n = n_10
      · subst e
        rw [uA_s]
        by_cases e2 : c = n_6b
        · subst e2
          obtain rfl : n_7d = 32 * n + c := by omega
          rw [upd_s, upd_s]
        · rw [upd_n e2, upd_n (by omega)]; exact hM n hn c hc
      · rw [uA_n (by omega), upd_n (by omega)]; exact hM n hn c hc
    · exact (hN m hm).cg (uA_n (by omega)) (uA_n (by omega)) rfl (fun _ _ _ => rfl) (hV.1.2.1 m hm).2
  · omega
theorem sx_store {x : Nat} {G : Nat → Nat} {t0 t1 t2 : Int32} {B : AA} {R : RR} {A : AA} {pk cd p0 p1 p2 : Int32} (h : SIM x t0 t1 t2 B R A pk) {En : String} (hc : X_X9_store G B R x p0 p1 p2 En) {A' : AA} {cdz pkz : Int32} (hd : D_X10_store A cd pk p0 p1 p2 A' cdz pkz) : SIM x t0 t1 t2 B R A' pk ∧ pkz = pk ∧ cdz = 1 ∧ En = IAE := by
  have i1 := i_1t
  have i31 := i_31t
  have e : (cdz = 1 ∧ A' = A ∧ pkz = pk) ∨ (0 ≤ p0.toInt ∧ p0.toInt ≤ 1 ∧ 0 ≤ p1.toInt ∧ p1.toInt ≤ 31) := by
    rcases hd with ⟨c1d, rfl, rfl, rfl⟩ | ⟨c1d, c2d, x_3d, ex_3d, fx_3d, x_4d, ex_4d, fx_4d, n_7d, hn_7d, g_6d, rfl, rfl, rfl, rfl⟩ | ⟨c1d, c2d, rfl, rfl, rfl⟩
    all_goals first
      | exact Or.inl ⟨rfl, by simp only [uA_ii], rfl⟩
      | (right; omega)
  rcases e with ⟨e1, e2, e3⟩ | e
  · subst e1 e2 e3
    refine ⟨h, rfl, rfl, ?_⟩
    rcases hc with ⟨c1, rfl⟩ | ⟨c1, c2, rfl⟩ <;> rfl
  · exfalso
    rcases hc with ⟨c1, rfl⟩ | ⟨c1, c2, rfl⟩ <;> omega
/-- agreement of the arrays where one pair's scalars and rows were written -/
theorem agr1 {q q' : Nat} {A A' : AA} (hne : q' ≠ q) (h1 : ∀ j, 10 ≤ j → j ≤ 39 → A' j = A j ∨ (∀ k, k ≠ q → A' j k = A j k) ∧ ¬ (22 ≤ j ∧ j ≤ 29) ∧ ¬ (32 ≤ j ∧ j ≤ 35) ∧ j ≤ 37 ∨ (∀ k, ¬ (4 * q ≤ k ∧ k < 4 * q + 4) → A' j k = A j k) ∧ ((22 ≤ j ∧ j ≤ 29) ∨ (32 ≤ j ∧ j ≤ 35)) ∨ (∀ k, ¬ (2 * q ≤ k ∧ k < 2 * q + 2) → A' j k = A j k) ∧ (j = 38 ∨ j = 39)) : AGR q' A A' := by
  refine ⟨fun j a b => ?_, fun j hj i hi => ?_, fun j hj i hi => ?_⟩
  · rcases h1 j a (by omega) with e | ⟨e, _⟩ | ⟨_, e⟩ | ⟨_, e⟩
    · exact Or.inl (by rw [e])
    · exact Or.inl (e q' hne)
    · exact Or.inr e
    · omega
  · rcases h1 j (by omega) (by omega) with e | ⟨_, e⟩ | ⟨e, _⟩ | ⟨_, e⟩
    · rw [e]
    · omega
    · exact e _ (by omega)
    · omega
  · rcases h1 j (by omega) (by omega) with e | ⟨_, e⟩ | ⟨_, e⟩ | ⟨e, _⟩
    · rw [e]
    · omega
    · omega
    · exact e _ (by omega)
theorem uA_3 {B : AA} {a b c : Nat} {f g h : Nat → Int32} (h1 : a ≠ b) (h2 : a ≠ c) : uA (uA (uA B a f) b g) c h a = f := by rw [uA_n h2, uA_n h1, uA_s]
/-- what posting does to a queue: row, queue, the rest -/
theorem e_append {G : Nat → Nat} {B : AA} {R : RR} {K : Nat} {a b c : Int32} {Z : AA} {r : Nat} (h : C_X5_append G B R K a b c Z r) (hne : ∀ r, C_X5_at G B R K (B K 4) r → r ≠ K) : C_X5_at G B R K (B K 4) r ∧ ∃ s' c' : Int32, s' = B K 5 + 1 ∧ c' = B K 4 + 1 ∧ c'.toInt = (B K 4).toInt + 1 ∧ Z K = upd (upd (B K) 5 s') 4 c' ∧ Z r = upd (upd (upd (upd (upd (B r) 0 a) 1 (B K 5)) 2 b) 3 c) 9 0 ∧ ∀ z, z ≠ r → z ≠ K → Z z = B z := by
  rcases h with ⟨r_3, hat, B_5, rfl, B_9, rfl, B_11, rfl, B_14, rfl, B_16, rfl, x_19, ex_19, B_20, rfl, x_23, ex_23, fx_23, B_25, rfl, rfl, rfl⟩
  have k := hne _ hat
  refine ⟨hat, x_19, x_23, ex_19, ex_23, fx_23, ?_, ?_, fun z h1 h2 => ?_⟩
  · simp only [uA_s, uA_u, uA_n (Ne.symm k)]
  · simp only [uA_s, uA_u, uA_n k]
  · simp only [uA_n h1, uA_n h2]
theorem nmb {n x : Int32} (h : 1 ≤ n.toInt ∧ n.toInt ≤ 12) (e : x = ((n + 4) - 1) / 4) : x.toInt = (n.toInt + 3) / 4 := by
  have a := s_add (x := n) (y := 4) (by rw [i_4]; omega) (by rw [i_4]; omega)
  rw [i_4] at a
  have b := s_sub (x := n + 4) (y := 1) (by rw [i_1, a]; omega) (by rw [i_1, a]; omega)
  rw [i_1, a] at b
  have c := s_div (x := n + 4 - 1) 4 (by decide) (by decide) (by rw [b]; omega)
  rw [b] at c
  rw [e]
  refine Eq.trans c ?_
  show (n.toInt + 4 - 1) / 4 = _
  rw [show n.toInt + 4 - 1 = n.toInt + 3 by omega]
theorem inc_dec (a : Int32) : a + 1 - 1 = a := by
  apply i32_eq
  simp only [Int32.toInt_sub, Int32.toInt_add, Int.bmod]
  have := s_bd a
  have h1 : (1 : Int32).toInt = 1 := by decide
  rw [h1]
  omega
theorem s_post {x q : Nat} {G : Nat → Nat} {t0 t1 t2 : Int32} {B : AA} {R : RR} {A : AA} {pk cd : Int32} (h : SIM x t0 t1 t2 B R A pk) (hV : RIV A pk) (hq : q < 4) (hst : (A 10 q).toInt = 1) (h4 : (A 20 q).toInt ≠ 4) {p kd he n rg pl va r r' cdz pkz : Int32} {Z A' : AA} (hp : (q : Int) = p.toInt) (hn : 1 ≤ n.toInt ∧ n.toInt ≤ 12) (hk : 0 ≤ kd.toInt ∧ kd.toInt ≤ 3) (hva : kd.toInt ≠ 3 → va = 0) (hc : C_X7_post G B R (x + 77 + 17 * q) kd he n rg pl va Z r) (hd : D_X10_post A cd pk p kd he n rg pl va A' cdz pkz r') : SIM x t0 t1 t2 Z R A' pk ∧ cdz = cd ∧ pkz = pk ∧ r = r' := by
  have hh := h
  obtain ⟨hS, -, -, -, hN, hPQ⟩ := hh
  obtain ⟨hC, hPS, hRQ, hRV, hAD⟩ := hPQ q hq
  have hc4 := (hV.c4 hq).1
  have hrg := ((hV.1.2.2.1 q hq).1 hst).rng
  obtain ⟨p1, p2, p3, p4, p5, p6, p7, p8, p9, p10⟩ := hPS
  have p2s := p2 hst
  obtain ⟨hd4, g1, g2, g3, g4, g5⟩ := hRQ
  have g3i := congrArg Int32.toInt g3
  rcases hc with ⟨r_5, U_6, hF, happend, B_10, rfl, x_11, ex_11, B_13, rfl, B_15, rfl, B_17, rfl, B_19, rfl, x_24, ex_24, B_25, rfl, eZ, rfl⟩
  rw [(hS.2.2.2.1 q hq).2.2] at happend
  obtain ⟨m, hm⟩ : ∃ m : Nat, (m : Int) = (A 20 q).toInt := ⟨_, Int.toNat_of_nonneg hc4.1⟩
  have hat : ∀ r, C_X5_at G B R (x + 78 + 17 * q) (B (x + 78 + 17 * q) 4) r → r = x + 80 + 17 * q + (hd4 + m) % 4 := fun r hr => e_atQ hS hq hr g2 (by omega)
  obtain ⟨a1, s', c', a2, a3, a4, a5, a6, a7⟩ := e_append happend (fun r hr => by rw [hat r hr]; omega)
  have er := hat _ a1
  subst er
  rcases hd with ⟨n_1d, hn_1d, x_2d, ex_2d, fx_2d, x_8d, ex_8d, fx_8d, n_11d, hn_11d, g_10d, rfl, g_12d, rfl, g_13d, rfl, g_14d, rfl, g_15d, rfl, g_16d, rfl, g_18d, rfl, g_20d, rfl, r_23d, hnumbersOfd, c1d, c2d, x_24d, ex_24d, fx_24d, x_25d, ex_25d, fx_25d, g_26d, rfl, x_28d, ex_28d, fx_28d, g_29d, rfl, x_31d, ex_31d, g_32d, rfl, x_34d, ex_34d, rfl, rfl, rfl, rfl⟩
  obtain rfl : n_1d = q := by omega
  obtain rfl : n_11d = 4 * n_1d + m := by omega
  have e11 := nmb hn ex_11
  have k2 := c2d (4 * n_1d + m) (by omega)
  have enb : NB (upd (A 24) (4 * n_1d + m) n) (4 * n_1d + m) = (n.toInt + 3) / 4 := by unfold NB; rw [upd_s]
  rw [enb] at k2
  have nK : x + 80 + 17 * n_1d + (hd4 + m) % 4 ≠ x + 78 + 17 * n_1d := by omega
  have nH : x + 80 + 17 * n_1d + (hd4 + m) % 4 ≠ x + 77 + 17 * n_1d := by omega
  have zK : Z (x + 78 + 17 * n_1d) = U_6 (x + 78 + 17 * n_1d) := by rw [eZ]; simp only [uA_u]; rw [uA_n (by omega), uA_n (Ne.symm nK)]
  have zR : Z (x + 80 + 17 * n_1d + (hd4 + m) % 4) = upd (upd (upd (upd (upd (U_6 (x + 80 + 17 * n_1d + (hd4 + m) % 4)) 4 (B (x + 77 + 17 * n_1d) 7)) 5 x_11) 6 rg) 7 pl) 8 va := by rw [eZ]; simp only [uA_u, uA_s]; rw [uA_n nH, uA_s]
  have zH : Z (x + 77 + 17 * n_1d) = upd (B (x + 77 + 17 * n_1d)) 7 x_24 := by rw [eZ]; simp only [uA_u, uA_s, uA_n (Ne.symm nH)]; rw [a7 _ (Ne.symm nH) (by omega)]
  have zO : ∀ a, a ≠ x + 80 + 17 * n_1d + (hd4 + m) % 4 → a ≠ x + 78 + 17 * n_1d → a ≠ x + 77 + 17 * n_1d → Z a = B a := fun a k1 k2 k3 => by rw [eZ]; simp only [uA_u]; rw [uA_n k3, uA_n k1, a7 a k1 k2]
  clear eZ
  rw [a6] at zR
  rw [a5] at zK
  have hm3 : m < 4 := by omega
  refine ⟨h.pr0 hV hq (fun a k => zO a (by omega) (by omega) (by omega)) ⟨?_, ?_, ?_, ?_, ?_⟩ (fun q' hne => agr1 hne (fun j k1 k2 => ?_)) (fun j k => ?_), rfl, rfl, ?_⟩
  · refine hC.cg (fun j hj => ?_) (by rw [zO _ (by omega) (by omega) (by omega)]) ?_ (by rw [zO _ (by omega) (by omega) (by omega)])
    · rw [zH, upd_n (by omega)]
    · rw [zK, upd_n (by decide), upd_n (by decide)]
  · unfold PS
    rw [zO (x + 84 + 17 * n_1d) (by omega) (by omega) (by omega), zO (x + 85 + 17 * n_1d) (by omega) (by omega) (by omega), zH]
    refine ⟨p1, fun _ => ⟨?_, ?_, ?_, p2s.2.2.2⟩, ⟨?_, ?_, ?_⟩, fun k => ?_, p5, p6, p7, p8, p9, p10⟩
    · show _ = upd (A 11) n_1d x_25d n_1d
      rw [upd_s, upd_s]
      apply i32_eq
      rw [ex_24, aft, p2s.1]
      omega
    · rw [upd_n (by decide)]; exact p2s.2.1
    · rw [upd_n (by decide)]; exact p2s.2.2.1
    · rw [upd_n (by decide)]; exact p3.1
    · rw [upd_n (by decide)]; exact p3.2.1
    · rw [upd_n (by decide)]; exact p3.2.2
    · rw [upd_n (by decide)]; exact p4 k
  · refine ⟨hd4, g1, ?_, ?_, ?_, fun i hi => ?_⟩
    · rw [zK, upd_n (by decide), upd_n (by decide)]; exact g2
    · show _ = upd (A 20) n_1d x_28d n_1d
      rw [zK, upd_s, upd_s, a3, ex_28d, g3]
    · show _ = upd (A 21) n_1d x_31d n_1d
      rw [zK, upd_n (by decide), upd_s, upd_s, a2, ex_31d, g4]
    · have hi : (i : Int) < (upd (A 20) n_1d x_28d n_1d).toInt := hi
      rw [upd_s] at hi
      by_cases e : i = m
      · subst e
        rw [zR]
        refine ⟨?_, ?_, ?_, ?_, ?_, ?_, ?_, ?_, ?_, ?_, ?_⟩
        · show _ = upd (A 22) _ kd _
          simp [upd]
        · show _ = upd (A 28) _ (A 21 n_1d) _
          rw [upd_s, ← g4]; simp [upd]
        · show _ = upd (A 23) _ he _
          simp [upd]
        · show _ = upd (A 24) _ n _
          simp [upd]
        · show _ = upd (A 29) _ (A 11 n_1d) _
          rw [upd_s, ← p2s.1]; simp [upd]
        · show _ = NB (upd (A 24) _ n) _
          rw [enb, ← e11]; simp [upd]
        · show _ = upd (A 25) _ rg _
          simp [upd]
        · show _ = upd (A 26) _ pl _
          simp [upd]
        · show _ = upd (A 27) _ va _
          simp [upd]
        · show (upd (A 22) _ kd _).toInt ≠ 3 → upd (A 27) _ va _ = 0
          rw [upd_s, upd_s]; exact hva
        · show 0 ≤ (upd (A 22) _ kd _).toInt ∧ (upd (A 22) _ kd _).toInt ≤ 3
          rw [upd_s]; exact hk
      · refine (g5 i (by omega)).cg (zO _ (by omega) (by omega) (by omega)) (fun j k1 k2 => ?_)
        rcases (show j = 22 ∨ j = 23 ∨ j = 24 ∨ j = 25 ∨ j = 26 ∨ j = 27 ∨ j = 28 ∨ j = 29 by omega) with rfl | rfl | rfl | rfl | rfl | rfl | rfl | rfl <;> exact upd_n (by omega)
  · exact hRV.cg (zO _ (by omega) (by omega) (by omega)) (fun i _ => zO _ (by omega) (by omega) (by omega)) rfl rfl (fun j k1 k2 i hi => by
      rcases (show j = 32 ∨ j = 33 ∨ j = 34 ∨ j = 35 by omega) with rfl | rfl | rfl | rfl <;> rfl) (hV.c4 hq).2.2
  · exact hAD.cg (zO _ (by omega) (by omega) (by omega)) (zO _ (by omega) (by omega) (by omega)) rfl (fun _ _ => rfl) (fun _ _ => rfl)
  · by_cases b1 : j = 11
    · subst b1; exact Or.inr (Or.inl ⟨fun k hk => upd_n hk, by omega, by omega, by omega⟩)
    by_cases b2 : j = 20
    · subst b2; exact Or.inr (Or.inl ⟨fun k hk => upd_n hk, by omega, by omega, by omega⟩)
    by_cases b3 : j = 21
    · subst b3; exact Or.inr (Or.inl ⟨fun k hk => upd_n hk, by omega, by omega, by omega⟩)
    by_cases b4 : 22 ≤ j ∧ j ≤ 29
    · refine Or.inr (Or.inr (Or.inl ⟨fun k hk => ?_, Or.inl b4⟩))
      rcases (show j = 22 ∨ j = 23 ∨ j = 24 ∨ j = 25 ∨ j = 26 ∨ j = 27 ∨ j = 28 ∨ j = 29 by omega) with rfl | rfl | rfl | rfl | rfl | rfl | rfl | rfl <;> exact upd_n (by omega)
    · refine Or.inl ?_
      rw [uA_n (by omega), uA_n (by omega), uA_n (by omega), uA_n (by omega), uA_n (by omega), uA_n (by omega), uA_n (by omega), uA_n (by omega), uA_n b3, uA_n b2, uA_n b1]
  · rw [uA_n (by omega), uA_n (by omega), uA_n (by omega), uA_n (by omega), uA_n (by omega), uA_n (by omega), uA_n (by omega), uA_n (by omega), uA_n (by omega), uA_n (by omega), uA_n (by omega)]
  · rw [a6, ex_34d, ex_31d, inc_dec, ← g4]; simp [upd]
end
section
theorem e_takesQ {x q : Nat} {G : Nat → Nat} {B : AA} {R : RR} {r : Int32} (hS : SHX x R) (hq : q < 4) (h : C_X3_takesRequests G B R (x + 84 + 17 * q) r) : (r.toInt = 0 ∧ ¬ ((B (x + 84 + 17 * q) 2).toInt = 1 ∧ (B (x + 78 + 17 * q) 4).toInt ≠ 4)) ∨ (r.toInt = 1 ∧ (B (x + 84 + 17 * q) 2).toInt = 1 ∧ (B (x + 78 + 17 * q) 4).toInt ≠ 4) := by
  rcases h with ⟨c1, rfl⟩ | ⟨c1, r_7, hisFull, c2, rfl⟩ | ⟨c1, r_7, hisFull, c2, rfl⟩
  · exact Or.inl ⟨by decide, by omega⟩
  · rw [(hS.2.2.1 q hq).2.1, (hS.2.2.2.1 q hq).2.2] at hisFull
    rcases hisFull with ⟨c1a, rfl⟩ | ⟨c1a, rfl⟩
    · exact absurd i_0 c2
    · exact Or.inl ⟨by decide, by omega⟩
  · rw [(hS.2.2.1 q hq).2.1, (hS.2.2.2.1 q hq).2.2] at hisFull
    rcases hisFull with ⟨c1a, rfl⟩ | ⟨c1a, rfl⟩
    · exact Or.inr ⟨by decide, by omega, by omega⟩
    · exact absurd c2 (by decide)
theorem e_takesV {x q : Nat} {G : Nat → Nat} {B : AA} {R : RR} {r : Int32} (hS : SHX x R) (hq : q < 4) (h : C_X3_takesReceives G B R (x + 84 + 17 * q) r) : (r.toInt = 0 ∧ ¬ ((B (x + 84 + 17 * q) 2).toInt ≠ 2 ∧ (B (x + 88 + 17 * q) 4).toInt ≠ 4)) ∨ (r.toInt = 1 ∧ (B (x + 84 + 17 * q) 2).toInt ≠ 2 ∧ (B (x + 88 + 17 * q) 4).toInt ≠ 4) := by
  rcases h with ⟨c1, rfl⟩ | ⟨c1, r_7, hisFull, c2, rfl⟩ | ⟨c1, r_7, hisFull, c2, rfl⟩
  · exact Or.inl ⟨by decide, by omega⟩
  · rw [(hS.2.2.1 q hq).2.2, (hS.2.2.2.2.2.1 q hq).2.2.1] at hisFull
    rcases hisFull with ⟨c1a, rfl⟩ | ⟨c1a, rfl⟩
    · exact absurd i_0 c2
    · exact Or.inl ⟨by decide, by omega⟩
  · rw [(hS.2.2.1 q hq).2.2, (hS.2.2.2.2.2.1 q hq).2.2.1] at hisFull
    rcases hisFull with ⟨c1a, rfl⟩ | ⟨c1a, rfl⟩
    · exact Or.inr ⟨by decide, by omega, by omega⟩
    · exact absurd c2 (by decide)
theorem r_cells {A : AA} {cd pk p0 p1 p2 r : Int32} (h : D_X10_cellsGood A cd pk p0 p1 p2 r) : (r.toInt = 0 ∧ ¬ (0 ≤ p0.toInt ∧ p0.toInt ≤ 3 ∧ 1 ≤ p2.toInt ∧ p2.toInt ≤ 12 ∧ 0 ≤ p1.toInt ∧ p1.toInt ≤ 32 - p2.toInt)) ∨ (r.toInt = 1 ∧ 0 ≤ p0.toInt ∧ p0.toInt ≤ 3 ∧ 1 ≤ p2.toInt ∧ p2.toInt ≤ 12 ∧ 0 ≤ p1.toInt ∧ p1.toInt ≤ 32 - p2.toInt) := by
  have i3 := i_3t
  rcases h with ⟨c1, rfl⟩ | ⟨c1, c2, rfl⟩ | ⟨c1, c2, c3, rfl⟩ | ⟨c1, c2, c3, c4, rfl⟩ | ⟨c1, c2, c3, c4, x_5, ex_5, fx_5, c5, rfl⟩ | ⟨c1, c2, c3, c4, x_5, ex_5, fx_5, c5, rfl⟩
  all_goals first
    | exact Or.inl ⟨by decide, by omega⟩
    | exact Or.inr ⟨by decide, by omega⟩
theorem r_full {A : AA} {cd pk p r : Int32} {n : Nat} (h : D_X10_full A cd pk p r) (hn : (n : Int) = p.toInt) : (r.toInt = 0 ∧ (A 10 n).toInt = 1 ∧ (A 20 n).toInt ≠ 4) ∨ (r.toInt = 1 ∧ ¬ ((A 10 n).toInt = 1 ∧ (A 20 n).toInt ≠ 4)) := by
  rcases h with ⟨n_3, hn_3, c1, rfl⟩ | ⟨n_3, hn_3, c1, c2, rfl⟩ | ⟨n_3, hn_3, c1, c2, rfl⟩
  all_goals
    obtain rfl : n_3 = n := by omega
    first
      | exact Or.inl ⟨by decide, by omega⟩
      | exact Or.inr ⟨by decide, by omega⟩
theorem r_fail {A : AA} {cd pk p : Int32} {Z : AA} {cdz pkz r : Int32} (h : D_X10_fail A cd pk p Z cdz pkz r) : cdz = p := by
  rcases h with ⟨rfl, rfl, rfl, rfl⟩
  rfl
theorem r_send {A : AA} {cd pk p0 p1 p2 : Int32} {A' : AA} {cdz pkz r : Int32} (h : D_X10_send A cd pk p0 p1 p2 A' cdz pkz r) : pkz = pk ∧ ((¬ (0 ≤ p0.toInt ∧ p0.toInt ≤ 3 ∧ 1 ≤ p2.toInt ∧ p2.toInt ≤ 12 ∧ 0 ≤ p1.toInt ∧ p1.toInt ≤ 32 - p2.toInt) ∧ cdz = 1 ∧ A' = A) ∨ ((0 ≤ p0.toInt ∧ p0.toInt ≤ 3 ∧ 1 ≤ p2.toInt ∧ p2.toInt ≤ 12 ∧ 0 ≤ p1.toInt ∧ p1.toInt ≤ 32 - p2.toInt) ∧ ∃ n : Nat, (n : Int) = p0.toInt ∧ ((¬ ((A 10 n).toInt = 1 ∧ (A 20 n).toInt ≠ 4) ∧ cdz = 2 ∧ A' = A) ∨ ((A 10 n).toInt = 1 ∧ (A 20 n).toInt ≠ 4 ∧ cdz = 0 ∧ ((True ∧ D_X10_post A 0 pk p0 0 p1 p2 (-1) (-1) 0 A' 0 pk r)))))) := by
  have i5 := i_5t
  have i31 := i_31t
  have i1 := i_1t
  rcases h with ⟨r_1, hcellsGood, er_1, c1, r_3, hfull, er_3, c2, n_4, hn_4, c3, ur_6, r_6, hpost, c4, c5, c6, rfl, rfl, rfl, rfl⟩ | ⟨r_1, hcellsGood, er_1, c1, r_3, hfull, er_3, c2, n_4, hn_4, c3, ur_7, r_7, hfail, eur_7, rfl, rfl, rfl, rfl⟩ | ⟨r_1, hcellsGood, er_1, c1, ur_8, r_8, hfail, eur_8, rfl, rfl, rfl, rfl⟩
  all_goals
    refine ⟨rfl, ?_⟩
    have kc := r_cells hcellsGood
    first
      | (left; exact ⟨by omega, r_fail hfail, by simp only [uA_ii]⟩)
      | (right
         refine ⟨by omega, n_4, by assumption, ?_⟩
         have kf := r_full hfull (by assumption)
         first
           | (left; exact ⟨by omega, r_fail hfail, by simp only [uA_ii]⟩)
           | (right
              refine ⟨by omega, by omega, rfl, ?_⟩
              first
                | exact ⟨trivial, hpost⟩
                | exact Or.inl ⟨by assumption, hpost⟩
                | exact Or.inr ⟨by assumption, hpost⟩))
theorem s_sendC {x : Nat} {G : Nat → Nat} {t0 t1 t2 : Int32} {B : AA} {R : RR} {A : AA} {pk cd p0 p1 p2 : Int32} (h : SIM x t0 t1 t2 B R A pk) (hV : RIV A pk) {Z : AA} {r : Int32} (hc : C_X9_send G B R x p0 p1 p2 Z r) {A' : AA} {cdz pkz r' : Int32} (hd : D_X10_send A cd pk p0 p1 p2 A' cdz pkz r') : SIM x t0 t1 t2 Z R A' pk ∧ pkz = pk ∧ cdz = 0 ∧ r = r' := by
  have hh := h
  obtain ⟨hS, -, -, -, -, hP⟩ := hh
  obtain ⟨e1, e2⟩ := r_send hd
  have i1 := i_1t
  rcases hc with ⟨c1, c2, n_10, hn_10, r_13, htakesRequests, c3, r_22, U_23, hF, hpost, rfl, rfl⟩
  · have hq : n_10 < 4 := by omega
    rw [hS.1.2.1, (hS.2.2.1 _ hq).1] at htakesRequests hpost
    rw [(hS.2.2.1 _ hq).2.1] at hpost
    have kt := e_takesQ hS hq htakesRequests
    have k1 := congrArg Int32.toInt (hP _ hq).2.1.1
    obtain ⟨_, _, _, k3, _⟩ := (hP _ hq).2.2.1
    have k3 := congrArg Int32.toInt k3
    rcases e2 with ⟨e3, -⟩ | ⟨e3, n, hn, ⟨e4, -⟩ | ⟨e4, e5, e6, e7⟩⟩
    · exact absurd (by omega) e3
    · obtain rfl : n = n_10 := by omega
      exact absurd (by omega) e4
    · obtain rfl : n = n_10 := by omega
      skip
      obtain ⟨a, b, c, d⟩ := s_post h hV hq e4 e5 hn (by omega) (by decide) (by intro _; rfl) hpost e7.2
      exact ⟨a, e1, e6, d⟩
theorem sx_sendC {x : Nat} {G : Nat → Nat} {t0 t1 t2 : Int32} {B : AA} {R : RR} {A : AA} {pk cd p0 p1 p2 : Int32} (h : SIM x t0 t1 t2 B R A pk) {En : String} (hc : X_X9_send G B R x p0 p1 p2 En) {A' : AA} {cdz pkz r' : Int32} (hd : D_X10_send A cd pk p0 p1 p2 A' cdz pkz r') : SIM x t0 t1 t2 B R A' pk ∧ pkz = pk ∧ ((En = IAE ∧ cdz = 1) ∨ (En = ISE ∧ cdz = 2)) := by
  have hh := h
  obtain ⟨hS, -, -, -, -, hP⟩ := hh
  obtain ⟨e1, e2⟩ := r_send hd
  have i1 := i_1t
  rcases hc with ⟨c1, rfl⟩ | ⟨c1, c2, rfl⟩ | ⟨c1, c2, n_10, hn_10, r_13, htakesRequests, c3, rfl⟩
  all_goals first
    | (rcases e2 with ⟨e3, e4, rfl⟩ | ⟨e3, _⟩
       · exact ⟨h, e1, Or.inl ⟨rfl, e4⟩⟩
       · exfalso; omega)
    | (have hq : n_10 < 4 := by omega
       rw [hS.1.2.1, (hS.2.2.1 _ hq).1] at htakesRequests
       have kt := e_takesQ hS hq htakesRequests
       have k1 := congrArg Int32.toInt (hP _ hq).2.1.1
       obtain ⟨_, _, _, k3, _⟩ := (hP _ hq).2.2.1
       have k3 := congrArg Int32.toInt k3
       rcases e2 with ⟨e3, -⟩ | ⟨e3, n, hn, ⟨e4, e5, rfl⟩ | ⟨e4, e5, e6, e7⟩⟩
       · exact absurd (by omega) e3
       · exact ⟨h, e1, Or.inr ⟨rfl, e5⟩⟩
       · obtain rfl : n = n_10 := by omega
         exfalso; omega)
theorem r_move {A : AA} {cd pk p0 p1 p2 p3 p4 p5 : Int32} {A' : AA} {cdz pkz r : Int32} (h : D_X10_move A cd pk p0 p1 p2 p3 p4 p5 A' cdz pkz r) : pkz = pk ∧ ((¬ (0 ≤ p0.toInt ∧ p0.toInt ≤ 3 ∧ 1 ≤ p3.toInt ∧ p3.toInt ≤ 12 ∧ 0 ≤ p2.toInt ∧ p2.toInt ≤ 32 - p3.toInt ∧ 0 ≤ p4.toInt ∧ p4.toInt ≤ 5 ∧ 0 ≤ p5.toInt ∧ p5.toInt ≤ 31) ∧ cdz = 1 ∧ A' = A) ∨ ((0 ≤ p0.toInt ∧ p0.toInt ≤ 3 ∧ 1 ≤ p3.toInt ∧ p3.toInt ≤ 12 ∧ 0 ≤ p2.toInt ∧ p2.toInt ≤ 32 - p3.toInt ∧ 0 ≤ p4.toInt ∧ p4.toInt ≤ 5 ∧ 0 ≤ p5.toInt ∧ p5.toInt ≤ 31) ∧ ∃ n : Nat, (n : Int) = p0.toInt ∧ ((¬ ((A 10 n).toInt = 1 ∧ (A 20 n).toInt ≠ 4) ∧ cdz = 2 ∧ A' = A) ∨ ((A 10 n).toInt = 1 ∧ (A 20 n).toInt ≠ 4 ∧ cdz = 0 ∧ ((p1.toInt = 0 ∧ D_X10_post A 0 pk p0 1 p2 p3 p4 p5 0 A' 0 pk r) ∨ (¬ p1.toInt = 0 ∧ D_X10_post A 0 pk p0 2 p2 p3 p4 p5 0 A' 0 pk r)))))) := by
  have i5 := i_5t
  have i31 := i_31t
  have i1 := i_1t
  rcases h with ⟨r_1, hcellsGood, er_1, c1, ur_3, r_3, hfail, eur_3, rfl, rfl, rfl, rfl⟩ | ⟨r_1, hcellsGood, er_1, c1, c2, ur_5, r_5, hfail, eur_5, rfl, rfl, rfl, rfl⟩ | ⟨r_1, hcellsGood, er_1, c1, c2, c3, r_7, hfull, er_7, c4, n_8, hn_8, c5, c6, ur_11, r_11, hpost, c7, c8, c9, rfl, rfl, rfl, rfl⟩ | ⟨r_1, hcellsGood, er_1, c1, c2, c3, r_7, hfull, er_7, c4, n_8, hn_8, c5, c6, ur_12, r_12, hpost, c7, c8, c9, rfl, rfl, rfl, rfl⟩ | ⟨r_1, hcellsGood, er_1, c1, c2, c3, r_7, hfull, er_7, c4, n_8, hn_8, c5, ur_13, r_13, hfail, eur_13, rfl, rfl, rfl, rfl⟩ | ⟨r_1, hcellsGood, er_1, c1, c2, c3, ur_14, r_14, hfail, eur_14, rfl, rfl, rfl, rfl⟩
  all_goals
    refine ⟨rfl, ?_⟩
    have kc := r_cells hcellsGood
    first
      | (left; exact ⟨by omega, r_fail hfail, by simp only [uA_ii]⟩)
      | (right
         refine ⟨by omega, n_8, by assumption, ?_⟩
         have kf := r_full hfull (by assumption)
         first
           | (left; exact ⟨by omega, r_fail hfail, by simp only [uA_ii]⟩)
           | (right
              refine ⟨by omega, by omega, rfl, ?_⟩
              first
                | exact ⟨trivial, hpost⟩
                | exact Or.inl ⟨by assumption, hpost⟩
                | exact Or.inr ⟨by assumption, hpost⟩))
theorem s_moveC {x : Nat} {G : Nat → Nat} {t0 t1 t2 : Int32} {B : AA} {R : RR} {A : AA} {pk cd p0 p1 p2 p3 p4 p5 : Int32} (h : SIM x t0 t1 t2 B R A pk) (hV : RIV A pk) {Z : AA} {r : Int32} (hc : C_X9_move G B R x p0 p1 p2 p3 p4 p5 Z r) {A' : AA} {cdz pkz r' : Int32} (hd : D_X10_move A cd pk p0 p1 p2 p3 p4 p5 A' cdz pkz r') : SIM x t0 t1 t2 Z R A' pk ∧ pkz = pk ∧ cdz = 0 ∧ r = r' := by
  have hh := h
  obtain ⟨hS, -, -, -, -, hP⟩ := hh
  obtain ⟨e1, e2⟩ := r_move hd
  have i1 := i_1t
  rcases hc with ⟨c1, c2, c3, c4, n_14, hn_14, r_17, htakesRequests, c5, c6, r_27, U_28, hF, hpost, rfl, rfl⟩ | ⟨c1, c2, c3, c4, n_14, hn_14, r_17, htakesRequests, c5, c6, r_32, U_33, hF, hpost, rfl, rfl⟩
  · have hq : n_14 < 4 := by omega
    rw [hS.1.2.1, (hS.2.2.1 _ hq).1] at htakesRequests hpost
    rw [(hS.2.2.1 _ hq).2.1] at hpost
    have kt := e_takesQ hS hq htakesRequests
    have k1 := congrArg Int32.toInt (hP _ hq).2.1.1
    obtain ⟨_, _, _, k3, _⟩ := (hP _ hq).2.2.1
    have k3 := congrArg Int32.toInt k3
    rcases e2 with ⟨e3, -⟩ | ⟨e3, n, hn, ⟨e4, -⟩ | ⟨e4, e5, e6, e7⟩⟩
    · exact absurd (by omega) e3
    · obtain rfl : n = n_14 := by omega
      exact absurd (by omega) e4
    · obtain rfl : n = n_14 := by omega
      have e7 := e7.resolve_right (fun k => by omega)
      obtain ⟨a, b, c, d⟩ := s_post h hV hq e4 e5 hn (by omega) (by decide) (by intro _; rfl) hpost e7.2
      exact ⟨a, e1, e6, d⟩
  · have hq : n_14 < 4 := by omega
    rw [hS.1.2.1, (hS.2.2.1 _ hq).1] at htakesRequests hpost
    rw [(hS.2.2.1 _ hq).2.1] at hpost
    have kt := e_takesQ hS hq htakesRequests
    have k1 := congrArg Int32.toInt (hP _ hq).2.1.1
    obtain ⟨_, _, _, k3, _⟩ := (hP _ hq).2.2.1
    have k3 := congrArg Int32.toInt k3
    rcases e2 with ⟨e3, -⟩ | ⟨e3, n, hn, ⟨e4, -⟩ | ⟨e4, e5, e6, e7⟩⟩
    · exact absurd (by omega) e3
    · obtain rfl : n = n_14 := by omega
      exact absurd (by omega) e4
    · obtain rfl : n = n_14 := by omega
      have e7 := e7.resolve_left (fun k => by omega)
      obtain ⟨a, b, c, d⟩ := s_post h hV hq e4 e5 hn (by omega) (by decide) (by intro _; rfl) hpost e7.2
      exact ⟨a, e1, e6, d⟩
theorem sx_moveC {x : Nat} {G : Nat → Nat} {t0 t1 t2 : Int32} {B : AA} {R : RR} {A : AA} {pk cd p0 p1 p2 p3 p4 p5 : Int32} (h : SIM x t0 t1 t2 B R A pk) {En : String} (hc : X_X9_move G B R x p0 p1 p2 p3 p4 p5 En) {A' : AA} {cdz pkz r' : Int32} (hd : D_X10_move A cd pk p0 p1 p2 p3 p4 p5 A' cdz pkz r') : SIM x t0 t1 t2 B R A' pk ∧ pkz = pk ∧ ((En = IAE ∧ cdz = 1) ∨ (En = ISE ∧ cdz = 2)) := by
  have hh := h
  obtain ⟨hS, -, -, -, -, hP⟩ := hh
  obtain ⟨e1, e2⟩ := r_move hd
  have i1 := i_1t
  rcases hc with ⟨c1, rfl⟩ | ⟨c1, c2, rfl⟩ | ⟨c1, c2, c3, rfl⟩ | ⟨c1, c2, c3, c4, rfl⟩ | ⟨c1, c2, c3, c4, n_14, hn_14, r_17, htakesRequests, c5, rfl⟩
  all_goals first
    | (rcases e2 with ⟨e3, e4, rfl⟩ | ⟨e3, _⟩
       · exact ⟨h, e1, Or.inl ⟨rfl, e4⟩⟩
       · exfalso; omega)
    | (have hq : n_14 < 4 := by omega
       rw [hS.1.2.1, (hS.2.2.1 _ hq).1] at htakesRequests
       have kt := e_takesQ hS hq htakesRequests
       have k1 := congrArg Int32.toInt (hP _ hq).2.1.1
       obtain ⟨_, _, _, k3, _⟩ := (hP _ hq).2.2.1
       have k3 := congrArg Int32.toInt k3
       rcases e2 with ⟨e3, -⟩ | ⟨e3, n, hn, ⟨e4, e5, rfl⟩ | ⟨e4, e5, e6, e7⟩⟩
       · exact absurd (by omega) e3
       · exact ⟨h, e1, Or.inr ⟨rfl, e5⟩⟩
       · obtain rfl : n = n_14 := by omega
         exfalso; omega)
theorem r_add {A : AA} {cd pk p0 p1 p2 p3 p4 : Int32} {A' : AA} {cdz pkz r : Int32} (h : D_X10_add A cd pk p0 p1 p2 p3 p4 A' cdz pkz r) : pkz = pk ∧ ((¬ (0 ≤ p0.toInt ∧ p0.toInt ≤ 3 ∧ 1 ≤ (1 : Int32).toInt ∧ (1 : Int32).toInt ≤ 12 ∧ 0 ≤ p1.toInt ∧ p1.toInt ≤ 32 - (1 : Int32).toInt ∧ 0 ≤ p2.toInt ∧ p2.toInt ≤ 5 ∧ 0 ≤ p3.toInt ∧ p3.toInt ≤ 31) ∧ cdz = 1 ∧ A' = A) ∨ ((0 ≤ p0.toInt ∧ p0.toInt ≤ 3 ∧ 1 ≤ (1 : Int32).toInt ∧ (1 : Int32).toInt ≤ 12 ∧ 0 ≤ p1.toInt ∧ p1.toInt ≤ 32 - (1 : Int32).toInt ∧ 0 ≤ p2.toInt ∧ p2.toInt ≤ 5 ∧ 0 ≤ p3.toInt ∧ p3.toInt ≤ 31) ∧ ∃ n : Nat, (n : Int) = p0.toInt ∧ ((¬ ((A 10 n).toInt = 1 ∧ (A 20 n).toInt ≠ 4) ∧ cdz = 2 ∧ A' = A) ∨ ((A 10 n).toInt = 1 ∧ (A 20 n).toInt ≠ 4 ∧ cdz = 0 ∧ ((True ∧ D_X10_post A 0 pk p0 3 p1 1 p2 p3 p4 A' 0 pk r)))))) := by
  have i5 := i_5t
  have i31 := i_31t
  have i1 := i_1t
  rcases h with ⟨r_1, hcellsGood, er_1, c1, ur_3, r_3, hfail, eur_3, rfl, rfl, rfl, rfl⟩ | ⟨r_1, hcellsGood, er_1, c1, c2, ur_5, r_5, hfail, eur_5, rfl, rfl, rfl, rfl⟩ | ⟨r_1, hcellsGood, er_1, c1, c2, c3, r_7, hfull, er_7, c4, n_8, hn_8, c5, ur_10, r_10, hpost, c6, c7, c8, rfl, rfl, rfl, rfl⟩ | ⟨r_1, hcellsGood, er_1, c1, c2, c3, r_7, hfull, er_7, c4, n_8, hn_8, c5, ur_11, r_11, hfail, eur_11, rfl, rfl, rfl, rfl⟩ | ⟨r_1, hcellsGood, er_1, c1, c2, c3, ur_12, r_12, hfail, eur_12, rfl, rfl, rfl, rfl⟩
  all_goals
    refine ⟨rfl, ?_⟩
    have kc := r_cells hcellsGood
    first
      | (left; exact ⟨by omega, r_fail hfail, by simp only [uA_ii]⟩)
      | (right
         refine ⟨by omega, n_8, by assumption, ?_⟩
         have kf := r_full hfull (by assumption)
         first
           | (left; exact ⟨by omega, r_fail hfail, by simp only [uA_ii]⟩)
           | (right
              refine ⟨by omega, by omega, rfl, ?_⟩
              first
                | exact ⟨trivial, hpost⟩
                | exact Or.inl ⟨by assumption, hpost⟩
                | exact Or.inr ⟨by assumption, hpost⟩))
theorem s_addC {x : Nat} {G : Nat → Nat} {t0 t1 t2 : Int32} {B : AA} {R : RR} {A : AA} {pk cd p0 p1 p2 p3 p4 : Int32} (h : SIM x t0 t1 t2 B R A pk) (hV : RIV A pk) {Z : AA} {r : Int32} (hc : C_X9_add G B R x p0 p1 p2 p3 p4 Z r) {A' : AA} {cdz pkz r' : Int32} (hd : D_X10_add A cd pk p0 p1 p2 p3 p4 A' cdz pkz r') : SIM x t0 t1 t2 Z R A' pk ∧ pkz = pk ∧ cdz = 0 ∧ r = r' := by
  have hh := h
  obtain ⟨hS, -, -, -, -, hP⟩ := hh
  obtain ⟨e1, e2⟩ := r_add hd
  have i1 := i_1t
  rcases hc with ⟨c1, c2, c3, c4, n_14, hn_14, r_17, htakesRequests, c5, r_26, U_27, hF, hpost, rfl, rfl⟩
  · have hq : n_14 < 4 := by omega
    rw [hS.1.2.1, (hS.2.2.1 _ hq).1] at htakesRequests hpost
    rw [(hS.2.2.1 _ hq).2.1] at hpost
    have kt := e_takesQ hS hq htakesRequests
    have k1 := congrArg Int32.toInt (hP _ hq).2.1.1
    obtain ⟨_, _, _, k3, _⟩ := (hP _ hq).2.2.1
    have k3 := congrArg Int32.toInt k3
    rcases e2 with ⟨e3, -⟩ | ⟨e3, n, hn, ⟨e4, -⟩ | ⟨e4, e5, e6, e7⟩⟩
    · exact absurd (by omega) e3
    · obtain rfl : n = n_14 := by omega
      exact absurd (by omega) e4
    · obtain rfl : n = n_14 := by omega
      skip
      obtain ⟨a, b, c, d⟩ := s_post h hV hq e4 e5 hn (by omega) (by decide) (by intro k; exact absurd i_3t k) hpost e7.2
      exact ⟨a, e1, e6, d⟩
theorem sx_addC {x : Nat} {G : Nat → Nat} {t0 t1 t2 : Int32} {B : AA} {R : RR} {A : AA} {pk cd p0 p1 p2 p3 p4 : Int32} (h : SIM x t0 t1 t2 B R A pk) {En : String} (hc : X_X9_add G B R x p0 p1 p2 p3 p4 En) {A' : AA} {cdz pkz r' : Int32} (hd : D_X10_add A cd pk p0 p1 p2 p3 p4 A' cdz pkz r') : SIM x t0 t1 t2 B R A' pk ∧ pkz = pk ∧ ((En = IAE ∧ cdz = 1) ∨ (En = ISE ∧ cdz = 2)) := by
  have hh := h
  obtain ⟨hS, -, -, -, -, hP⟩ := hh
  obtain ⟨e1, e2⟩ := r_add hd
  have i1 := i_1t
  rcases hc with ⟨c1, rfl⟩ | ⟨c1, c2, rfl⟩ | ⟨c1, c2, c3, rfl⟩ | ⟨c1, c2, c3, c4, rfl⟩ | ⟨c1, c2, c3, c4, n_14, hn_14, r_17, htakesRequests, c5, rfl⟩
  all_goals first
    | (rcases e2 with ⟨e3, e4, rfl⟩ | ⟨e3, _⟩
       · exact ⟨h, e1, Or.inl ⟨rfl, e4⟩⟩
       · exfalso; omega)
    | (have hq : n_14 < 4 := by omega
       rw [hS.1.2.1, (hS.2.2.1 _ hq).1] at htakesRequests
       have kt := e_takesQ hS hq htakesRequests
       have k1 := congrArg Int32.toInt (hP _ hq).2.1.1
       obtain ⟨_, _, _, k3, _⟩ := (hP _ hq).2.2.1
       have k3 := congrArg Int32.toInt k3
       rcases e2 with ⟨e3, -⟩ | ⟨e3, n, hn, ⟨e4, e5, rfl⟩ | ⟨e4, e5, e6, e7⟩⟩
       · exact absurd (by omega) e3
       · exact ⟨h, e1, Or.inr ⟨rfl, e5⟩⟩
       · obtain rfl : n = n_14 := by omega
         exfalso; omega)
end
section
theorem r_receive {A : AA} {cd pk p0 p1 p2 : Int32} {A' : AA} {cdz pkz r : Int32} (h : D_X10_receive A cd pk p0 p1 p2 A' cdz pkz r) : pkz = pk ∧ ((¬ (0 ≤ p0.toInt ∧ p0.toInt ≤ 3 ∧ 1 ≤ p2.toInt ∧ p2.toInt ≤ 12 ∧ 0 ≤ p1.toInt ∧ p1.toInt ≤ 32 - p2.toInt) ∧ cdz = 1 ∧ A' = A) ∨ ((0 ≤ p0.toInt ∧ p0.toInt ≤ 3 ∧ 1 ≤ p2.toInt ∧ p2.toInt ≤ 12 ∧ 0 ≤ p1.toInt ∧ p1.toInt ≤ 32 - p2.toInt) ∧ ∃ n : Nat, (n : Int) = p0.toInt ∧ ((¬ ((A 10 n).toInt ≠ 2 ∧ (A 30 n).toInt ≠ 4) ∧ cdz = 2 ∧ A' = A) ∨ ((A 10 n).toInt ≠ 2 ∧ (A 30 n).toInt ≠ 4 ∧ cdz = 0 ∧ r = A 31 n ∧ ∃ (m : Nat) (c : Int32), (m : Int) = 4 * (n : Int) + (A 30 n).toInt ∧ c = A 30 n + 1 ∧ c.toInt = (A 30 n).toInt + 1 ∧ A' = uA (uA (uA (uA (uA (uA A 30 (upd (A 30) n c)) 31 (upd (A 31) n (A 31 n + 1))) 32 (upd (A 32) m p1)) 33 (upd (A 33) m p2)) 34 (upd (A 34) m (A 31 n))) 35 (upd (A 35) m 0))))) := by
  rcases h with ⟨r_1, hcellsGood, er_1, c1, n_5, hn_5, c2, ur_7, r_7, hfail, eur_7, rfl, rfl, rfl, rfl⟩ | ⟨r_1, hcellsGood, er_1, c1, n_5, hn_5, c2, c3, x_13, ex_13, fx_13, x_15, ex_15, fx_15, n_18, hn_18, g_17, rfl, g_19, rfl, g_21, rfl, g_22, rfl, x_24, ex_24, fx_24, g_25, rfl, x_27, ex_27, g_28, rfl, x_30, ex_30, rfl, rfl, rfl, rfl⟩ | ⟨r_1, hcellsGood, er_1, c1, n_5, hn_5, c2, c3, ur_33, r_33, hfail, eur_33, rfl, rfl, rfl, rfl⟩ | ⟨r_1, hcellsGood, er_1, c1, ur_34, r_34, hfail, eur_34, rfl, rfl, rfl, rfl⟩
  all_goals
    refine ⟨rfl, ?_⟩
    have kc := r_cells hcellsGood
  · right; exact ⟨by omega, n_5, hn_5, Or.inl ⟨by omega, r_fail hfail, by simp only [uA_ii]⟩⟩
  · right
    subst ex_27
    refine ⟨by omega, n_5, hn_5, Or.inr ⟨by omega, by omega, rfl, by rw [ex_30, inc_dec], n_18, x_24, by omega, ex_24, fx_24, rfl⟩⟩
  · right; exact ⟨by omega, n_5, hn_5, Or.inl ⟨by omega, r_fail hfail, by simp only [uA_ii]⟩⟩
  · left; exact ⟨by omega, r_fail hfail, by simp only [uA_ii]⟩
theorem s_receiveC {x : Nat} {G : Nat → Nat} {t0 t1 t2 : Int32} {B : AA} {R : RR} {A : AA} {pk cd p0 p1 p2 : Int32} (h : SIM x t0 t1 t2 B R A pk) (hV : RIV A pk) {Z : AA} {r : Int32} (hc : C_X9_receive G B R x p0 p1 p2 Z r) {A' : AA} {cdz pkz r' : Int32} (hd : D_X10_receive A cd pk p0 p1 p2 A' cdz pkz r') : SIM x t0 t1 t2 Z R A' pk ∧ pkz = pk ∧ cdz = 0 ∧ r = r' := by
  have hh := h
  obtain ⟨hS, -, -, -, -, hP⟩ := hh
  obtain ⟨e1, e2⟩ := r_receive hd
  rcases hc with ⟨c1, c2, n_10, hn_10, r_13, htakesReceives, c3, r_23, U_24, hF, happend, rfl, rfl⟩
  have hq : n_10 < 4 := by omega
  rw [hS.1.2.1, (hS.2.2.1 _ hq).1] at htakesReceives happend
  rw [(hS.2.2.1 _ hq).2.2, (hS.2.2.2.2.2.1 _ hq).2.2.1] at happend
  have kt := e_takesV hS hq htakesReceives
  obtain ⟨hC, hPS, hRQ, hRV, hAD⟩ := hP _ hq
  have k1 := congrArg Int32.toInt hPS.1
  obtain ⟨hd4, g1, g2, g3, g4, g5⟩ := hRV
  have k3 := congrArg Int32.toInt g3
  have hc4 := (hV.c4 hq).2
  rcases e2 with ⟨e3, -⟩ | ⟨e3, n, hn, ⟨e4, -⟩ | ⟨e4, e5, e6, e7, m, c, b1, b2, b3, rfl⟩⟩
  · exact absurd (by omega) e3
  · obtain rfl : n = n_10 := by omega
    exact absurd (by omega) e4
  · obtain rfl : n = n_10 := by omega
    obtain ⟨i0, hi0⟩ : ∃ i0 : Nat, (i0 : Int) = (A 30 n).toInt := ⟨_, Int.toNat_of_nonneg hc4.1⟩
    obtain rfl : m = 4 * n + i0 := by omega
    have hat : ∀ r, C_X5_at G B R (x + 88 + 17 * n) (B (x + 88 + 17 * n) 4) r → r = x + 90 + 17 * n + (hd4 + i0) % 4 := fun r hr => e_atV hS hq hr g2 (by omega)
    obtain ⟨a1, s', c', a2, a3, a4, a5, a6, a7⟩ := e_append happend (fun r hr => by rw [hat r hr]; omega)
    have er := hat _ a1
    subst er
    refine ⟨h.pr0 hV hq (fun a k => a7 a (by omega) (by omega)) ⟨?_, ?_, ?_, ?_, ?_⟩ (fun q' hne => agr1 hne (fun j k1 k2 => ?_)) (fun j k => ?_), e1, e6, ?_⟩
    · refine hC.cg (fun j hj => by rw [a7 _ (by omega) (by omega)]) (by rw [a7 _ (by omega) (by omega)]) (by rw [a7 _ (by omega) (by omega)]) ?_
      rw [a5, upd_n (by decide), upd_n (by decide)]
    · exact hPS.cg (a7 _ (by omega) (by omega)) (a7 _ (by omega) (by omega)) (a7 _ (by omega) (by omega)) (fun j hj => by rw [uA_n (by omega), uA_n (by omega), uA_n (by omega), uA_n (by omega), uA_n (by omega), uA_n (by omega)])
    · exact hRQ.cg (a7 _ (by omega) (by omega)) (fun i _ => a7 _ (by omega) (by omega)) rfl rfl (fun j k1 k2 i hi => by rw [uA_n (by omega), uA_n (by omega), uA_n (by omega), uA_n (by omega), uA_n (by omega), uA_n (by omega)]) (hV.c4 hq).1.2
    · refine ⟨hd4, g1, ?_, ?_, ?_, fun i hi => ?_⟩
      · rw [a5, upd_n (by decide), upd_n (by decide)]; exact g2
      · show _ = upd (A 30) n c n
        rw [a5, upd_s, upd_s, a3, b2, g3]
      · show _ = upd (A 31) n (A 31 n + 1) n
        rw [a5, upd_n (by decide), upd_s, upd_s, a2, g4]
      · have hi : (i : Int) < (upd (A 30) n c n).toInt := hi
        rw [upd_s] at hi
        by_cases e : i = i0
        · subst e
          rw [a6]
          refine ⟨?_, ?_, ?_, ?_, ?_⟩
          · simp [upd]
          · show _ = upd (A 34) _ (A 31 n) _
            rw [upd_s, ← g4]; simp [upd]
          · show _ = upd (A 32) _ p1 _
            simp [upd]
          · show _ = upd (A 33) _ p2 _
            simp [upd]
          · show _ = upd (A 35) _ 0 _
            simp [upd]
        · refine (g5 i (by omega)).cg (a7 _ (by omega) (by omega)) (fun j k1 k2 => ?_)
          rcases (show j = 32 ∨ j = 33 ∨ j = 34 ∨ j = 35 by omega) with rfl | rfl | rfl | rfl <;> exact upd_n (by omega)
    · exact hAD.cg (a7 _ (by omega) (by omega)) (a7 _ (by omega) (by omega)) rfl (fun _ _ => rfl) (fun _ _ => rfl)
    · by_cases b1 : j = 30
      · subst b1; exact Or.inr (Or.inl ⟨fun k hk => upd_n hk, by omega, by omega, by omega⟩)
      by_cases b2 : j = 31
      · subst b2; exact Or.inr (Or.inl ⟨fun k hk => upd_n hk, by omega, by omega, by omega⟩)
      by_cases b4 : 32 ≤ j ∧ j ≤ 35
      · refine Or.inr (Or.inr (Or.inl ⟨fun k hk => ?_, Or.inr b4⟩))
        rcases (show j = 32 ∨ j = 33 ∨ j = 34 ∨ j = 35 by omega) with rfl | rfl | rfl | rfl <;> exact upd_n (by omega)
      · refine Or.inl ?_
        rw [uA_n (by omega), uA_n (by omega), uA_n (by omega), uA_n (by omega), uA_n b2, uA_n b1]
    · rw [uA_n (by omega), uA_n (by omega), uA_n (by omega), uA_n (by omega), uA_n (by omega), uA_n (by omega)]
    · rw [a6, e7, ← g4]; simp [upd]
theorem sx_receiveC {x : Nat} {G : Nat → Nat} {t0 t1 t2 : Int32} {B : AA} {R : RR} {A : AA} {pk cd p0 p1 p2 : Int32} (h : SIM x t0 t1 t2 B R A pk) {En : String} (hc : X_X9_receive G B R x p0 p1 p2 En) {A' : AA} {cdz pkz r' : Int32} (hd : D_X10_receive A cd pk p0 p1 p2 A' cdz pkz r') : SIM x t0 t1 t2 B R A' pk ∧ pkz = pk ∧ ((En = IAE ∧ cdz = 1) ∨ (En = ISE ∧ cdz = 2)) := by
  have hh := h
  obtain ⟨hS, -, -, -, -, hP⟩ := hh
  obtain ⟨e1, e2⟩ := r_receive hd
  rcases hc with ⟨c1, rfl⟩ | ⟨c1, c2, rfl⟩ | ⟨c1, c2, n_10, hn_10, r_13, htakesReceives, c3, rfl⟩
  all_goals first
    | (rcases e2 with ⟨e3, e4, rfl⟩ | ⟨e3, _⟩
       · exact ⟨h, e1, Or.inl ⟨rfl, e4⟩⟩
       · exfalso; omega)
    | (have hq : n_10 < 4 := by omega
       rw [hS.1.2.1, (hS.2.2.1 _ hq).1] at htakesReceives
       have kt := e_takesV hS hq htakesReceives
       have k1 := congrArg Int32.toInt (hP _ hq).2.1.1
       obtain ⟨_, _, _, k3, _⟩ := (hP _ hq).2.2.2.1
       have k3 := congrArg Int32.toInt k3
       rcases e2 with ⟨e3, -⟩ | ⟨e3, n, hn, ⟨e4, e5, rfl⟩ | ⟨e4, e5, e6, e7⟩⟩
       · exact absurd (by omega) e3
       · exact ⟨h, e1, Or.inr ⟨rfl, e5⟩⟩
       · obtain rfl : n = n_10 := by omega
         exfalso; omega)
/-- ready -/
theorem s_readyC {x : Nat} {G : Nat → Nat} {t0 t1 t2 : Int32} {B : AA} {R : RR} {A : AA} {pk cd p0 p1 p2 : Int32} (h : SIM x t0 t1 t2 B R A pk) (hV : RIV A pk) {Z : AA} (hc : C_X9_ready G B R x p0 p1 p2 Z) {A' : AA} {cdz pkz : Int32} (hd : D_X10_ready A cd pk p0 p1 p2 A' cdz pkz) : SIM x t0 t1 t2 Z R A' pk ∧ pkz = pk ∧ cdz = 0 := by
  have hh := h
  obtain ⟨hS, -, -, -, -, hP⟩ := hh
  have i3 := i_3t
  have i63 := i_63t
  rcases hc with ⟨c1, c2, c3, n_12, hn_12, c4, U_22, hF, hstart, eZ⟩
  have hq : n_12 < 4 := by omega
  rw [hS.1.2.1, (hS.2.2.1 _ hq).1] at hstart c4
  rcases hstart with ⟨B_2a, rfl, U_7a, hFa, hstarta, B_11a, rfl, rfl⟩
  rw [(hS.2.2.1 _ hq).2.1] at hstarta
  rw [(hS.2.2.1 _ hq).2.2] at eZ
  rcases hstarta with ⟨B_2b, rfl, B_4b, rfl, B_6b, rfl, rfl⟩
  obtain ⟨hC, hPS, hRQ, hRV, hAD⟩ := hP _ hq
  have k1 := congrArg Int32.toInt hPS.1
  rcases hd with ⟨c1d, rfl, rfl, rfl⟩ | ⟨c1d, c2d, rfl, rfl, rfl⟩ | ⟨c1d, c2d, c3d, n_8d, hn_8d, c4d, g_11d, rfl, g_12d, rfl, g_13d, rfl, g_14d, rfl, g_15d, rfl, rfl, rfl, rfl⟩ | ⟨c1d, c2d, c3d, n_8d, hn_8d, c4d, rfl, rfl, rfl⟩ | ⟨c1d, c2d, c3d, rfl, rfl, rfl⟩
  · omega
  · omega
  · obtain rfl : n_8d = n_12 := by omega
    simp only [uA_u, uA_s] at eZ
    have zO : ∀ a, a ≠ x + 84 + 17 * n_8d → a ≠ x + 77 + 17 * n_8d → a ≠ x + 85 + 17 * n_8d → Z a = B a := fun a k1 k2 k3 => by rw [eZ, uA_n k3, uA_n k2, uA_n k1]
    have zP : Z (x + 84 + 17 * n_8d) = upd (B (x + 84 + 17 * n_8d)) 2 1 := by rw [eZ, uA_n (by omega), uA_n (by omega), uA_s]
    have zH : Z (x + 77 + 17 * n_8d) = upd (upd (upd (B (x + 77 + 17 * n_8d)) 7 p1) 8 p1) 9 p1 := by rw [eZ, uA_n (by omega), uA_s, uA_n (by omega)]
    have zS : Z (x + 85 + 17 * n_8d) = upd (B (x + 85 + 17 * n_8d)) 4 p2 := by rw [eZ, uA_s, uA_n (by omega), uA_n (by omega)]
    clear eZ
    obtain ⟨p1', p2', p3, p4, p5, p6, p7, p8, p9, p10⟩ := hPS
    refine ⟨h.pr0 hV hq (fun a k => zO a (by omega) (by omega) (by omega)) ⟨?_, ?_, ?_, ?_, ?_⟩ (fun q' hne => agr1 hne (fun j k1 k2 => ?_)) (fun j k => ?_), rfl, rfl⟩
    · refine hC.cg (fun j hj => by rw [zH, upd_n (by omega), upd_n (by omega), upd_n (by omega)]) (by rw [zS, upd_n (by decide)]) (by rw [zO _ (by omega) (by omega) (by omega)]) (by rw [zO _ (by omega) (by omega) (by omega)])
    · unfold PS
      rw [zP, zH, zS]
      refine ⟨?_, fun _ => ⟨?_, ?_, ?_, ?_⟩, ?_, fun _ => ?_, ?_, ?_, ?_, p8, p9, p10⟩
      · show _ = upd (A 10) n_8d 1 n_8d
        rw [upd_s, upd_s]
      · show _ = upd (A 11) n_8d p1 n_8d
        simp [upd]
      · show _ = upd (A 12) n_8d p1 n_8d
        simp [upd]
      · show _ = upd (A 13) n_8d p1 n_8d
        simp [upd]
      · show _ = upd (A 14) n_8d p2 n_8d
        simp [upd]
      · refine ⟨?_, ?_, ?_⟩
        · rw [upd_n (by decide), upd_n (by decide), upd_n (by decide)]; exact p3.1
        · rw [upd_n (by decide), upd_n (by decide), upd_n (by decide)]; exact p3.2.1
        · rw [upd_n (by decide), upd_n (by decide), upd_n (by decide)]; exact p3.2.2
      · rw [upd_n (by decide), upd_n (by decide), upd_n (by decide)]; exact p4 (by omega)
      · rw [upd_n (by decide), upd_n (by decide)]; exact p5
      · show 0 ≤ (upd (A 14) n_8d p2 n_8d).toInt ∧ (upd (A 14) n_8d p2 n_8d).toInt ≤ 63
        rw [upd_s]; omega
      · show 0 ≤ (upd (A 10) n_8d 1 n_8d).toInt ∧ (upd (A 10) n_8d 1 n_8d).toInt ≤ 2
        rw [upd_s]; decide
    · exact hRQ.cg (zO _ (by omega) (by omega) (by omega)) (fun i _ => zO _ (by omega) (by omega) (by omega)) rfl rfl (fun j k1 k2 i hi => by rw [uA_n (by omega), uA_n (by omega), uA_n (by omega), uA_n (by omega), uA_n (by omega)]) (hV.c4 hq).1.2
    · exact hRV.cg (zO _ (by omega) (by omega) (by omega)) (fun i _ => zO _ (by omega) (by omega) (by omega)) rfl rfl (fun j k1 k2 i hi => by rw [uA_n (by omega), uA_n (by omega), uA_n (by omega), uA_n (by omega), uA_n (by omega)]) (hV.c4 hq).2.2
    · exact hAD.cg (zO _ (by omega) (by omega) (by omega)) (zO _ (by omega) (by omega) (by omega)) rfl (fun _ _ => rfl) (fun _ _ => rfl)
    · by_cases b : 10 ≤ j ∧ j ≤ 14
      · refine Or.inr (Or.inl ⟨fun k hk => ?_, by omega, by omega, by omega⟩)
        rcases (show j = 10 ∨ j = 11 ∨ j = 12 ∨ j = 13 ∨ j = 14 by omega) with rfl | rfl | rfl | rfl | rfl <;> exact upd_n hk
      · refine Or.inl ?_
        rw [uA_n (by omega), uA_n (by omega), uA_n (by omega), uA_n (by omega), uA_n (by omega)]
    · rw [uA_n (by omega), uA_n (by omega), uA_n (by omega), uA_n (by omega), uA_n (by omega)]
  · obtain rfl : n_8d = n_12 := by omega
    omega
  · omega
theorem sx_readyC {x : Nat} {G : Nat → Nat} {t0 t1 t2 : Int32} {B : AA} {R : RR} {A : AA} {pk cd p0 p1 p2 : Int32} (h : SIM x t0 t1 t2 B R A pk) {En : String} (hc : X_X9_ready G B R x p0 p1 p2 En) {A' : AA} {cdz pkz : Int32} (hd : D_X10_ready A cd pk p0 p1 p2 A' cdz pkz) : SIM x t0 t1 t2 B R A' pk ∧ pkz = pk ∧ ((En = IAE ∧ cdz = 1) ∨ (En = ISE ∧ cdz = 2)) := by
  have hh := h
  obtain ⟨hS, -, -, -, -, hP⟩ := hh
  have i3 := i_3t
  have i63 := i_63t
  have e : (A' = A ∧ pkz = pk ∧ ((cdz = 1 ∧ ¬ (0 ≤ p0.toInt ∧ p0.toInt ≤ 3 ∧ 0 ≤ p1.toInt ∧ p1.toInt ≤ 63 ∧ 0 ≤ p2.toInt ∧ p2.toInt ≤ 63)) ∨ (cdz = 2 ∧ (0 ≤ p0.toInt ∧ p0.toInt ≤ 3 ∧ 0 ≤ p1.toInt ∧ p1.toInt ≤ 63 ∧ 0 ≤ p2.toInt ∧ p2.toInt ≤ 63)))) ∨ ((0 ≤ p0.toInt ∧ p0.toInt ≤ 3 ∧ 0 ≤ p1.toInt ∧ p1.toInt ≤ 63 ∧ 0 ≤ p2.toInt ∧ p2.toInt ≤ 63) ∧ ∃ n : Nat, (n : Int) = p0.toInt ∧ (A 10 n).toInt = 0) := by
    rcases hd with ⟨c1d, rfl, rfl, rfl⟩ | ⟨c1d, c2d, rfl, rfl, rfl⟩ | ⟨c1d, c2d, c3d, n_8d, hn_8d, c4d, g_11d, rfl, g_12d, rfl, g_13d, rfl, g_14d, rfl, g_15d, rfl, rfl, rfl, rfl⟩ | ⟨c1d, c2d, c3d, n_8d, hn_8d, c4d, rfl, rfl, rfl⟩ | ⟨c1d, c2d, c3d, rfl, rfl, rfl⟩
    · exact Or.inl ⟨by simp only [uA_ii], rfl, Or.inl ⟨rfl, by omega⟩⟩
    · exact Or.inl ⟨by simp only [uA_ii], rfl, Or.inl ⟨rfl, by omega⟩⟩
    · exact Or.inr ⟨by omega, n_8d, hn_8d, c4d⟩
    · exact Or.inl ⟨by simp only [uA_ii], rfl, Or.inr ⟨rfl, by omega⟩⟩
    · exact Or.inl ⟨by simp only [uA_ii], rfl, Or.inl ⟨rfl, by omega⟩⟩
  rcases hc with ⟨c1, rfl⟩ | ⟨c1, c2, rfl⟩ | ⟨c1, c2, c3, rfl⟩ | ⟨c1, c2, c3, n_12, hn_12, c4, rfl⟩
  · rcases e with ⟨rfl, rfl, ⟨e1, e2⟩ | ⟨e1, e2⟩⟩ | ⟨e1, e2⟩
    · exact ⟨h, rfl, Or.inl ⟨rfl, e1⟩⟩
    · exfalso; omega
    · exfalso; omega
  · rcases e with ⟨rfl, rfl, ⟨e1, e2⟩ | ⟨e1, e2⟩⟩ | ⟨e1, e2⟩
    · exact ⟨h, rfl, Or.inl ⟨rfl, e1⟩⟩
    · exfalso; omega
    · exfalso; omega
  · rcases e with ⟨rfl, rfl, ⟨e1, e2⟩ | ⟨e1, e2⟩⟩ | ⟨e1, e2⟩
    · exact ⟨h, rfl, Or.inl ⟨rfl, e1⟩⟩
    · exfalso; omega
    · exfalso; omega
  · have hq : n_12 < 4 := by omega
    rw [hS.1.2.1, (hS.2.2.1 _ hq).1] at c4
    have k1 := congrArg Int32.toInt (hP _ hq).2.1.1
    rcases e with ⟨rfl, rfl, ⟨e1, e2⟩ | ⟨e1, e2⟩⟩ | ⟨e1, n, hn, e2⟩
    · exfalso; omega
    · exact ⟨h, rfl, Or.inr ⟨rfl, e1⟩⟩
    · obtain rfl : n = n_12 := by omega
      exfalso; omega
end
section
theorem e_clearQ {G : Nat → Nat} {B : AA} {R : RR} {K : Nat} {Z : AA} (h : C_X5_clear G B R K Z) : Z = uA B K (upd (upd (upd (B K) 3 0) 4 0) 5 0) := by
  rcases h with ⟨B_3, rfl, B_6, rfl, B_8, rfl, rfl⟩
  simp only [uA_u, uA_s]
theorem e_start {G : Nat → Nat} {B : AA} {R : RR} {K : Nat} {p : Int32} {Z : AA} (h : C_X7_start G B R K p Z) : Z = uA B K (upd (upd (upd (B K) 7 p) 8 p) 9 p) := by
  rcases h with ⟨B_2, rfl, B_4, rfl, B_6, rfl, rfl⟩
  simp only [uA_u, uA_s]
theorem e_forget {G : Nat → Nat} {B : AA} {R : RR} {K : Nat} {Z : AA} (h : C_X8_forgetAdds G B R K Z) (hne : R K 7 ≠ R K 8) : Z (R K 7) = upd (upd (B (R K 7)) 0 (-1)) 1 (-1) ∧ ∀ a, a ≠ R K 7 → a ≠ R K 8 → Z a = B a := by
  rcases h with ⟨B_5, rfl, B_9, rfl, B_13, rfl, B_16, rfl, rfl⟩
  refine ⟨?_, fun a h1 h2 => ?_⟩
  · simp only [uA_u, uA_s, uA_n hne]
  · simp only [uA_n h1, uA_n h2]
/-- reset -/
theorem s_resetC {x : Nat} {G : Nat → Nat} {t0 t1 t2 : Int32} (ht : 2 ≤ t0.toInt) {B : AA} {R : RR} {A : AA} {pk cd p0 : Int32} (h : SIM x t0 t1 t2 B R A pk) (hV : RIV A pk) {Z : AA} {r : Int32} (hc : C_X9_reset G B R x p0 Z r) {A' : AA} {cdz pkz r' : Int32} (hd : D_X10_reset A cd pk p0 A' cdz pkz r') : SIM x t0 t1 t2 Z R A' pk ∧ pkz = pk ∧ r = r' := by
  have hh := h
  obtain ⟨hS, -, -, -, -, hP⟩ := hh
  have i3 := i_3t
  have i0 := i_0
  rcases hc with ⟨c1, n_6, hn_6, U_10, hF, hclear, eZ, rfl⟩ | ⟨c1, eZ, rfl⟩
  · have hq : n_6 < 4 := by omega
    rw [hS.1.2.1, (hS.2.2.1 _ hq).1] at hclear
    rcases hclear with ⟨B_2a, rfl, U_7a, hFa, hcleara, U_12a, hFa_1, hcleara_1, rfl⟩
    rw [(hS.2.2.1 _ hq).2.1] at hcleara
    rw [(hS.2.2.1 _ hq).2.2] at hcleara_1
    rcases hcleara with ⟨U_5b, hFb, hclearb, U_8b, hFb_1, hstartb, B_10b, rfl, B_12b, rfl, B_14b, rfl, B_16b, rfl, rfl⟩
    rcases hcleara_1 with ⟨U_5c, hFc, hclearc, B_7c, rfl, B_9c, rfl, B_11c, rfl, U_14c, hFc_1, hforgetAddsc, rfl⟩
    have b1 := e_clearQ hclearb
    have b2 := e_start hstartb
    rw [(hS.2.2.2.1 _ hq).2.2] at b1
    have c1' := e_clearQ hclearc
    rw [(hS.2.2.2.2.2.1 _ hq).2.2.1] at c1'
    have s8 := (hS.2.2.2.2.2.1 _ hq).2.2.2
    obtain ⟨f1, f2⟩ := e_forget hforgetAddsc (by rw [s8.1, s8.2]; omega)
    rw [s8.1, s8.2] at f2
    rw [s8.1] at f1
    subst b1 b2 c1'
    obtain ⟨hC, hPS, hRQ, hRV, hAD⟩ := hP _ hq
    rcases hd with ⟨c1d, n_4d, hn_4d, g_3d, rfl, g_5d, rfl, g_6d, rfl, g_7d, rfl, g_8d, rfl, g_9d, rfl, g_10d, rfl, g_11d, rfl, g_12d, rfl, g_13d, rfl, g_14d, rfl, g_15d, rfl, rfl, rfl, rfl, rfl⟩ | ⟨c1d, rfl, rfl, rfl, rfl⟩
    · obtain rfl : n_4d = n_6 := by omega
      have zO : ∀ a, a ≠ x + 84 + 17 * n_4d → a ≠ x + 77 + 17 * n_4d → a ≠ x + 78 + 17 * n_4d → a ≠ x + 85 + 17 * n_4d → a ≠ x + 86 + 17 * n_4d → a ≠ x + 87 + 17 * n_4d → a ≠ x + 88 + 17 * n_4d → Z a = B a := fun a k1 k2 k3 k4 k5 k6 k7 => by rw [eZ, f2 a k5 k6]; simp only [uA_u]; rw [uA_n k4, uA_n k7, uA_n k2, uA_n k3, uA_n k1]
      have zP : Z (x + 84 + 17 * n_4d) = upd (B (x + 84 + 17 * n_4d)) 2 0 := by rw [eZ, f2 _ (by omega) (by omega)]; simp only [uA_u]; rw [uA_n (by omega), uA_n (by omega), uA_n (by omega), uA_n (by omega), uA_s]
      have zH : Z (x + 77 + 17 * n_4d) = upd (upd (upd (upd (upd (upd (upd (B (x + 77 + 17 * n_4d)) 7 0) 8 0) 9 0) 10 0) 11 0) 12 0) 13 0 := by rw [eZ, f2 _ (by omega) (by omega)]; simp only [uA_u, uA_s]; rw [uA_n (by omega), uA_n (by omega), uA_s, uA_n (by omega), uA_n (by omega)]
      have zK : Z (x + 78 + 17 * n_4d) = upd (upd (upd (B (x + 78 + 17 * n_4d)) 3 0) 4 0) 5 0 := by rw [eZ, f2 _ (by omega) (by omega)]; simp only [uA_u]; rw [uA_n (by omega), uA_n (by omega), uA_n (by omega), uA_s, uA_n (by omega)]
      have zS : Z (x + 85 + 17 * n_4d) = upd (upd (upd (B (x + 85 + 17 * n_4d)) 4 0) 5 0) 6 0 := by rw [eZ, f2 _ (by omega) (by omega)]; simp only [uA_u, uA_s]; rw [uA_n (by omega), uA_n (by omega), uA_n (by omega), uA_n (by omega)]
      have zV : Z (x + 88 + 17 * n_4d) = upd (upd (upd (B (x + 88 + 17 * n_4d)) 3 0) 4 0) 5 0 := by rw [eZ, f2 _ (by omega) (by omega)]; simp only [uA_u]; rw [uA_n (by omega), uA_s, uA_n (by omega), uA_n (by omega), uA_n (by omega)]
      have z86 : ∀ i, i < 2 → Z (x + 86 + 17 * n_4d) i = -1 := fun i hi => by
        rw [eZ, f1]
        rcases (show i = 0 ∨ i = 1 by omega) with rfl | rfl
        · rw [upd_n (by decide), upd_s]
        · rw [upd_s]
      clear eZ f1 f2
      obtain ⟨p1', p2', p3, p4, p5, p6, p7, p8, p9, p10⟩ := hPS
      refine ⟨h.pr0 hV hq (fun a k => zO a (by omega) (by omega) (by omega) (by omega) (by omega) (by omega) (by omega)) ⟨?_, ?_, ?_, ?_, ?_⟩ (fun q' hne => agr1 hne (fun j k1 k2 => ?_)) (fun j k => ?_), rfl, rfl⟩
      · refine hC.cg (fun j hj => by rw [zH, upd_n (by omega), upd_n (by omega), upd_n (by omega), upd_n (by omega), upd_n (by omega), upd_n (by omega), upd_n (by omega)]) (by rw [zS, upd_n (by decide), upd_n (by decide), upd_n (by decide)]) (by rw [zK, upd_n (by decide), upd_n (by decide), upd_n (by decide)]) (by rw [zV, upd_n (by decide), upd_n (by decide), upd_n (by decide)])
      · unfold PS
        rw [zP, zH, zS]
        refine ⟨?_, fun k => ?_, ⟨?_, ?_, ?_⟩, fun _ => ⟨?_, ?_⟩, ⟨?_, ?_⟩, p6, ?_, ?_, ?_, ?_⟩
        · show _ = upd (A 10) n_4d 0 n_4d
          rw [upd_s, upd_s]
        · have k : (upd (A 10) n_4d 0 n_4d).toInt = 1 := k
          rw [upd_s] at k
          exact absurd k (by decide)
        · show _ = upd (A 15) n_4d 0 n_4d
          simp [upd]
        · show _ = upd (A 16) n_4d 0 n_4d
          simp [upd]
        · show _ = upd (A 17) n_4d 0 n_4d
          simp [upd]
        · show _ = upd (A 18) n_4d 0 n_4d
          simp [upd]
        · show TIM t0 (upd (A 18) n_4d 0 n_4d) (upd (A 15) n_4d 0 n_4d)
          rw [upd_s, upd_s]
          exact ⟨fun _ => by omega, fun _ => by omega⟩
        · show _ = upd (A 19) n_4d 0 n_4d
          simp [upd]
        · show _ = upd (A 36) n_4d 0 n_4d
          simp [upd]
        · show 0 ≤ (upd (A 10) n_4d 0 n_4d).toInt ∧ (upd (A 10) n_4d 0 n_4d).toInt ≤ 2
          rw [upd_s]; decide
        · show B01 (upd (A 18) n_4d 0 n_4d)
          rw [upd_s]; exact Or.inl rfl
        · show B01 (upd (A 19) n_4d 0 n_4d)
          rw [upd_s]; exact Or.inl rfl
        · show B01 (upd (A 36) n_4d 0 n_4d)
          rw [upd_s]; exact Or.inl rfl
      · refine ⟨0, by omega, ?_, ?_, ?_, fun i hi => ?_⟩
        · rw [zK, upd_n (by decide), upd_n (by decide), upd_s]; decide
        · show _ = upd (A 20) n_4d 0 n_4d
          rw [zK, upd_n (by decide), upd_s, upd_s]
        · show _ = upd (A 21) n_4d 0 n_4d
          rw [zK, upd_s, upd_s]
        · have hi : (i : Int) < (upd (A 20) n_4d 0 n_4d).toInt := hi
          rw [upd_s] at hi
          omega
      · refine ⟨0, by omega, ?_, ?_, ?_, fun i hi => ?_⟩
        · rw [zV, upd_n (by decide), upd_n (by decide), upd_s]; decide
        · show _ = upd (A 30) n_4d 0 n_4d
          rw [zV, upd_n (by decide), upd_s, upd_s]
        · show _ = upd (A 31) n_4d 0 n_4d
          rw [zV, upd_s, upd_s]
        · have hi : (i : Int) < (upd (A 30) n_4d 0 n_4d).toInt := hi
          rw [upd_s] at hi
          omega
      · refine ⟨fun i hi hl => ?_, fun i hi _ => z86 i hi⟩
        have hl : (i : Int) < (upd (A 37) n_4d 0 n_4d).toInt := hl
        rw [upd_s] at hl
        omega
      · by_cases b : j = 10 ∨ j = 15 ∨ j = 16 ∨ j = 17 ∨ j = 18 ∨ j = 19 ∨ j = 20 ∨ j = 21 ∨ j = 30 ∨ j = 31 ∨ j = 36 ∨ j = 37
        · refine Or.inr (Or.inl ⟨fun k hk => ?_, by omega, by omega, by omega⟩)
          rcases b with rfl | rfl | rfl | rfl | rfl | rfl | rfl | rfl | rfl | rfl | rfl | rfl <;> exact upd_n hk
        · refine Or.inl ?_
          rw [uA_n (by omega), uA_n (by omega), uA_n (by omega), uA_n (by omega), uA_n (by omega), uA_n (by omega), uA_n (by omega), uA_n (by omega), uA_n (by omega), uA_n (by omega), uA_n (by omega), uA_n (by omega)]
      · rw [uA_n (by omega), uA_n (by omega), uA_n (by omega), uA_n (by omega), uA_n (by omega), uA_n (by omega), uA_n (by omega), uA_n (by omega), uA_n (by omega), uA_n (by omega), uA_n (by omega), uA_n (by omega)]
    · omega
  · subst eZ
    rcases hd with ⟨c1d, n_4d, hn_4d, g_3d, rfl, g_5d, rfl, g_6d, rfl, g_7d, rfl, g_8d, rfl, g_9d, rfl, g_10d, rfl, g_11d, rfl, g_12d, rfl, g_13d, rfl, g_14d, rfl, g_15d, rfl, rfl, rfl, rfl, rfl⟩ | ⟨c1d, rfl, rfl, rfl, rfl⟩
    · omega
    · refine ⟨?_, rfl, rfl⟩
      simp only [uA_ii]
      exact h
/-- poll -/
theorem r_poll {A : AA} {cd pk p0 p1 : Int32} {A' : AA} {cdz pkz r : Int32} (h : D_X10_poll A cd pk p0 p1 A' cdz pkz r) : pkz = pk ∧ ((¬ (0 ≤ p0.toInt ∧ p0.toInt ≤ 1 ∧ -1 ≤ p1.toInt ∧ p1.toInt ≤ 4) ∧ cdz = 1 ∧ A' = A) ∨ ((0 ≤ p0.toInt ∧ p0.toInt ≤ 1 ∧ -1 ≤ p1.toInt ∧ p1.toInt ≤ 4) ∧ ∃ n : Nat, (n : Int) = p0.toInt ∧ (((A 8 n).toInt = 0 ∧ cdz = 2 ∧ A' = A) ∨ ((A 8 n).toInt ≠ 0 ∧ cdz = 0 ∧ ((0 ≤ p1.toInt ∧ A' = A ∧ ∃ k : Nat, (k : Int) = p1.toInt ∧ r = A 9 (80 * n + k)) ∨ (p1.toInt < 0 ∧ ∃ c0 c1 k1 : Int32, D_X10_dropEnd A c0 pk p0 A' c1 k1 r)))))) := by
  have i1 := i_1t
  rcases h with ⟨c1, ur_2, r_2, hfail, eur_2, rfl, rfl, rfl, rfl⟩ | ⟨c1, c2, ur_4, r_4, hfail, eur_4, rfl, rfl, rfl, rfl⟩ | ⟨c1, c2, c3, n_8, hn_8, c4, c5, x_14, ex_14, fx_14, x_15, ex_15, fx_15, n_18, hn_18, rfl, rfl, rfl, rfl⟩ | ⟨c1, c2, c3, n_8, hn_8, c4, c5, ur_19, r_19, hdropEnd, c6, rfl, rfl, rfl, rfl⟩ | ⟨c1, c2, c3, n_8, hn_8, c4, ur_20, r_20, hfail, eur_20, rfl, rfl, rfl, rfl⟩ | ⟨c1, c2, c3, ur_21, r_21, hfail, eur_21, rfl, rfl, rfl, rfl⟩
  · exact ⟨rfl, Or.inl ⟨by omega, r_fail hfail, uu_id⟩⟩
  · exact ⟨rfl, Or.inl ⟨by omega, r_fail hfail, uu_id⟩⟩
  · exact ⟨rfl, Or.inr ⟨by omega, n_8, hn_8, Or.inr ⟨c4, rfl, Or.inl ⟨c5, uu_id, n_18 - 80 * n_8, by omega, by congr 1; omega⟩⟩⟩⟩
  · exact ⟨rfl, Or.inr ⟨by omega, n_8, hn_8, Or.inr ⟨c4, rfl, Or.inr ⟨by omega, _, _, _, hdropEnd⟩⟩⟩⟩
  · exact ⟨rfl, Or.inr ⟨by omega, n_8, hn_8, Or.inl ⟨c4, r_fail hfail, uu_id⟩⟩⟩
  · exact ⟨rfl, Or.inl ⟨by omega, r_fail hfail, uu_id⟩⟩
theorem s_pollC {x : Nat} {G : Nat → Nat} {t0 t1 t2 : Int32} {B : AA} {R : RR} {A : AA} {pk cd p0 p1 : Int32} (h : SIM x t0 t1 t2 B R A pk) (hV : RIV A pk) {Z : AA} {r : Int32} (hc : C_X9_poll G B R x p0 p1 Z r) {A' : AA} {cdz pkz r' : Int32} (hd : D_X10_poll A cd pk p0 p1 A' cdz pkz r') : SIM x t0 t1 t2 Z R A' pk ∧ pkz = pk ∧ cdz = 0 ∧ r = r' := by
  have hh := h
  obtain ⟨hS, -, hM, hG, hN, -⟩ := hh
  obtain ⟨e1, e2⟩ := r_poll hd
  rcases hc with ⟨c1, c2, c3, n_12, hn_12, c4, c5, U_19, hF, hdropFirst, rfl, rfl⟩ | ⟨c1, c2, c3, n_12, hn_12, c4, c5, r_20, htellFirst, rfl, rfl⟩
  · have hn2 : n_12 < 2 := by omega
    rw [hS.1.1, (hS.2.1 _ hn2).1] at c4 hdropFirst
    obtain ⟨h0, b1, b2, b3, b4⟩ := hN _ hn2
    have k3 := congrArg Int32.toInt b3
    have hI := hV.1.2.1 _ hn2
    rcases e2 with ⟨e3, -⟩ | ⟨e3, n, hn, ⟨e4, -⟩ | ⟨e4, e5, ⟨e6, -⟩ | ⟨e6, c0, c1', k1', e7⟩⟩⟩
    · exact absurd (by omega) e3
    · obtain rfl : n = n_12 := by omega
      exact absurd (by omega) c4
    · omega
    · obtain rfl : n = n_12 := by omega
      rcases hdropFirst with ⟨x_3a, ex_3a, fx_3a, x_4a, ex_4a, fx_4a, B_6a, rfl, x_10a, ex_10a, fx_10a, B_12a, rfl, eZa⟩
      simp only [uA_u, uA_s] at eZa
      rcases e7 with ⟨n_1d, hn_1d, x_7d, ex_7d, fx_7d, g_8d, rfl, x_9d, ex_9d, fx_9d, ix_10d, u_10d, c1d, c2d, x_13d, ex_13d, fx_13d, x_14d, ex_14d, fx_14d, c3d, rfl, rfl, rfl, rfl⟩
      obtain rfl : n_1d = n := by omega
      obtain ⟨b, hb, hsh⟩ := c2d
      have zO : ∀ a, a ≠ x + 56 + 10 * n_1d → Z a = B a := fun a k => by rw [eZa, uA_n k]
      have zN : Z (x + 56 + 10 * n_1d) = upd (upd (B (x + 56 + 10 * n_1d)) 3 x_4a) 4 x_10a := by rw [eZa, uA_s]
      refine ⟨h.nd hV (fun a k => zO a (by omega)) (hM.cg (fun m hm => zO _ (by omega))) (hG.cg (fun m hm j hj => zO _ (by omega))) (fun m hm => ?_) (fun j hj => by rw [uA_n (by omega), uA_n (by omega)]), e1, e5, rfl⟩
      by_cases e : m = n_1d
      · subst e
        refine ⟨(h0 + 1) % 16, by omega, ?_, ?_, fun i p hi hp => ?_⟩
        · rw [zN, upd_n (by decide), upd_s]; omega
        · show _ = upd (A 8) m x_7d m
          rw [zN, upd_s, upd_s, ex_10a, ex_7d, b3]
        · have hi : (i : Int) < (upd (A 8) m x_7d m).toInt := hi
          rw [upd_s] at hi
          rw [zO _ (by omega)]
          show _ = u_10d (80 * m + 5 * i + p)
          rw [hsh, if_pos (by omega), show 80 * m + 5 * i + p + 5 = 80 * m + 5 * (i + 1) + p by omega, ← b4 (i + 1) p (by omega) hp]
          congr 1
          omega
      · exact (hN m hm).cg (zO _ (by omega)) (zO _ (by omega)) (upd_n e) (fun k k1 k2 => by
          show u_10d k = A 9 k
          rw [hsh, if_neg (by omega)]) (hV.1.2.1 m hm).2
  · have hn2 : n_12 < 2 := by omega
    rw [hS.1.1, (hS.2.1 _ hn2).1] at c4 htellFirst
    obtain ⟨h0, b1, b2, b3, b4⟩ := hN _ hn2
    have k3 := congrArg Int32.toInt b3
    have hI := hV.1.2.1 _ hn2
    rcases e2 with ⟨e3, -⟩ | ⟨e3, n, hn, ⟨e4, -⟩ | ⟨e4, e5, ⟨e6, rfl, k, hk, e7⟩ | ⟨e6, -⟩⟩⟩
    · exact absurd (by omega) e3
    · obtain rfl : n = n_12 := by omega
      exact absurd (by omega) c4
    · obtain rfl : n = n_12 := by omega
      rcases htellFirst with ⟨x_4a, ex_4a, fx_4a, x_5a, ex_5a, fx_5a, n_8a, hn_8a, rfl⟩
      refine ⟨h, e1, e5, ?_⟩
      rw [e7, (hS.2.1 _ hn2).2.2.2.1, show 80 * n + k = 80 * n + 5 * 0 + k by omega, ← b4 0 k (by omega) (by omega)]
      congr 1
      omega
    · omega
theorem sx_pollC {x : Nat} {G : Nat → Nat} {t0 t1 t2 : Int32} {B : AA} {R : RR} {A : AA} {pk cd p0 p1 : Int32} (h : SIM x t0 t1 t2 B R A pk) {En : String} (hc : X_X9_poll G B R x p0 p1 En) {A' : AA} {cdz pkz r' : Int32} (hd : D_X10_poll A cd pk p0 p1 A' cdz pkz r') : SIM x t0 t1 t2 B R A' pk ∧ pkz = pk ∧ ((En = IAE ∧ cdz = 1) ∨ (En = NSE ∧ cdz = 2)) := by
  have hh := h
  obtain ⟨hS, -, -, -, hN, -⟩ := hh
  obtain ⟨e1, e2⟩ := r_poll hd
  rcases hc with ⟨c1, rfl⟩ | ⟨c1, c2, rfl⟩ | ⟨c1, c2, c3, rfl⟩ | ⟨c1, c2, c3, n_12, hn_12, c4, rfl⟩
  all_goals first
    | (rcases e2 with ⟨e3, e4, rfl⟩ | ⟨e3, _⟩
       · exact ⟨h, e1, Or.inl ⟨rfl, e4⟩⟩
       · exfalso; omega)
    | (have hq : n_12 < 2 := by omega
       rw [hS.1.1, (hS.2.1 _ hq).1] at c4
       obtain ⟨_, _, _, k3, _⟩ := hN _ hq
       have k3 := congrArg Int32.toInt k3
       rcases e2 with ⟨e3, -⟩ | ⟨e3, n, hn, ⟨e4, e5, rfl⟩ | ⟨e4, e5, e6⟩⟩
       · exact absurd (by omega) e3
       · exact ⟨h, e1, Or.inr ⟨rfl, e5⟩⟩
       · obtain rfl : n = n_12 := by omega
         exfalso; omega)
end
section
theorem SHX.cg {x : Nat} {R Y : RR} (h : SHX x R) (hR : ∀ a, a ≠ x + 1 → a ≠ x + 2 → Y a = R a) (h0 : Y (x + 1) 0 = R (x + 1) 0) (h3 : Y (x + 1) 3 = R (x + 1) 3) : SHX x Y := by
  obtain ⟨a1, a2, a3, a4, a5, a6, a7, a8⟩ := h
  refine ⟨?_, fun n hn => ?_, fun q hq => ?_, fun q hq => ?_, fun q hq => ?_, fun q hq => ?_, fun q hq => ?_, ?_⟩
  · rw [hR x (by omega) (by omega)]; exact a1
  · rw [hR (x + 55) (by omega) (by omega), hR (x + 56 + 10 * n) (by omega) (by omega), hR (x + 58 + 10 * n) (by omega) (by omega)]; exact a2 n hn
  · rw [hR (x + 76) (by omega) (by omega), hR (x + 84 + 17 * q) (by omega) (by omega)]; exact a3 q hq
  · rw [hR (x + 77 + 17 * q) (by omega) (by omega)]; exact a4 q hq
  · rw [hR (x + 78 + 17 * q) (by omega) (by omega), hR (x + 79 + 17 * q) (by omega) (by omega)]; exact a5 q hq
  · rw [hR (x + 85 + 17 * q) (by omega) (by omega)]; exact a6 q hq
  · rw [hR (x + 88 + 17 * q) (by omega) (by omega), hR (x + 89 + 17 * q) (by omega) (by omega)]; exact a7 q hq
  · rw [h0, h3]
    exact ⟨a8.1, a8.2.1, fun p hp => by rw [hR _ (by omega) (by omega)]; exact a8.2.2 p hp⟩
/-- what taking a packet out does in the class -/
theorem e_takeOut {x : Nat} {G : Nat → Nat} {B : AA} {R : RR} (hS : SHX x R) {pm : Nat → Nat} {tk : Nat} (hD : DYN x R pm tk) {p : Int32} {Z : AA} {Y : RR} {r k n : Nat} (hc : C_X0_takeOut G B R (x + 1) p Z Y r) (hk : (k : Int) = p.toInt) (hn : (n : Int) = (B (x + 1) 1).toInt) (hkn : k < n) (h24 : n ≤ 24) : r = x + 3 + 2 * pm k ∧ SHX x Y ∧ DYN x Y (fun i => if i = n - 1 then tk else if k ≤ i ∧ i < n - 1 then pm (i + 1) else pm i) (pm k) ∧ ∃ c : Int32, c = B (x + 1) 1 - 1 ∧ c.toInt = (B (x + 1) 1).toInt - 1 ∧ Z = uA B (x + 1) (upd (B (x + 1)) 1 c) ∧ ∀ a, a ≠ x + 1 → a ≠ x + 2 → Y a = R a := by
  rcases hc with ⟨n_5, hn_5, i9, R9, c1, rfl, c2, x_11, ex_11, fx_11, B_13, rfl, n_21, hn_21, R_22, rfl, R_24, rfl, eZ, eZR, rfl⟩
  obtain rfl : n_5 = k := by omega
  obtain rfl : n_21 = n - 1 := by omega
  have ei : (i9.toInt - 1).toNat = n - 1 := by omega
  rw [ei] at eZR
  have r0 := hS.2.2.2.2.2.2.2.1
  have hd0 := hD
  obtain ⟨d1, d2, d3, d4, d5, d6⟩ := hd0
  have dk := d2 n_5 (by omega)
  rw [r0] at eZR
  have q1 : uR R (x + 2) (ShN (R (x + 2)) n_5 (n - 1)) (x + 1) = R (x + 1) := uR_n (by omega)
  have q2 : uR R (x + 2) (ShN (R (x + 2)) n_5 (n - 1)) (x + 2) = ShN (R (x + 2)) n_5 (n - 1) := uR_s
  rw [q1, r0, q2] at eZR
  have y1 : Y (x + 1) = updN (R (x + 1)) 2 (R (x + 2) n_5) := by rw [eZR, uR_s, uR_n (by omega), q1]
  have y2 : Y (x + 2) = updN (ShN (R (x + 2)) n_5 (n - 1)) (n - 1) (R (x + 1) 2) := by rw [eZR, uR_n (by omega), uR_s]
  have yo : ∀ a, a ≠ x + 1 → a ≠ x + 2 → Y a = R a := fun a h1 h2 => by rw [eZR, uR_n h1, uR_n h2, uR_n h2]
  refine ⟨by rw [r0]; exact dk, hS.cg yo (by rw [y1, updN_n (by decide)]) (by rw [y1, updN_n (by decide)]), ⟨?_, fun i hi => ?_, ?_, ?_, fun i hi => ?_, fun i j hi hj e => ?_⟩, x_11, ex_11, fx_11, eZ, yo⟩
  · rw [y1, updN_s, dk]
  · rw [y2]
    show _ = x + 3 + 2 * (if i = n - 1 then tk else if n_5 ≤ i ∧ i < n - 1 then pm (i + 1) else pm i)
    by_cases e : i = n - 1
    · rw [if_pos e, e, updN_s, d1]
    · rw [if_neg e, updN_n e]
      unfold ShN
      by_cases e2 : n_5 ≤ i ∧ i < n - 1
      · rw [if_pos e2, if_pos e2, d2 _ (by omega)]
      · rw [if_neg e2, if_neg e2, d2 _ hi]
  · exact (d5 n_5 (by omega)).1
  · exact (d5 n_5 (by omega)).2.1
  · show (if i = n - 1 then tk else if n_5 ≤ i ∧ i < n - 1 then pm (i + 1) else pm i) < 26 ∧ (if i = n - 1 then tk else if n_5 ≤ i ∧ i < n - 1 then pm (i + 1) else pm i) ≠ 1 ∧ (if i = n - 1 then tk else if n_5 ≤ i ∧ i < n - 1 then pm (i + 1) else pm i) ≠ pm n_5
    by_cases e : i = n - 1
    · rw [if_pos e]; exact ⟨d3, d4, fun k => (d5 n_5 (by omega)).2.2 k.symm⟩
    · rw [if_neg e]
      by_cases e2 : n_5 ≤ i ∧ i < n - 1
      · rw [if_pos e2]
        exact ⟨(d5 _ (by omega)).1, (d5 _ (by omega)).2.1, fun k => by have := d6 _ _ (by omega) (by omega) k; omega⟩
      · rw [if_neg e2]
        exact ⟨(d5 _ hi).1, (d5 _ hi).2.1, fun k => by have := d6 _ _ hi (by omega) k; omega⟩
  · have e : (if i = n - 1 then tk else if n_5 ≤ i ∧ i < n - 1 then pm (i + 1) else pm i) = (if j = n - 1 then tk else if n_5 ≤ j ∧ j < n - 1 then pm (j + 1) else pm j) := e
    by_cases a1 : i = n - 1
    · by_cases a2 : j = n - 1
      · omega
      · rw [if_pos a1, if_neg a2] at e
        exfalso
        by_cases a3 : n_5 ≤ j ∧ j < n - 1
        · rw [if_pos a3] at e; exact (d5 _ (by omega)).2.2 e.symm
        · rw [if_neg a3] at e; exact (d5 _ hj).2.2 e.symm
    · rw [if_neg a1] at e
      by_cases a2 : j = n - 1
      · rw [if_pos a2] at e
        exfalso
        by_cases a3 : n_5 ≤ i ∧ i < n - 1
        · rw [if_pos a3] at e; exact (d5 _ (by omega)).2.2 e
        · rw [if_neg a3] at e; exact (d5 _ hi).2.2 e
      · rw [if_neg a2] at e
        by_cases a3 : n_5 ≤ i ∧ i < n - 1
        · rw [if_pos a3] at e
          by_cases a4 : n_5 ≤ j ∧ j < n - 1
          · rw [if_pos a4] at e; have := d6 _ _ (by omega) (by omega) e; omega
          · rw [if_neg a4] at e; have := d6 _ _ (by omega) hj e; omega
        · rw [if_neg a3] at e
          by_cases a4 : n_5 ≤ j ∧ j < n - 1
          · rw [if_pos a4] at e; have := d6 _ _ hi (by omega) e; omega
          · rw [if_neg a4] at e; exact d6 _ _ hi hj e
/-- and what drop does in the reference -/
theorem r_drop {A : AA} {cd pk p : Int32} {Z : AA} {cdz pkz : Int32} {k n : Nat} (h : D_X10_drop A cd pk p Z cdz pkz) (hk : (k : Int) = p.toInt) (hn : (n : Int) = pk.toInt) (hkn : k < n) : cdz = cd ∧ pkz = pk - 1 ∧ pkz.toInt = pk.toInt - 1 ∧ (∀ j, 41 ≤ j → j ≤ 47 → Sh (A j) (Z j) k (n - 1)) ∧ Sh4 (A 48) (Z 48) k (n - 1) ∧ ∀ j, (j < 41 ∨ 48 < j) → Z j = A j := by
  rcases h with ⟨n_1, hn_1, x_2, ex_2, fx_2, ix_3, u_3, c1, c2, c3, c4, rfl, rfl, rfl⟩
  obtain rfl : n_1 = k := by omega
  obtain ⟨b, hb, hb1, s1, s2, s3, s4, s5, s6, s7, s8⟩ := c3
  obtain rfl : b = n - 1 := by omega
  refine ⟨rfl, ex_2, fx_2, fun j h1 h2 => ?_, s8, fun j hj => ?_⟩
  · rcases (show j = 41 ∨ j = 42 ∨ j = 43 ∨ j = 44 ∨ j = 45 ∨ j = 46 ∨ j = 47 by omega) with rfl | rfl | rfl | rfl | rfl | rfl | rfl
    · exact s1
    · exact s2
    · exact s3
    · exact s4
    · exact s5
    · exact s6
    · exact s7
  · rw [uA_n (by omega), uA_n (by omega), uA_n (by omega), uA_n (by omega), uA_n (by omega), uA_n (by omega), uA_n (by omega), uA_n (by omega)]
/-- the fabric after a packet was taken out -/
theorem FB.drop {x : Nat} {pm : Nat → Nat} {tk : Nat} {B Z A A' : AA} {pk pk' : Int32} {k n : Nat} (h : FB x pm B A pk) (hn : (n : Int) = pk.toInt) (hkn : k < n) (h24 : n ≤ 24) (hpm : ∀ i, i < 24 → pm i < 26) (e1 : pk' = pk - 1) (e2 : pk'.toInt = pk.toInt - 1) (hZ : Z = uA B (x + 1) (upd (B (x + 1)) 1 pk')) (hA : ∀ j, 41 ≤ j → j ≤ 47 → Sh (A j) (A' j) k (n - 1)) (hA8 : Sh4 (A 48) (A' 48) k (n - 1)) : FB x (fun i => if i = n - 1 then tk else if k ≤ i ∧ i < n - 1 then pm (i + 1) else pm i) Z A' pk' := by
  refine ⟨by rw [hZ, uA_s, upd_s], fun i hi => ?_⟩
  show PKT (Z (x + 3 + 2 * (if i = n - 1 then tk else if k ≤ i ∧ i < n - 1 then pm (i + 1) else pm i))) (Z (x + 4 + 2 * (if i = n - 1 then tk else if k ≤ i ∧ i < n - 1 then pm (i + 1) else pm i))) A' i
  rw [if_neg (by omega)]
  by_cases e : k ≤ i ∧ i < n - 1
  · rw [if_pos e]
    exact (h.2 (i + 1) (by omega)).cg (by rw [hZ, uA_n (by omega)]) (by rw [hZ, uA_n (by omega)]) (fun j h1 h2 => by rw [hA j h1 h2, if_pos e]) (fun c hc => by rw [hA8, if_pos (by omega)]; congr 1; omega)
  · rw [if_neg e]
    exact (h.2 i (by omega)).cg (by rw [hZ, uA_n (by omega)]) (by rw [hZ, uA_n (by omega)]) (fun j h1 h2 => by rw [hA j h1 h2, if_neg e]) (fun c hc => by rw [hA8, if_neg (by omega)])
/-- a change of the fabric alone -/
theorem SIM.fb {x : Nat} {t0 t1 t2 : Int32} {B Z : AA} {R Y : RR} {A A' : AA} {pk pk' : Int32} (h : SIM x t0 t1 t2 B R A pk) (hV : RIV A pk) (hS : SHX x Y) (hF : ∃ (pm : Nat → Nat) (tk : Nat), DYN x Y pm tk ∧ FB x pm Z A' pk') (hZ : ∀ a, ¬ (x + 1 ≤ a ∧ a < x + 55) → Z a = B a) (hj : ∀ j, j < 41 → A' j = A j) : SIM x t0 t1 t2 Z Y A' pk' := by
  obtain ⟨h1, -, h4, h5, h6, h7⟩ := h
  refine ⟨hS, hF, fun m hm c hc => ?_, fun m hm j hj2 => ?_, fun m hm => ?_, fun q' hq' => ?_⟩
  · rw [hZ _ (by omega), hj 4 (by omega)]; exact h4 m hm c hc
  · rw [hZ _ (by omega), hj 5 (by omega), hj 6 (by omega), hj 7 (by omega)]; exact h5 m hm j hj2
  · exact (h6 m hm).cg (hZ _ (by omega)) (hZ _ (by omega)) (by rw [hj 8 (by omega)]) (fun k _ _ => by rw [hj 9 (by omega)]) (hV.1.2.1 m hm).2
  · exact (h7 q' hq').cg (fun a k1 k2 => hZ a (by omega)) (AGR.of (fun j _ k2 => hj j (by omega))) (hV.c4 hq').1.2 (hV.c4 hq').2.2
end
section
def bc (b : Nat → Int32) (p k n : Int32) : Nat → Int32 := upd (upd (upd (upd (upd (upd (upd b 0 p) 1 k) 2 n) 3 0) 4 (-1)) 5 (-1)) 6 0
theorem e_become {G : Nat → Nat} {B : AA} {R : RR} {a : Nat} {p k n : Int32} {Z : AA} (h : C_X2_become G B R a p k n Z) : Z = uA B a (bc (B a) p k n) := by
  rcases h with ⟨B_3, rfl, B_5, rfl, B_7, rfl, B_10, rfl, B_12, rfl, B_14, rfl, B_16, rfl, rfl⟩
  simp only [uA_u, uA_s]
  rfl
theorem e_carry {x : Nat} {G : Nat → Nat} {B : AA} {R : RR} (hS : SHX x R) {pm : Nat → Nat} {tk : Nat} (hD : DYN x R pm tk) {pr kd nm : Int32} {Z : AA} {r n : Nat} (hc : C_X0_carry G B R (x + 1) pr kd nm Z r) (hn : (n : Int) = (B (x + 1) 1).toInt) (h24 : n ≤ 24) : (n = 24 ∧ r = x + 5 ∧ Z = uA B (x + 5) (bc (B (x + 5)) pr kd nm)) ∨ (n < 24 ∧ r = x + 3 + 2 * pm n ∧ ∃ c : Int32, c = B (x + 1) 1 + 1 ∧ c.toInt = (B (x + 1) 1).toInt + 1 ∧ Z = uA (uA B (x + 1) (upd (B (x + 1)) 1 c)) (x + 3 + 2 * pm n) (bc (B (x + 3 + 2 * pm n)) pr kd nm)) := by
  have r0 := hS.2.2.2.2.2.2.2
  rcases hc with ⟨r_2, hisFull, c1, x_7, ex_7, fx_7, B_9, rfl, n_12, hn_12, U_16, hF, hbecome, rfl, rfl⟩ | ⟨r_2, hisFull, c1, U_21, hF, hbecome, rfl, rfl⟩
  · rcases hisFull with ⟨c1a, rfl⟩ | ⟨c1a, rfl⟩
    · right
      obtain rfl : n_12 = n := by omega
      have hlt : n_12 < 24 := by omega
      rw [r0.1, hD.2.1 n_12 hlt] at hbecome
      refine ⟨hlt, by rw [r0.1, hD.2.1 n_12 hlt], x_7, ex_7, fx_7, ?_⟩
      have e := e_become hbecome
      rw [uA_n (show x + 3 + 2 * pm n_12 ≠ x + 1 by omega)] at e
      exact e
    · exact absurd c1 (by decide)
  · rcases hisFull with ⟨c1a, rfl⟩ | ⟨c1a, rfl⟩
    · exact absurd i_0 c1
    · left
      rw [r0.2.1] at hbecome
      exact ⟨by omega, r0.2.1, e_become hbecome⟩
/-- a packet was sent: the class -/
def EMC (x : Nat) (pm : Nat → Nat) (B Z : AA) (to kd nm sz mk pl va : Int32) (c : Nat → Int32) : Prop := ((B (x + 1) 1).toInt = 24 ∧ ∀ a, a ≠ x + 5 → a ≠ x + 6 → Z a = B a) ∨ ∃ n : Nat, (n : Int) = (B (x + 1) 1).toInt ∧ n < 24 ∧ ∃ d : Int32, d = B (x + 1) 1 + 1 ∧ d.toInt = (B (x + 1) 1).toInt + 1 ∧ Z (x + 1) = upd (B (x + 1)) 1 d ∧ (Z (x + 3 + 2 * pm n) 0 = to ∧ Z (x + 3 + 2 * pm n) 1 = kd ∧ Z (x + 3 + 2 * pm n) 2 = nm ∧ Z (x + 3 + 2 * pm n) 3 = sz ∧ Z (x + 3 + 2 * pm n) 4 = mk ∧ Z (x + 3 + 2 * pm n) 5 = pl ∧ Z (x + 3 + 2 * pm n) 6 = va) ∧ (kd.toInt = 0 ∨ kd.toInt = 1 ∨ kd.toInt = 4 → ∀ k : Nat, k < 4 → (k : Int) < sz.toInt → Z (x + 4 + 2 * pm n) k = c k) ∧ ∀ a, a ≠ x + 1 → a ≠ x + 3 + 2 * pm n → a ≠ x + 4 + 2 * pm n → Z a = B a
/-- a packet was sent: the reference -/
def EMR (A A' : AA) (pk pk' to kd nm sz mk pl va : Int32) (c : Nat → Int32) : Prop := (pk.toInt = 24 ∧ A' = A ∧ pk' = pk) ∨ ∃ n : Nat, (n : Int) = pk.toInt ∧ n < 24 ∧ pk' = pk + 1 ∧ pk'.toInt = pk.toInt + 1 ∧ (A' 41 = upd (A 41) n to ∧ A' 42 = upd (A 42) n kd ∧ A' 43 = upd (A 43) n nm ∧ A' 44 = upd (A 44) n sz ∧ A' 45 = upd (A 45) n mk ∧ A' 46 = upd (A 46) n pl ∧ A' 47 = upd (A 47) n va) ∧ (kd.toInt = 0 ∨ kd.toInt = 1 ∨ kd.toInt = 4 → ∀ k : Nat, k < 4 → (k : Int) < sz.toInt → A' 48 (4 * n + k) = c k) ∧ (∀ k, ¬ (4 * n ≤ k ∧ k < 4 * n + 4) → A' 48 k = A 48 k) ∧ ∀ j, (j < 41 ∨ 48 < j) → A' j = A j
def PKV (kd nm sz mk : Int32) : Prop := (0 ≤ nm.toInt ∧ nm.toInt ≤ 63) ∧ (0 ≤ kd.toInt ∧ kd.toInt ≤ 6) ∧ (kd.toInt = 0 → 0 ≤ mk.toInt ∧ mk.toInt ≤ 3) ∧ (kd.toInt = 6 → 1 ≤ mk.toInt ∧ mk.toInt ≤ 4) ∧ (kd.toInt = 0 ∨ kd.toInt = 1 ∨ kd.toInt = 4 → 1 ≤ sz.toInt ∧ sz.toInt ≤ 4) ∧ (kd.toInt = 2 → 1 ≤ sz.toInt ∧ sz.toInt ≤ 12)
/-- the taken packet is row 24 -/
def TKP (x : Nat) (tk : Nat) (B A : AA) : Prop := PKT (B (x + 3 + 2 * tk)) (B (x + 4 + 2 * tk)) A 24
theorem FB.emit {x : Nat} {R : RR} {pm : Nat → Nat} {tk : Nat} {B Z A A' : AA} {pk pk' to kd nm sz mk pl va : Int32} {c : Nat → Int32} (hD : DYN x R pm tk) (h : FB x pm B A pk) (h1 : EMC x pm B Z to kd nm sz mk pl va c) (h2 : EMR A A' pk pk' to kd nm sz mk pl va c) (hv : PKV kd nm sz mk) : FB x pm Z A' pk' ∧ (TKP x tk B A → TKP x tk Z A') ∧ (∀ a, ¬ (x + 1 ≤ a ∧ a < x + 55) → Z a = B a) ∧ ∀ j, (j < 41 ∨ 48 < j) → A' j = A j := by
  have hf := h.1
  have hfi := congrArg Int32.toInt hf
  obtain ⟨d1, d2, d3, d4, d5, d6⟩ := hD
  rcases h1 with ⟨a1, a2⟩ | ⟨n, a1, a2, d, a3, a4, a5, a6, a7, a8⟩
  · rcases h2 with ⟨b1, rfl, rfl⟩ | ⟨n, b1, b2, _⟩
    · refine ⟨⟨by rw [a2 _ (by omega) (by omega)]; exact hf, fun i hi => ?_⟩, fun t => ?_, fun a k => a2 a (by omega) (by omega), fun _ _ => rfl⟩
      · have := d5 i (by omega)
        exact (h.2 i hi).cg (a2 _ (by omega) (by omega)) (a2 _ (by omega) (by omega)) (fun _ _ _ => rfl) (fun _ _ => rfl)
      · exact PKT.cg t (a2 _ (by omega) (by omega)) (a2 _ (by omega) (by omega)) (fun _ _ _ => rfl) (fun _ _ => rfl)
    · exfalso; omega
  · rcases h2 with ⟨b1, -⟩ | ⟨m, b1, b2, b3, b4, ⟨e1, e2, e3, e4, e5, e6, e7⟩, b6, b7, b8⟩
    · exfalso; omega
    · obtain rfl : m = n := by omega
      have hp := d5 m b2
      have oth : ∀ j, 41 ≤ j → j ≤ 47 → ∀ i, i ≠ m → A' j i = A j i := fun j k1 k2 i hi => by
        rcases (show j = 41 ∨ j = 42 ∨ j = 43 ∨ j = 44 ∨ j = 45 ∨ j = 46 ∨ j = 47 by omega) with rfl | rfl | rfl | rfl | rfl | rfl | rfl
        · rw [e1, upd_n hi]
        · rw [e2, upd_n hi]
        · rw [e3, upd_n hi]
        · rw [e4, upd_n hi]
        · rw [e5, upd_n hi]
        · rw [e6, upd_n hi]
        · rw [e7, upd_n hi]
      refine ⟨⟨?_, fun i hi => ?_⟩, fun t => ?_, fun a k => a8 a (by omega) (by omega) (by omega), b8⟩
      · rw [a5, upd_s, a3, b3, hf]
      · by_cases e : i = m
        · subst e
          unfold PKT PKR
          rw [e1, e2, e3, e4, e5, e6, e7, upd_s, upd_s, upd_s, upd_s, upd_s, upd_s, upd_s]
          exact ⟨a6, fun hk k k1 k2 => by rw [a7 hk k k1 k2, b6 hk k k1 k2], hv⟩
        · have hpi := d5 i (by omega)
          have hne : pm i ≠ pm m := fun k => e (d6 _ _ (by omega) b2 k)
          exact (h.2 i (by omega)).cg (a8 _ (by omega) (by omega) (by omega)) (a8 _ (by omega) (by omega) (by omega)) (fun j k1 k2 => oth j k1 k2 i e) (fun k k1 => b7 _ (by omega))
      · exact PKT.cg t (a8 _ (by omega) (by omega) (by omega)) (a8 _ (by omega) (by omega) (by omega)) (fun j k1 k2 => oth j k1 k2 24 (by omega)) (fun k k1 => b7 _ (by omega))
/-- the reference's emit -/
theorem r_emit {A : AA} {cd pk q kd nm mk pl va : Int32} {Z : AA} {cdz pkz r : Int32} {n : Nat} (h : D_X10_emit A cd pk q kd nm mk pl va Z cdz pkz r) (hn : (n : Int) = pk.toInt) (h24 : n ≤ 24) : cdz = cd ∧ ((n = 24 ∧ Z = A ∧ pkz = pk ∧ r = -1) ∨ (n < 24 ∧ r = pk ∧ pkz = pk + 1 ∧ pkz.toInt = pk.toInt + 1 ∧ Z = uA (uA (uA (uA (uA (uA (uA A 41 (upd (A 41) n (peerT q))) 42 (upd (A 42) n kd)) 43 (upd (A 43) n nm)) 44 (upd (A 44) n 0)) 45 (upd (A 45) n mk)) 46 (upd (A 46) n pl)) 47 (upd (A 47) n va))) := by
  rcases h with ⟨c1, x_2, ex_2, fx_2, x_3, ex_3, n_6, hn_6, g_5, rfl, g_7, rfl, g_8, rfl, g_9, rfl, g_10, rfl, g_11, rfl, g_12, rfl, rfl, rfl, rfl, rfl⟩ | ⟨c1, rfl, rfl, rfl, rfl⟩
  · obtain rfl : n_6 = n := by omega
    subst ex_3
    exact ⟨rfl, Or.inr ⟨by omega, rfl, ex_2, fx_2, rfl⟩⟩
  · exact ⟨rfl, Or.inl ⟨by omega, by simp only [uA_ii], rfl, rfl⟩⟩
theorem peer_e {q : Nat} (hq : q < 4) {p : Int32} (hp : (q : Int) = p.toInt) : (peerT p).toInt = (q : Int) + 1 - 2 * ((q % 2 : Nat) : Int) := by
  obtain ⟨j, hj, rfl⟩ := vp_in_of (x := p) (n := 4) (vp_in_iff.mpr ⟨by omega, by omega⟩) (by decide)
  rw [nI_toInt (by omega)] at hp
  obtain rfl : q = j := by omega
  rcases (show q = 0 ∨ q = 1 ∨ q = 2 ∨ q = 3 by omega) with rfl | rfl | rfl | rfl <;> decide
end
