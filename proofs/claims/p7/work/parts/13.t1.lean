def T1 (E : EE) (G : Nat → Nat) (g : Nat) (e : va_E) : Prop := match g with
  | 1 => ∃ (v0 : Nat) (v1 : Nat) (v2 : Nat), e = .inr (9, [.ref v0, .ref v1, .ref v2]) ∧ G v0 = 2 ∧ G v1 = 3 ∧ G v2 = 4
  | 2 => ∃ f : Nat → Option Nat, e = .inl (E.2.2 3, 2, .inr (.inr (.inr (.inr f)))) ∧ ∀ i, i < 2 → ∃ b, f i = some b ∧ G b = 5
  | 3 => ∃ f : Nat → Option Nat, e = .inl (E.2.2 5, 4, .inr (.inr (.inr (.inr f)))) ∧ ∀ i, i < 4 → ∃ b, f i = some b ∧ G b = 8
  | 4 => ∃ (v0 : Nat) (v1 : Int32) (v2 : Nat) (v3 : Nat), e = .inr (0, [.ref v0, .int v1, .ref v2, .ref v3]) ∧ G v0 = 30 ∧ (0 ≤ v1.toInt ∧ v1.toInt ≤ 24) ∧ G v2 = 31 ∧ G v3 = 31
  | 5 => ∃ (v0 : Nat) (v1 : Nat) (v2 : Nat) (v3 : Int32) (v4 : Int32), e = .inr (1, [.ref v0, .ref v1, .ref v2, .int v3, .int v4]) ∧ G v0 = 14 ∧ G v1 = 6 ∧ G v2 = 15 ∧ (0 ≤ v3.toInt ∧ v3.toInt ≤ 15) ∧ (0 ≤ v4.toInt ∧ v4.toInt ≤ 16)
  | 6 => ∃ f : Nat → Option Nat, e = .inl (E.2.2 4, 6, .inr (.inr (.inr (.inr f)))) ∧ ∀ i, i < 6 → ∃ b, f i = some b ∧ G b = 7
  | 7 => ∃ (v0 : Int32) (v1 : Int32) (v2 : Int32), e = .inr (6, [.int v0, .int v1, .int v2])
  | 8 => ∃ (v0 : Nat) (v1 : Nat) (v2 : Int32), e = .inr (3, [.ref v0, .ref v1, .int v2]) ∧ G v0 = 9 ∧ G v1 = 10
  | 9 => ∃ (v0 : Int32) (v1 : Nat) (v2 : Nat) (v3 : Int32) (v4 : Int32) (v5 : Int32) (v6 : Nat) (v7 : Int32) (v8 : Int32) (v9 : Int32) (v10 : Int32) (v11 : Int32) (v12 : Int32) (v13 : Int32), e = .inr (7, [.int v0, .ref v1, .ref v2, .int v3, .int v4, .int v5, .ref v6, .int v7, .int v8, .int v9, .int v10, .int v11, .int v12, .int v13]) ∧ (0 ≤ v0.toInt ∧ v0.toInt ≤ 3) ∧ G v1 = 5 ∧ G v2 = 4 ∧ G v6 = 11
  | 10 => ∃ (v0 : Int32) (v1 : Nat) (v2 : Nat) (v3 : Nat) (v4 : Int32) (v5 : Int32) (v6 : Int32) (v7 : Nat) (v8 : Nat), e = .inr (8, [.int v0, .ref v1, .ref v2, .ref v3, .int v4, .int v5, .int v6, .ref v7, .ref v8]) ∧ (0 ≤ v0.toInt ∧ v0.toInt ≤ 3) ∧ G v1 = 5 ∧ G v2 = 4 ∧ G v3 = 11 ∧ G v7 = 16 ∧ G v8 = 17
  | 11 => ∃ (v0 : Int32) (v1 : Nat) (v2 : Nat) (v3 : Int32) (v4 : Int32) (v5 : Int32), e = .inr (5, [.int v0, .ref v1, .ref v2, .int v3, .int v4, .int v5]) ∧ G v1 = 5 ∧ G v2 = 12 ∧ (0 ≤ v3.toInt ∧ v3.toInt ≤ 3) ∧ (0 ≤ v4.toInt ∧ v4.toInt ≤ 4)
  | 12 => ∃ f : Nat → Option Nat, e = .inl (E.2.2 6, 4, .inr (.inr (.inr (.inr f)))) ∧ ∀ i, i < 4 → ∃ b, f i = some b ∧ G b = 13
  | 13 => ∃ (v0 : Int32) (v1 : Int32) (v2 : Int32) (v3 : Int32) (v4 : Int32) (v5 : Int32) (v6 : Int32) (v7 : Int32) (v8 : Int32) (v9 : Int32), e = .inr (4, [.int v0, .int v1, .int v2, .int v3, .int v4, .int v5, .int v6, .int v7, .int v8, .int v9]) ∧ (0 ≤ v3.toInt ∧ v3.toInt ≤ 12)
  | 14 => ∃ f : Nat → Int32, e = .inl (E.2.2 0, 32, .inl f)
  | 15 => ∃ f : Nat → Int32, e = .inl (E.2.2 0, 80, .inl f)
  | 16 => ∃ f : Nat → Int32, e = .inl (E.2.2 0, 2, .inl f)
  | 17 => ∃ f : Nat → Int32, e = .inl (E.2.2 0, 2, .inl f)
  | 30 => ∃ f : Nat → Option Nat, e = .inl (E.2.2 7, 24, .inr (.inr (.inr (.inr f)))) ∧ ∀ i, i < 24 → ∃ b, f i = some b ∧ G b = 31
  | 31 => ∃ (v0 : Int32) (v1 : Int32) (v2 : Int32) (v3 : Int32) (v4 : Int32) (v5 : Int32) (v6 : Int32) (v7 : Nat), e = .inr (2, [.int v0, .int v1, .int v2, .int v3, .int v4, .int v5, .int v6, .ref v7]) ∧ (0 ≤ v0.toInt ∧ v0.toInt ≤ 3) ∧ v3.toInt ≤ 12 ∧ G v7 = 32
  | 32 => ∃ f : Nat → Int32, e = .inl (E.2.2 0, 4, .inl f)
  | g => T0 E G g e
theorem tr_1 {E : EE} {G : Nat → Nat} {H : Heap} {a : Nat} (h : TH E (T1 E) G [] H) (hg : G a = 1) : ∃ (v0 : Nat) (v1 : Nat) (v2 : Nat), va_at (DG E) vwCl (a, .inr (9, [.ref v0, .ref v1, .ref v2])) H ∧ G v0 = 2 ∧ G v1 = 3 ∧ G v2 = 4 := by
  obtain ⟨e, he, hat⟩ := h.at hg (by decide)
  obtain ⟨v0, v1, v2, rfl, h0, h1, h2⟩ := (show T1 E G 1 e from he)
  exact ⟨v0, v1, v2, hat, h0, h1, h2⟩
theorem tr_2 {E : EE} {G : Nat → Nat} {H : Heap} {a : Nat} (h : TH E (T1 E) G [] H) (hg : G a = 2) : ∃ f : Nat → Option Nat, va_at (DG E) vwCl (a, .inl (E.2.2 3, 2, .inr (.inr (.inr (.inr f))))) H ∧ ∀ i, i < 2 → ∃ b, f i = some b ∧ G b = 5 := by
  obtain ⟨e, he, hat⟩ := h.at hg (by decide)
  obtain ⟨f, rfl, h0⟩ := (show T1 E G 2 e from he)
  exact ⟨f, hat, h0⟩
theorem tr_3 {E : EE} {G : Nat → Nat} {H : Heap} {a : Nat} (h : TH E (T1 E) G [] H) (hg : G a = 3) : ∃ f : Nat → Option Nat, va_at (DG E) vwCl (a, .inl (E.2.2 5, 4, .inr (.inr (.inr (.inr f))))) H ∧ ∀ i, i < 4 → ∃ b, f i = some b ∧ G b = 8 := by
  obtain ⟨e, he, hat⟩ := h.at hg (by decide)
  obtain ⟨f, rfl, h0⟩ := (show T1 E G 3 e from he)
  exact ⟨f, hat, h0⟩
theorem tr_4 {E : EE} {G : Nat → Nat} {H : Heap} {a : Nat} (h : TH E (T1 E) G [] H) (hg : G a = 4) : ∃ (v0 : Nat) (v1 : Int32) (v2 : Nat) (v3 : Nat), va_at (DG E) vwCl (a, .inr (0, [.ref v0, .int v1, .ref v2, .ref v3])) H ∧ G v0 = 30 ∧ (0 ≤ v1.toInt ∧ v1.toInt ≤ 24) ∧ G v2 = 31 ∧ G v3 = 31 := by
  obtain ⟨e, he, hat⟩ := h.at hg (by decide)
  obtain ⟨v0, v1, v2, v3, rfl, h0, h1, h2, h3⟩ := (show T1 E G 4 e from he)
  exact ⟨v0, v1, v2, v3, hat, h0, h1, h2, h3⟩
theorem tr_5 {E : EE} {G : Nat → Nat} {H : Heap} {a : Nat} (h : TH E (T1 E) G [] H) (hg : G a = 5) : ∃ (v0 : Nat) (v1 : Nat) (v2 : Nat) (v3 : Int32) (v4 : Int32), va_at (DG E) vwCl (a, .inr (1, [.ref v0, .ref v1, .ref v2, .int v3, .int v4])) H ∧ G v0 = 14 ∧ G v1 = 6 ∧ G v2 = 15 ∧ (0 ≤ v3.toInt ∧ v3.toInt ≤ 15) ∧ (0 ≤ v4.toInt ∧ v4.toInt ≤ 16) := by
  obtain ⟨e, he, hat⟩ := h.at hg (by decide)
  obtain ⟨v0, v1, v2, v3, v4, rfl, h0, h1, h2, h3, h4⟩ := (show T1 E G 5 e from he)
  exact ⟨v0, v1, v2, v3, v4, hat, h0, h1, h2, h3, h4⟩
theorem tr_6 {E : EE} {G : Nat → Nat} {H : Heap} {a : Nat} (h : TH E (T1 E) G [] H) (hg : G a = 6) : ∃ f : Nat → Option Nat, va_at (DG E) vwCl (a, .inl (E.2.2 4, 6, .inr (.inr (.inr (.inr f))))) H ∧ ∀ i, i < 6 → ∃ b, f i = some b ∧ G b = 7 := by
  obtain ⟨e, he, hat⟩ := h.at hg (by decide)
  obtain ⟨f, rfl, h0⟩ := (show T1 E G 6 e from he)
  exact ⟨f, hat, h0⟩
theorem tr_7 {E : EE} {G : Nat → Nat} {H : Heap} {a : Nat} (h : TH E (T1 E) G [] H) (hg : G a = 7) : ∃ (v0 : Int32) (v1 : Int32) (v2 : Int32), va_at (DG E) vwCl (a, .inr (6, [.int v0, .int v1, .int v2])) H := by
  obtain ⟨e, he, hat⟩ := h.at hg (by decide)
  obtain ⟨v0, v1, v2, rfl⟩ := (show T1 E G 7 e from he)
  exact ⟨v0, v1, v2, hat⟩
theorem tr_8 {E : EE} {G : Nat → Nat} {H : Heap} {a : Nat} (h : TH E (T1 E) G [] H) (hg : G a = 8) : ∃ (v0 : Nat) (v1 : Nat) (v2 : Int32), va_at (DG E) vwCl (a, .inr (3, [.ref v0, .ref v1, .int v2])) H ∧ G v0 = 9 ∧ G v1 = 10 := by
  obtain ⟨e, he, hat⟩ := h.at hg (by decide)
  obtain ⟨v0, v1, v2, rfl, h0, h1⟩ := (show T1 E G 8 e from he)
  exact ⟨v0, v1, v2, hat, h0, h1⟩
theorem tr_9 {E : EE} {G : Nat → Nat} {H : Heap} {a : Nat} (h : TH E (T1 E) G [] H) (hg : G a = 9) : ∃ (v0 : Int32) (v1 : Nat) (v2 : Nat) (v3 : Int32) (v4 : Int32) (v5 : Int32) (v6 : Nat) (v7 : Int32) (v8 : Int32) (v9 : Int32) (v10 : Int32) (v11 : Int32) (v12 : Int32) (v13 : Int32), va_at (DG E) vwCl (a, .inr (7, [.int v0, .ref v1, .ref v2, .int v3, .int v4, .int v5, .ref v6, .int v7, .int v8, .int v9, .int v10, .int v11, .int v12, .int v13])) H ∧ (0 ≤ v0.toInt ∧ v0.toInt ≤ 3) ∧ G v1 = 5 ∧ G v2 = 4 ∧ G v6 = 11 := by
  obtain ⟨e, he, hat⟩ := h.at hg (by decide)
  obtain ⟨v0, v1, v2, v3, v4, v5, v6, v7, v8, v9, v10, v11, v12, v13, rfl, h0, h1, h2, h3⟩ := (show T1 E G 9 e from he)
  exact ⟨v0, v1, v2, v3, v4, v5, v6, v7, v8, v9, v10, v11, v12, v13, hat, h0, h1, h2, h3⟩
theorem tr_10 {E : EE} {G : Nat → Nat} {H : Heap} {a : Nat} (h : TH E (T1 E) G [] H) (hg : G a = 10) : ∃ (v0 : Int32) (v1 : Nat) (v2 : Nat) (v3 : Nat) (v4 : Int32) (v5 : Int32) (v6 : Int32) (v7 : Nat) (v8 : Nat), va_at (DG E) vwCl (a, .inr (8, [.int v0, .ref v1, .ref v2, .ref v3, .int v4, .int v5, .int v6, .ref v7, .ref v8])) H ∧ (0 ≤ v0.toInt ∧ v0.toInt ≤ 3) ∧ G v1 = 5 ∧ G v2 = 4 ∧ G v3 = 11 ∧ G v7 = 16 ∧ G v8 = 17 := by
  obtain ⟨e, he, hat⟩ := h.at hg (by decide)
  obtain ⟨v0, v1, v2, v3, v4, v5, v6, v7, v8, rfl, h0, h1, h2, h3, h4, h5⟩ := (show T1 E G 10 e from he)
  exact ⟨v0, v1, v2, v3, v4, v5, v6, v7, v8, hat, h0, h1, h2, h3, h4, h5⟩
theorem tr_11 {E : EE} {G : Nat → Nat} {H : Heap} {a : Nat} (h : TH E (T1 E) G [] H) (hg : G a = 11) : ∃ (v0 : Int32) (v1 : Nat) (v2 : Nat) (v3 : Int32) (v4 : Int32) (v5 : Int32), va_at (DG E) vwCl (a, .inr (5, [.int v0, .ref v1, .ref v2, .int v3, .int v4, .int v5])) H ∧ G v1 = 5 ∧ G v2 = 12 ∧ (0 ≤ v3.toInt ∧ v3.toInt ≤ 3) ∧ (0 ≤ v4.toInt ∧ v4.toInt ≤ 4) := by
  obtain ⟨e, he, hat⟩ := h.at hg (by decide)
  obtain ⟨v0, v1, v2, v3, v4, v5, rfl, h0, h1, h2, h3⟩ := (show T1 E G 11 e from he)
  exact ⟨v0, v1, v2, v3, v4, v5, hat, h0, h1, h2, h3⟩
theorem tr_12 {E : EE} {G : Nat → Nat} {H : Heap} {a : Nat} (h : TH E (T1 E) G [] H) (hg : G a = 12) : ∃ f : Nat → Option Nat, va_at (DG E) vwCl (a, .inl (E.2.2 6, 4, .inr (.inr (.inr (.inr f))))) H ∧ ∀ i, i < 4 → ∃ b, f i = some b ∧ G b = 13 := by
  obtain ⟨e, he, hat⟩ := h.at hg (by decide)
  obtain ⟨f, rfl, h0⟩ := (show T1 E G 12 e from he)
  exact ⟨f, hat, h0⟩
theorem tr_13 {E : EE} {G : Nat → Nat} {H : Heap} {a : Nat} (h : TH E (T1 E) G [] H) (hg : G a = 13) : ∃ (v0 : Int32) (v1 : Int32) (v2 : Int32) (v3 : Int32) (v4 : Int32) (v5 : Int32) (v6 : Int32) (v7 : Int32) (v8 : Int32) (v9 : Int32), va_at (DG E) vwCl (a, .inr (4, [.int v0, .int v1, .int v2, .int v3, .int v4, .int v5, .int v6, .int v7, .int v8, .int v9])) H ∧ (0 ≤ v3.toInt ∧ v3.toInt ≤ 12) := by
  obtain ⟨e, he, hat⟩ := h.at hg (by decide)
  obtain ⟨v0, v1, v2, v3, v4, v5, v6, v7, v8, v9, rfl, h0⟩ := (show T1 E G 13 e from he)
  exact ⟨v0, v1, v2, v3, v4, v5, v6, v7, v8, v9, hat, h0⟩
theorem tr_14 {E : EE} {G : Nat → Nat} {H : Heap} {a : Nat} (h : TH E (T1 E) G [] H) (hg : G a = 14) : ∃ f : Nat → Int32, va_at (DG E) vwCl (a, .inl (E.2.2 0, 32, .inl f)) H := by
  obtain ⟨e, he, hat⟩ := h.at hg (by decide)
  obtain ⟨f, rfl⟩ := (show T1 E G 14 e from he)
  exact ⟨f, hat⟩
theorem tr_15 {E : EE} {G : Nat → Nat} {H : Heap} {a : Nat} (h : TH E (T1 E) G [] H) (hg : G a = 15) : ∃ f : Nat → Int32, va_at (DG E) vwCl (a, .inl (E.2.2 0, 80, .inl f)) H := by
  obtain ⟨e, he, hat⟩ := h.at hg (by decide)
  obtain ⟨f, rfl⟩ := (show T1 E G 15 e from he)
  exact ⟨f, hat⟩
theorem tr_16 {E : EE} {G : Nat → Nat} {H : Heap} {a : Nat} (h : TH E (T1 E) G [] H) (hg : G a = 16) : ∃ f : Nat → Int32, va_at (DG E) vwCl (a, .inl (E.2.2 0, 2, .inl f)) H := by
  obtain ⟨e, he, hat⟩ := h.at hg (by decide)
  obtain ⟨f, rfl⟩ := (show T1 E G 16 e from he)
  exact ⟨f, hat⟩
theorem tr_17 {E : EE} {G : Nat → Nat} {H : Heap} {a : Nat} (h : TH E (T1 E) G [] H) (hg : G a = 17) : ∃ f : Nat → Int32, va_at (DG E) vwCl (a, .inl (E.2.2 0, 2, .inl f)) H := by
  obtain ⟨e, he, hat⟩ := h.at hg (by decide)
  obtain ⟨f, rfl⟩ := (show T1 E G 17 e from he)
  exact ⟨f, hat⟩
theorem tr_30 {E : EE} {G : Nat → Nat} {H : Heap} {a : Nat} (h : TH E (T1 E) G [] H) (hg : G a = 30) : ∃ f : Nat → Option Nat, va_at (DG E) vwCl (a, .inl (E.2.2 7, 24, .inr (.inr (.inr (.inr f))))) H ∧ ∀ i, i < 24 → ∃ b, f i = some b ∧ G b = 31 := by
  obtain ⟨e, he, hat⟩ := h.at hg (by decide)
  obtain ⟨f, rfl, h0⟩ := (show T1 E G 30 e from he)
  exact ⟨f, hat, h0⟩
theorem tr_31 {E : EE} {G : Nat → Nat} {H : Heap} {a : Nat} (h : TH E (T1 E) G [] H) (hg : G a = 31) : ∃ (v0 : Int32) (v1 : Int32) (v2 : Int32) (v3 : Int32) (v4 : Int32) (v5 : Int32) (v6 : Int32) (v7 : Nat), va_at (DG E) vwCl (a, .inr (2, [.int v0, .int v1, .int v2, .int v3, .int v4, .int v5, .int v6, .ref v7])) H ∧ (0 ≤ v0.toInt ∧ v0.toInt ≤ 3) ∧ v3.toInt ≤ 12 ∧ G v7 = 32 := by
  obtain ⟨e, he, hat⟩ := h.at hg (by decide)
  obtain ⟨v0, v1, v2, v3, v4, v5, v6, v7, rfl, h0, h1, h2⟩ := (show T1 E G 31 e from he)
  exact ⟨v0, v1, v2, v3, v4, v5, v6, v7, hat, h0, h1, h2⟩
theorem tr_32 {E : EE} {G : Nat → Nat} {H : Heap} {a : Nat} (h : TH E (T1 E) G [] H) (hg : G a = 32) : ∃ f : Nat → Int32, va_at (DG E) vwCl (a, .inl (E.2.2 0, 4, .inl f)) H := by
  obtain ⟨e, he, hat⟩ := h.at hg (by decide)
  obtain ⟨f, rfl⟩ := (show T1 E G 32 e from he)
  exact ⟨f, hat⟩
theorem T0_T1 {E : EE} {G : Nat → Nat} {g : Nat} {e : va_E} (h : T0 E G g e) : T1 E G g e := by
  unfold T1
  split
  · obtain ⟨n, p, f, rfl, h1, h2, h3⟩ := (show T0 E G 1 e from h); exact ⟨n, p, f, rfl, h1, h2, h3⟩
  · exact h
  · exact h
  · obtain ⟨n, p, f, rfl, h1, h2, h3⟩ := (show T0 E G 4 e from h); exact ⟨n, 0, p, f, rfl, h1, by decide, h2, h3⟩
  · obtain ⟨n, p, f, rfl, h1, h2, h3⟩ := (show T0 E G 5 e from h); exact ⟨n, p, f, 0, 0, rfl, h1, h2, h3, by decide, by decide⟩
  · exact h
  · cases (show T0 E G 7 e from h); exact ⟨0, 0, 0, rfl⟩
  · obtain ⟨n, p, rfl, h1, h2⟩ := (show T0 E G 8 e from h); exact ⟨n, p, 0, rfl, h1, h2⟩
  · obtain ⟨a, b, c, d, x, y, z, rfl, h1, h2, h3, h4⟩ := (show T0 E G 9 e from h); exact ⟨a, b, c, d, x, y, z, 0, 0, 0, 0, 0, 0, 0, rfl, h4, h1, h2, h3⟩
  · obtain ⟨a, b, c, d, x, y, rfl, h1, h2, h3, h4, h5, h6⟩ := (show T0 E G 10 e from h); exact ⟨a, b, c, d, 0, 0, 0, x, y, rfl, h6, h1, h2, h3, h4, h5⟩
  · obtain ⟨a, b, c, rfl, h1, h2⟩ := (show T0 E G 11 e from h); exact ⟨a, b, c, 0, 0, 0, rfl, h1, h2, by decide, by decide⟩
  · exact h
  · cases (show T0 E G 13 e from h); exact ⟨0, 0, 0, 0, 0, 0, 0, 0, 0, 0, rfl, by decide⟩
  · cases (show T0 E G 14 e from h); exact ⟨_, rfl⟩
  · cases (show T0 E G 15 e from h); exact ⟨_, rfl⟩
  · exact h
  · exact h
  · exact h
  · obtain ⟨c, rfl, h1⟩ := (show T0 E G 31 e from h); exact ⟨0, 0, 0, 0, 0, 0, 0, c, rfl, by decide, by decide, h1⟩
  · cases (show T0 E G 32 e from h); exact ⟨_, rfl⟩
  · exact h
theorem TH.t1 {E : EE} {G : Nat → Nat} {H : Heap} (h : TH E (T0 E) G [] H) : TH E (T1 E) G [] H := fun a ha hx => by
  obtain ⟨e, h1, h2⟩ := h a ha hx
  exact ⟨e, T0_T1 h1, h2⟩
theorem s_and63 (x : Int32) : 0 ≤ (x &&& 63).toInt ∧ (x &&& 63).toInt ≤ 63 := by
  rw [pk_and x 6 (by decide)]
  have h := Nat.mod_lt x.toBitVec.toNat (show 0 < 2 ^ 6 by decide)
  rw [nI_toInt (by omega)]
  omega
theorem s_mulR {x k : Int32} {K : Int} (hk : k.toInt = K) (h1 : -2147483648 ≤ x.toInt * K) (h2 : x.toInt * K < 2147483648) : (x * k).toInt = x.toInt * K := by
  subst hk
  simp only [Int32.toInt_mul, Int.bmod]
  generalize x.toInt * k.toInt = z at *
  omega
theorem s_pos {x : Int32} (h : 0 ≤ x.toInt) : ∃ n : Nat, n < 2 ^ 31 ∧ x = nI n := nI_of (by rw [lt_I, i_0]; omega)
theorem s_rem {x : Int32} (d : Nat) (h0 : 0 < d) (hd : d < 2 ^ 31) (h : 0 ≤ x.toInt) : (x - x / nI d * nI d).toInt = x.toInt % (d : Int) := by
  obtain ⟨n, hn, rfl⟩ := s_pos h
  rw [pk_rem hn h0 hd, nI_toInt (Nat.lt_of_lt_of_le (Nat.mod_lt _ h0) (by omega)), nI_toInt hn]
  rfl
theorem s_div {x : Int32} (d : Nat) (h0 : 0 < d) (hd : d < 2 ^ 31) (h : 0 ≤ x.toInt) : (x / nI d).toInt = x.toInt / (d : Int) := by
  obtain ⟨n, hn, rfl⟩ := s_pos h
  rw [pk_div hn h0 hd, nI_toInt (Nat.lt_of_le_of_lt (Nat.div_le_self _ _) hn), nI_toInt hn]
  rfl
theorem af_upd {G : Nat → Nat} {n k q g : Nat} {f : Nat → Option Nat} (hf : ∀ j, j < n → ∃ b, f j = some b ∧ G b = g) (hq : G q = g) : ∀ j, j < n → ∃ b, va_up f k (some q) j = some b ∧ G b = g := fun j hj => by
  by_cases e : j = k
  · subst e
    exact ⟨q, va_up_self _ _ _, hq⟩
  · obtain ⟨b, h1, h2⟩ := hf j hj
    exact ⟨b, by rw [va_up_ne _ _ e]; exact h1, h2⟩
theorem SS_mono {A B : Nat → Prop} {H0 H : Heap} {locs : List Loc} (h : va_S A H0 H locs) (hA : ∀ q, A q → B q) : va_S B H0 H locs := ⟨h.1, fun q h1 h2 => h.2.1 q h1 (fun z => h2 (hA q z)), fun l hl => hA _ (h.2.2 l hl)⟩
theorem SS_F {A : Nat → Prop} {s t : State} {H : Heap} {locs : List Loc} (h : va_S A s.heap H locs) (hz : H.size ≤ t.heap.size) (hk : ∀ q : Nat, q < H.size → t.heap[q]? = H[q]?) : va_F A s t := ⟨Nat.le_trans h.1 hz, fun q hq hA => (hk q (Nat.lt_of_lt_of_le hq h.1)).trans (h.2.1 q hq hA)⟩
theorem mL {G : Nat → Nat} {L L' : List Nat} {q : Nat} (h : ∀ g ∈ L', g ∈ L) (hq : G q ∈ L') : G q ∈ L := h _ hq
theorem nL {G : Nat → Nat} {L : List Nat} {b g : Nat} (hb : G b = g) (h : g ∉ L) : ¬ G b ∈ L := fun q => h (by rw [← hb]; exact q)
theorem zL {G : Nat → Nat} {z0 : Nat} (hGz : ∀ q, G q ≠ 0 → z0 ≤ q) {L : List Nat} (h : 0 ∉ L) : ∀ q, G q ∈ L → z0 ≤ q := fun q hq => hGz q (fun e => h (by rw [← e]; exact hq))
theorem s_min {x y v : Int32} (h : v = if y < x then y else x) : v.toInt ≤ x.toInt ∧ v.toInt ≤ y.toInt ∧ (v.toInt = x.toInt ∨ v.toInt = y.toInt) := by
  by_cases c : y < x
  · rw [if_pos c] at h
    subst h
    rw [lt_I] at c
    omega
  · rw [if_neg c] at h
    subst h
    rw [lt_I] at c
    omega
theorem s_rng {x : Int32} (h : x = 0 ∨ x = 1) : 0 ≤ x.toInt ∧ x.toInt ≤ 1 := by rcases h with rfl | rfl <;> decide
section LP
variable {p : Program} {l : Launch} {e : Env} {R : Room} {s : State} {m : MethodId} {args : Array Value} {below : List Frame} {meth : Method} {c : Code} {cells slots pc : Nat} {Q : State → Prop}
theorem lp_nat (I : Nat → Heap → List Loc → Array Slot → Prop) (step : ∀ n H locs ls, (∀ k, k < n → ∀ H locs ls, I k H locs ls → W p l e R s m args below meth c H locs cells slots Q (F0 m pc ls [])) → I n H locs ls → W p l e R s m args below meth c H locs cells slots Q (F0 m pc ls [])) : ∀ {n : Nat} {H : Heap} {locs : List Loc} {ls : Array Slot}, I n H locs ls → W p l e R s m args below meth c H locs cells slots Q (F0 m pc ls []) := by
  have key : ∀ n k, k ≤ n → ∀ H locs ls, I k H locs ls → W p l e R s m args below meth c H locs cells slots Q (F0 m pc ls []) := by
    intro n
    induction n with
    | zero => intro k hk H locs ls h; exact step k H locs ls (fun j hj => absurd hj (by omega)) h
    | succ n ih => intro k hk H locs ls h; exact step k H locs ls (fun j hj => ih j (by omega)) h
  intro n H locs ls h
  exact key n n (Nat.le_refl n) H locs ls h
end LP
section RN1
variable {p : Program} {l : Launch} {e : Env} {R : Room} {s : State} {m : MethodId} {args : Array Value} {below : List Frame} {meth : Method} {c : Code} {H : Heap} {locs : List Loc} {cells slots : Nat}
variable {y : MethodName} {bytes cc : ByteArray} {maxL nL mc ms n index : Nat} {ret : Option FieldType} {ws : List Cond} {rm : Room} {Qc : Array Value → State → Outcome → State → Prop} {free : Addr → Prop} {Ts : List Cond} {own host : String} {As rest : List Value} {g : JFrame} {E : EE} {z0 : Nat}
theorem rnSK (P : Heap → Prop) (S : CallFix p m c cc nL s args Ts own) (hM : Met l y ws rm (va_Pc As (fun U => P U.heap ∧ KS E z0 U)) Qc mc ms free) (cw : va_CN R s args own index y host bytes maxL ret ws rm mc ms n ∧ (Cond.static y).before args s = true ∧ True) (hP : P H) (hKg : ∀ U : State, U.heap = H → s.WarmedH U.vm → KS E z0 U)
    (hg : g.method = m) (hn : As.length = n) (hsize : g.locals.size = nL) (hstack : g.stack = As.reverse ++ rest) (hW : 2 * g.monitorRoom + (rest.map fun v => v.category).sum ≤ 8) (hdg : decode cc g.pc = .ok (.invokestatic index, 3)) (hf : cells + mc ≤ R.cells ∧ slots + ms ≤ R.slots) :
    va_Run p l e R s m args below meth c H locs cells slots mc ms g rest (Qc As.toArray) free :=
  va_runSN S hM cw ⟨fun a U g mk q => ⟨q.1, q.2.1, KS.calling q.2.2⟩, fun U hU hW => ⟨rfl, by rw [hU]; exact hP, hKg U hU hW⟩⟩ hg hn hsize hstack hW hdg hf
end RN1
