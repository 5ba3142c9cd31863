theorem ne_o {s a b : Nat} (h : a ≠ b) : s + a ≠ s + b := by omega
theorem ne_h {h s a : Nat} (h1 : h < s) : h ≠ s + a := by omega
theorem ne_h' {h s a : Nat} (h1 : h < s) : s + a ≠ h := by omega
theorem arr_cg {E : EE} {a n : Nat} {c : ClassId} {f g : Nat → Option Nat} {H : Heap} (h : va_at (DG E) vwCl (a, .inl (c, n, .inr (.inr (.inr (.inr f))))) H) (e : ∀ i, i < n → f i = g i) : va_at (DG E) vwCl (a, .inl (c, n, .inr (.inr (.inr (.inr g))))) H := by
  have h : H[a]? = some (arrV c n (fun j => va_rf (f j))) := h
  show H[a]? = some (arrV c n (fun j => va_rf (g j)))
  rw [h]
  congr 1
  unfold arrV
  congr 1
  congr 1
  funext j
  show va_rf (f j.val) = va_rf (g j.val)
  rw [e j.val j.isLt]
theorem arr_cgi {E : EE} {a n : Nat} {c : ClassId} {f g : Nat → Int32} {H : Heap} (h : va_at (DG E) vwCl (a, .inl (c, n, .inl f)) H) (e : ∀ i, i < n → f i = g i) : va_at (DG E) vwCl (a, .inl (c, n, .inl g)) H := by
  have h : H[a]? = some (arrV c n (fun j => .int (f j))) := h
  show H[a]? = some (arrV c n (fun j => .int (g j)))
  rw [h]
  congr 1
  unfold arrV
  congr 1
  congr 1
  funext j
  show Value.int (f j.val) = Value.int (g j.val)
  rw [e j.val j.isLt]
def PKB (E : EE) (b : Nat) (n : Nat) (H : Heap) : Prop := ∀ p, p < n → va_at (DG E) vwCl (b + 2 * p, .inr (2, [.int 0, .int 0, .int 0, .int 0, .int 0, .int 0, .int 0, .ref (b + 2 * p + 1)])) H ∧ va_at (DG E) vwCl (b + 2 * p + 1, .inl (E.2.2 0, 4, .inl (fun _ => 0))) H
theorem PKB.keptS {E : EE} {b n : Nat} {H H1 : Heap} (h : PKB E b n H) (ho : ∀ q, q < H.size → H1[q]? = H[q]?) : PKB E b n H1 := fun p hp => ⟨(h p hp).1.kept (ho _ (h p hp).1.lt), (h p hp).2.kept (ho _ (h p hp).2.lt)⟩
theorem PKB.keptW {E : EE} {b n a : Nat} {H H1 : Heap} (h : PKB E b n H) (ho : ∀ q, q ≠ a → H1[q]? = H[q]?) (ha : a < b ∨ b + 2 * n ≤ a) : PKB E b n H1 := fun p hp => ⟨(h p hp).1.kept (ho _ (by show b + 2 * p ≠ a; omega)), (h p hp).2.kept (ho _ (by show b + 2 * p + 1 ≠ a; omega))⟩
theorem PKB.keptC {E : EE} {b n a z : Nat} {H H1 : Heap} (h : PKB E b n H) (hk : ∀ q, q < H.size → ¬ AC a z q → H1[q]? = H[q]?) (ha : a < b ∨ b + 2 * n ≤ a) (hz : b + 2 * n ≤ z) : PKB E b n H1 := fun p hp => ⟨(h p hp).1.kept (hk _ (h p hp).1.lt (fun q => q.elim (fun e => by have e : b + 2 * p = a := e; omega) (fun e => by have e : z ≤ b + 2 * p := e; omega))), (h p hp).2.kept (hk _ (h p hp).2.lt (fun q => q.elim (fun e => by have e : b + 2 * p + 1 = a := e; omega) (fun e => by have e : z ≤ b + 2 * p + 1 := e; omega)))⟩
theorem PKB.push {E : EE} {b n : Nat} {H : Heap} (h : PKB E b n H) (h1 : va_at (DG E) vwCl (b + 2 * n, .inr (2, [.int 0, .int 0, .int 0, .int 0, .int 0, .int 0, .int 0, .ref (b + 2 * n + 1)])) H) (h2 : va_at (DG E) vwCl (b + 2 * n + 1, .inl (E.2.2 0, 4, .inl (fun _ => 0))) H) : PKB E b (n + 1) H := fun p hp => by
  by_cases e : p = n
  · subst e; exact ⟨h1, h2⟩
  · exact h p (by omega)
theorem le54 {s k : Nat} (h : 54 ≤ k) : s + 2 + 2 * 26 ≤ s + k := by omega
