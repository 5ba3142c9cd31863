theorem up_k {G : Nat → Nat} {a h k g : Nat} (hg : G a = k) (hz : G h = 0) (hk : k ≠ 0) : va_up G h g a = k := by
  rw [va_up_ne _ _ (fun e => hk (by rw [← hg, e, hz]))]; exact hg
theorem T0_mono {E : EE} {G G' : Nat → Nat} (h : ∀ a, G a ≠ 0 → G' a = G a) {g : Nat} {e : va_E} (ht : T0 E G g e) : T0 E G' g e := by
  have hk : ∀ {a k : Nat}, G a = k → k ≠ 0 → G' a = k := fun {a k} h1 h2 => by rw [h a (by rw [h1]; exact h2)]; exact h1
  have ha : ∀ {n k : Nat} {f : Nat → Option Nat}, k ≠ 0 → (∀ i, i < n → ∃ b, f i = some b ∧ G b = k) → ∀ i, i < n → ∃ b, f i = some b ∧ G' b = k := fun {n k f} h1 h2 i hi => by
    obtain ⟨b, e1, e2⟩ := h2 i hi
    exact ⟨b, e1, hk e2 h1⟩
  unfold T0 at ht ⊢
  split at ht
  · obtain ⟨n, p, f, rfl, h1, h2, h3⟩ := ht
    exact ⟨n, p, f, rfl, hk h1 (by decide), hk h2 (by decide), hk h3 (by decide)⟩
  · obtain ⟨f, rfl, h1⟩ := ht
    exact ⟨f, rfl, ha (by decide) h1⟩
  · obtain ⟨f, rfl, h1⟩ := ht
    exact ⟨f, rfl, ha (by decide) h1⟩
  · obtain ⟨n, p, f, rfl, h1, h2, h3⟩ := ht
    exact ⟨n, p, f, rfl, hk h1 (by decide), hk h2 (by decide), hk h3 (by decide)⟩
  · obtain ⟨n, p, f, rfl, h1, h2, h3⟩ := ht
    exact ⟨n, p, f, rfl, hk h1 (by decide), hk h2 (by decide), hk h3 (by decide)⟩
  · obtain ⟨f, rfl, h1⟩ := ht
    exact ⟨f, rfl, ha (by decide) h1⟩
  · exact ht
  · obtain ⟨n, p, rfl, h1, h2⟩ := ht
    exact ⟨n, p, rfl, hk h1 (by decide), hk h2 (by decide)⟩
  · obtain ⟨a, b, c, d, x, y, z, rfl, h1, h2, h3, h4⟩ := ht
    exact ⟨a, b, c, d, x, y, z, rfl, hk h1 (by decide), hk h2 (by decide), hk h3 (by decide), h4⟩
  · obtain ⟨a, b, c, d, x, y, rfl, h1, h2, h3, h4, h5, h6⟩ := ht
    exact ⟨a, b, c, d, x, y, rfl, hk h1 (by decide), hk h2 (by decide), hk h3 (by decide), hk h4 (by decide), hk h5 (by decide), h6⟩
  · obtain ⟨a, b, c, rfl, h1, h2⟩ := ht
    exact ⟨a, b, c, rfl, hk h1 (by decide), hk h2 (by decide)⟩
  · obtain ⟨f, rfl, h1⟩ := ht
    exact ⟨f, rfl, ha (by decide) h1⟩
  · exact ht
  · exact ht
  · exact ht
  · exact ht
  · exact ht
  · obtain ⟨a, b, c, r, rfl, h1⟩ := ht
    exact ⟨a, b, c, r, rfl, fun j p q w => hk (h1 j p q w) (by omega)⟩
  · obtain ⟨f, rfl, h1⟩ := ht
    exact ⟨f, rfl, ha (by decide) h1⟩
  · obtain ⟨c, rfl, h1⟩ := ht
    exact ⟨c, rfl, hk h1 (by decide)⟩
  · exact ht
  · exact ht
theorem TH.add {E : EE} {G : Nat → Nat} {H : Heap} {a g : Nat} {e : va_E} (h : TH E (T0 E) G [] H) (h0 : G a = 0) (he : T0 E (va_up G a g) g e) (hat : va_at (DG E) vwCl (a, e) H) : TH E (T0 E) (va_up G a g) [] H := fun b hb hx => by
  by_cases hq : b = a
  · subst hq
    rw [va_up_self]
    exact ⟨e, he, hat⟩
  · rw [va_up_ne _ _ hq] at hb ⊢
    obtain ⟨e2, h1, h2⟩ := h b hb hx
    exact ⟨e2, T0_mono (fun c hc => by rw [va_up_ne _ _ (fun q => hc (by rw [q, h0]))]) h1, h2⟩
theorem TH.fresh {E : EE} {ty : (Nat → Nat) → Nat → va_E → Prop} {G : Nat → Nat} {H : Heap} {q : Nat} (h : TH E ty G [] H) (hq : q = H.size) : G q = 0 := Decidable.byContradiction fun hn => by
  obtain ⟨e, -, h2⟩ := h q hn List.not_mem_nil
  have h3 := h2.lt
  have h4 : q < H.size := h3
  omega
theorem TH.off {E : EE} {ty : (Nat → Nat) → Nat → va_E → Prop} {G : Nat → Nat} {H H1 : Heap} {a : Nat} (h : TH E ty G [] H) (h0 : G a = 0) (ho : ∀ q, q ≠ a → H1[q]? = H[q]?) : TH E ty G [] H1 := fun b hb hx => by
  obtain ⟨e, h1, h2⟩ := h b hb hx
  exact ⟨e, h1, h2.kept (ho b (fun q => hb (by rw [q, h0])))⟩
/-- the groups grow: the old ones stay, the new ones are of the object h and of what comes from sz on -/
def GE (G G' : Nat → Nat) (h sz : Nat) : Prop := (∀ a, G a ≠ 0 → G' a = G a) ∧ ∀ a, G' a ≠ 0 → G a ≠ 0 ∨ a = h ∨ sz ≤ a
def GX (G G' : Nat → Nat) (h g sz : Nat) : Prop := GE G G' h sz ∧ G' h = g
theorem GE.rf {G : Nat → Nat} {h sz : Nat} : GE G G h sz := ⟨fun _ _ => rfl, fun _ h => Or.inl h⟩
theorem GE.step {G G1 G2 : Nat → Nat} {h sz q g sz1 : Nat} (h1 : GE G G1 h sz) (h2 : GX G1 G2 q g sz1) (hq : sz ≤ q) (hs : sz ≤ sz1) : GE G G2 h sz := by
  refine ⟨fun a ha => ?_, fun a ha => ?_⟩
  · have h3 := h1.1 a ha
    rw [h2.1.1 a (by rw [h3]; exact ha), h3]
  · rcases h2.1.2 a ha with h | h | h
    · exact h1.2 a h
    · exact Or.inr (Or.inr (by omega))
    · exact Or.inr (Or.inr (by omega))
theorem GE.add {G G1 : Nat → Nat} {h sz q g : Nat} (h1 : GE G G1 h sz) (hz : G1 q = 0) (hq : sz ≤ q) : GE G (va_up G1 q g) h sz := by
  refine ⟨fun a ha => ?_, fun a ha => ?_⟩
  · have h3 := h1.1 a ha
    rw [va_up_ne _ _ (fun e => ha (by rw [← h3, e, hz])), h3]
  · by_cases e : a = q
    · exact Or.inr (Or.inr (by omega))
    · rw [va_up_ne _ _ e] at ha
      exact h1.2 a ha
theorem GE.fin {G G1 : Nat → Nat} {h sz g : Nat} (h1 : GE G G1 h sz) (hz : G1 h = 0) : GX G (va_up G1 h g) h g sz := by
  refine ⟨⟨fun a ha => ?_, fun a ha => ?_⟩, va_up_self _ _ _⟩
  · have h3 := h1.1 a ha
    rw [va_up_ne _ _ (fun e => ha (by rw [← h3, e, hz])), h3]
  · by_cases e : a = h
    · exact Or.inr (Or.inl e)
    · rw [va_up_ne _ _ e] at ha
      exact h1.2 a ha
theorem gx_k {G G' : Nat → Nat} {h g sz a k : Nat} (hx : GX G G' h g sz) (hg : G a = k) (hk : k ≠ 0) : G' a = k := by
  rw [hx.1.1 a (by rw [hg]; exact hk)]; exact hg
theorem gx_0 {G G' : Nat → Nat} {h g sz b : Nat} (hx : GX G G' h g sz) (hb : G b = 0) (hn : b ≠ h) (hl : b < sz) : G' b = 0 := Decidable.byContradiction fun hc => by
  rcases hx.1.2 b hc with h1 | h1 | h1
  · exact h1 hb
  · exact hn h1
  · omega
theorem af_x {G G' : Nat → Nat} {h g sz n k : Nat} {f : Nat → Option Nat} (hx : GX G G' h g sz) (hk : k ≠ 0) (hf : ∀ j, j < n → ∃ b, f j = some b ∧ G b = k) : ∀ j, j < n → ∃ b, f j = some b ∧ G' b = k := fun j hj => by
  obtain ⟨b, h1, h2⟩ := hf j hj
  exact ⟨b, h1, gx_k hx h2 hk⟩
theorem af_up {G : Nat → Nat} {h g n k : Nat} {f : Nat → Option Nat} (hz : G h = 0) (hk : k ≠ 0) (hf : ∀ j, j < n → ∃ b, f j = some b ∧ G b = k) : ∀ j, j < n → ∃ b, f j = some b ∧ va_up G h g b = k := fun j hj => by
  obtain ⟨b, h1, h2⟩ := hf j hj
  exact ⟨b, h1, up_k h2 hz hk⟩
theorem af_0 {G : Nat → Nat} {k : Nat} {f : Nat → Option Nat} : ∀ j, j < 0 → ∃ b, f j = some b ∧ G b = k := fun j hj => absurd hj (Nat.not_lt_zero j)
theorem af_push {G : Nat → Nat} {n q k : Nat} {f : Nat → Option Nat} (hf : ∀ j, j < n → ∃ b, f j = some b ∧ G b = k) (hq : G q = k) : ∀ j, j < n + 1 → ∃ b, va_up f n (some q) j = some b ∧ G b = k := fun j hj => by
  by_cases e : j = n
  · subst e
    exact ⟨q, va_up_self _ _ _, hq⟩
  · obtain ⟨b, h1, h2⟩ := hf j (by omega)
    exact ⟨b, by rw [va_up_ne _ _ e]; exact h1, h2⟩
def AC (h sz : Nat) : Nat → Prop := fun q => q = h ∨ sz ≤ q
theorem xor1_b {x : Int32} (h : 0 ≤ x.toInt ∧ x.toInt ≤ 3) : 0 ≤ (x ^^^ 1).toInt ∧ (x ^^^ 1).toInt ≤ 3 := by
  obtain ⟨j, hj, rfl⟩ := vp_in_of (x := x) (n := 4) (vp_in_iff.mpr ⟨h.1, by omega⟩) (by decide)
  rcases (show j = 0 ∨ j = 1 ∨ j = 2 ∨ j = 3 by omega) with rfl | rfl | rfl | rfl <;> decide
section LPK
variable {p : Program} {l : Launch} {e : Env} {R : Room} {s : State} {m : MethodId} {args : Array Value} {below : List Frame} {meth : Method} {c : Code} {Q : State → Prop} {pc : Nat}
theorem lp_k (I : Nat → Heap → List Loc → Array Slot → Nat → Nat → Prop) (step : ∀ n H locs ls C S, (∀ k, k < n → ∀ H locs ls C S, I k H locs ls C S → W p l e R s m args below meth c H locs C S Q (F0 m pc ls [])) → I n H locs ls C S → W p l e R s m args below meth c H locs C S Q (F0 m pc ls [])) : ∀ {n : Nat} {H : Heap} {locs : List Loc} {ls : Array Slot} {C S : Nat}, I n H locs ls C S → W p l e R s m args below meth c H locs C S Q (F0 m pc ls []) := by
  have key : ∀ n k, k ≤ n → ∀ H locs ls C S, I k H locs ls C S → W p l e R s m args below meth c H locs C S Q (F0 m pc ls []) := by
    intro n
    induction n with
    | zero => intro k hk H locs ls C S h; exact step k H locs ls C S (fun j hj => absurd hj (by omega)) h
    | succ n ih => intro k hk H locs ls C S h; exact step k H locs ls C S (fun j hj => ih j (by omega)) h
  intro n H locs ls C S h
  exact key n n (Nat.le_refl n) H locs ls C S h
end LPK
theorem ne_q {b q n : Nat} (h : b < n) (e : q = n) : b ≠ q := by omega
theorem le_q {sz n m q : Nat} (h1 : n = sz) (h2 : n ≤ m) (h3 : q = m) : sz ≤ q := by omega
theorem ltz_s {b n z : Nat} (h : b < n) (e : z = n) : b < z := by omega
