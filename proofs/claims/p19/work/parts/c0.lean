section
theorem up_k {G : Nat → Nat} {a h k g : Nat} (hg : G a = k) (hz : G h = 0) (hk : k ≠ 0) : va_up G h g a = k := by
  rw [va_up_ne _ _ (fun e => hk (by rw [← hg, e, hz]))]; exact hg
theorem T0_mono {E : EE} {G G' : Nat → Nat} (h : ∀ a, G a ≠ 0 → G' a = G a) {g : Nat} {e : va_E} (ht : T0 E G g e) : T0 E G' g e := by
  have hk : ∀ {a k : Nat}, G a = k → k ≠ 0 → G' a = k := fun {a k} h1 h2 => by rw [h a (by rw [h1]; exact h2)]; exact h1
  have ha : ∀ {n k : Nat} {f : Nat → Option Nat}, k ≠ 0 → (∀ i, i < n → ∃ b, f i = some b ∧ G b = k) → ∀ i, i < n → ∃ b, f i = some b ∧ G' b = k := fun {n k f} h1 h2 i hi => by
    obtain ⟨b, e1, e2⟩ := h2 i hi
    exact ⟨b, e1, hk e2 h1⟩
  unfold T0 at ht ⊢
  split at ht
  · obtain ⟨n, p, f, rfl, h1, h2, h3⟩ := ht
    exact ⟨n, p, f, rfl, hk h1 (by decide), hk h2 (by decide), hk h3 (by decide)⟩
  · obtain ⟨f, rfl, h1⟩ := ht
    exact ⟨f, rfl, ha (by decide) h1⟩
  · obtain ⟨f, rfl, h1⟩ := ht
    exact ⟨f, rfl, ha (by decide) h1⟩
  · obtain ⟨n, p, f, rfl, h1, h2, h3⟩ := ht
    exact ⟨n, p, f, rfl, hk h1 (by decide), hk h2 (by decide), hk h3 (by decide)⟩
  · obtain ⟨n, p, f, rfl, h1, h2, h3⟩ := ht
    exact ⟨n, p, f, rfl, hk h1 (by decide), hk h2 (by decide), hk h3 (by decide)⟩
  · obtain ⟨f, rfl, h1⟩ := ht
    exact ⟨f, rfl, ha (by decide) h1⟩
  · exact ht
  · obtain ⟨n, p, rfl, h1, h2⟩ := ht
    exact ⟨n, p, rfl, hk h1 (by decide), hk h2 (by decide)⟩
  · obtain ⟨a, b, c, d, x, y, z, rfl, h1, h2, h3, h4⟩ := ht
    exact ⟨a, b, c, d, x, y, z, rfl, hk h1 (by decide), hk h2 (by decide), hk h3 (by decide), h4⟩
  · obtain ⟨a, b, c, d, x, y, rfl, h1, h2, h3, h4, h5, h6⟩ := ht
    exact ⟨a, b, c, d, x, y, rfl, hk h1 (by decide), hk h2 (by decide), hk h3 (by decide), hk h4 (by decide), hk h5 (by decide), h6⟩
  · obtain ⟨a, b, c, rfl, h1, h2⟩ := ht
    exact ⟨a, b, c, rfl, hk h1 (by decide), hk h2 (by decide)⟩
  · obtain ⟨f, rfl, h1⟩ := ht
    exact ⟨f, rfl, ha (by decide) h1⟩
  · exact ht
  · exact ht
  · exact ht
  · exact ht
  · exact ht
  · obtain ⟨a, b, c, r, rfl, h1⟩ := ht
    exact ⟨a, b, c, r, rfl, fun j p q w => hk (h1 j p q w) (by omega)⟩
  · obtain ⟨f, rfl, h1⟩ := ht
    exact ⟨f, rfl, ha (by decide) h1⟩
  · obtain ⟨c, rfl, h1⟩ := ht
    exact ⟨c, rfl, hk h1 (by decide)⟩
  · exact ht
  · exact ht
theorem TH.add {E : EE} {G : Nat → Nat} {H : Heap} {a g : Nat} {e : va_E} (h : TH E (T0 E) G [] H) (h0 : G a = 0) (he : T0 E (va_up G a g) g e) (hat : va_at (DG E) vwCl (a, e) H) : TH E (T0 E) (va_up G a g) [] H := fun b hb hx => by
  by_cases hq : b = a
  · subst hq
    rw [va_up_self]
    exact ⟨e, he, hat⟩
  · rw [va_up_ne _ _ hq] at hb ⊢
    obtain ⟨e2, h1, h2⟩ := h b hb hx
    exact ⟨e2, T0_mono (fun c hc => by rw [va_up_ne _ _ (fun q => hc (by rw [q, h0]))]) h1, h2⟩
theorem TH.fresh {E : EE} {ty : (Nat → Nat) → Nat → va_E → Prop} {G : Nat → Nat} {H : Heap} {q : Nat} (h : TH E ty G [] H) (hq : q = H.size) : G q = 0 := Decidable.byContradiction fun hn => by
  obtain ⟨e, -, h2⟩ := h q hn List.not_mem_nil
  have h3 := h2.lt
  have h4 : q < H.size := h3
  omega
theorem TH.off {E : EE} {ty : (Nat → Nat) → Nat → va_E → Prop} {G : Nat → Nat} {H H1 : Heap} {a : Nat} (h : TH E ty G [] H) (h0 : G a = 0) (ho : ∀ q, q ≠ a → H1[q]? = H[q]?) : TH E ty G [] H1 := fun b hb hx => by
  obtain ⟨e, h1, h2⟩ := h b hb hx
  exact ⟨e, h1, h2.kept (ho b (fun q => hb (by rw [q, h0])))⟩
/-- the groups grow: the old ones stay, the new ones are of the object h and of what comes from sz on -/
def GE (G G' : Nat → Nat) (h sz : Nat) : Prop := (∀ a, G a ≠ 0 → G' a = G a) ∧ ∀ a, G' a ≠ 0 → G a ≠ 0 ∨ a = h ∨ sz ≤ a
def GX (G G' : Nat → Nat) (h g sz : Nat) : Prop := GE G G' h sz ∧ G' h = g
theorem GE.rf {G : Nat → Nat} {h sz : Nat} : GE G G h sz := ⟨fun _ _ => rfl, fun _ h => Or.inl h⟩
theorem GE.step {G G1 G2 : Nat → Nat} {h sz q g sz1 : Nat} (h1 : GE G G1 h sz) (h2 : GX G1 G2 q g sz1) (hq : sz ≤ q) (hs : sz ≤ sz1) : GE G G2 h sz := by
  refine ⟨fun a ha => ?_, fun a ha => ?_⟩
  · have h3 := h1.1 a ha
    rw [h2.1.1 a (by rw [h3]; exact ha), h3]
  · rcases h2.1.2 a ha with h | h | h
    · exact h1.2 a h
    · exact Or.inr (Or.inr (by omega))
    · exact Or.inr (Or.inr (by omega))
theorem GE.add {G G1 : Nat → Nat} {h sz q g : Nat} (h1 : GE G G1 h sz) (hz : G1 q = 0) (hq : sz ≤ q) : GE G (va_up G1 q g) h sz := by
  refine ⟨fun a ha => ?_, fun a ha => ?_⟩
  · have h3 := h1.1 a ha
    rw [va_up_ne _ _ (fun e => ha (by rw [← h3, e, hz])), h3]
  · by_cases e : a = q
    · exact Or.inr (Or.inr (by omega))
    · rw [va_up_ne _ _ e] at ha
      exact h1.2 a ha
theorem GE.fin {G G1 : Nat → Nat} {h sz g : Nat} (h1 : GE G G1 h sz) (hz : G1 h = 0) : GX G (va_up G1 h g) h g sz := by
  refine ⟨⟨fun a ha => ?_, fun a ha => ?_⟩, va_up_self _ _ _⟩
  · have h3 := h1.1 a ha
    rw [va_up_ne _ _ (fun e => ha (by rw [← h3, e, hz])), h3]
  · by_cases e : a = h
    · exact Or.inr (Or.inl e)
    · rw [va_up_ne _ _ e] at ha
      exact h1.2 a ha
theorem gx_k {G G' : Nat → Nat} {h g sz a k : Nat} (hx : GX G G' h g sz) (hg : G a = k) (hk : k ≠ 0) : G' a = k := by
  rw [hx.1.1 a (by rw [hg]; exact hk)]; exact hg
theorem gx_0 {G G' : Nat → Nat} {h g sz b : Nat} (hx : GX G G' h g sz) (hb : G b = 0) (hn : b ≠ h) (hl : b < sz) : G' b = 0 := Decidable.byContradiction fun hc => by
  rcases hx.1.2 b hc with h1 | h1 | h1
  · exact h1 hb
  · exact hn h1
  · omega
theorem af_x {G G' : Nat → Nat} {h g sz n k : Nat} {f : Nat → Option Nat} (hx : GX G G' h g sz) (hk : k ≠ 0) (hf : ∀ j, j < n → ∃ b, f j = some b ∧ G b = k) : ∀ j, j < n → ∃ b, f j = some b ∧ G' b = k := fun j hj => by
  obtain ⟨b, h1, h2⟩ := hf j hj
  exact ⟨b, h1, gx_k hx h2 hk⟩
theorem af_up {G : Nat → Nat} {h g n k : Nat} {f : Nat → Option Nat} (hz : G h = 0) (hk : k ≠ 0) (hf : ∀ j, j < n → ∃ b, f j = some b ∧ G b = k) : ∀ j, j < n → ∃ b, f j = some b ∧ va_up G h g b = k := fun j hj => by
  obtain ⟨b, h1, h2⟩ := hf j hj
  exact ⟨b, h1, up_k h2 hz hk⟩
theorem af_0 {G : Nat → Nat} {k : Nat} {f : Nat → Option Nat} : ∀ j, j < 0 → ∃ b, f j = some b ∧ G b = k := fun j hj => absurd hj (Nat.not_lt_zero j)
theorem af_push {G : Nat → Nat} {n q k : Nat} {f : Nat → Option Nat} (hf : ∀ j, j < n → ∃ b, f j = some b ∧ G b = k) (hq : G q = k) : ∀ j, j < n + 1 → ∃ b, va_up f n (some q) j = some b ∧ G b = k := fun j hj => by
  by_cases e : j = n
  · subst e
    exact ⟨q, va_up_self _ _ _, hq⟩
  · obtain ⟨b, h1, h2⟩ := hf j (by omega)
    exact ⟨b, by rw [va_up_ne _ _ e]; exact h1, h2⟩
def AC (h sz : Nat) : Nat → Prop := fun q => q = h ∨ sz ≤ q
theorem xor1_b {x : Int32} (h : 0 ≤ x.toInt ∧ x.toInt ≤ 3) : 0 ≤ (x ^^^ 1).toInt ∧ (x ^^^ 1).toInt ≤ 3 := by
  obtain ⟨j, hj, rfl⟩ := vp_in_of (x := x) (n := 4) (vp_in_iff.mpr ⟨h.1, by omega⟩) (by decide)
  rcases (show j = 0 ∨ j = 1 ∨ j = 2 ∨ j = 3 by omega) with rfl | rfl | rfl | rfl <;> decide
section LPK
variable {p : Program} {l : Launch} {e : Env} {R : Room} {s : State} {m : MethodId} {args : Array Value} {below : List Frame} {meth : Method} {c : Code} {Q : State → Prop} {pc : Nat}
theorem lp_k (I : Nat → Heap → List Loc → Array Slot → Nat → Nat → Prop) (step : ∀ n H locs ls C S, (∀ k, k < n → ∀ H locs ls C S, I k H locs ls C S → W p l e R s m args below meth c H locs C S Q (F0 m pc ls [])) → I n H locs ls C S → W p l e R s m args below meth c H locs C S Q (F0 m pc ls [])) : ∀ {n : Nat} {H : Heap} {locs : List Loc} {ls : Array Slot} {C S : Nat}, I n H locs ls C S → W p l e R s m args below meth c H locs C S Q (F0 m pc ls []) := by
  have key : ∀ n k, k ≤ n → ∀ H locs ls C S, I k H locs ls C S → W p l e R s m args below meth c H locs C S Q (F0 m pc ls []) := by
    intro n
    induction n with
    | zero => intro k hk H locs ls C S h; exact step k H locs ls C S (fun j hj => absurd hj (by omega)) h
    | succ n ih => intro k hk H locs ls C S h; exact step k H locs ls C S (fun j hj => ih j (by omega)) h
  intro n H locs ls C S h
  exact key n n (Nat.le_refl n) H locs ls C S h
end LPK
theorem ne_q {b q n : Nat} (h : b < n) (e : q = n) : b ≠ q := by omega
theorem le_q {sz n m q : Nat} (h1 : n = sz) (h2 : n ≤ m) (h3 : q = m) : sz ≤ q := by omega
theorem ltz_s {b n z : Nat} (h : b < n) (e : z = n) : b < z := by omega
end
section
theorem dX4_init_0 : decode cX4_init 0 = .ok (.aload_n 0, 1) := by decide +kernel
theorem dX4_init_1 : decode cX4_init 1 = .ok (.invokespecial 3, 3) := by decide +kernel
theorem dX4_init_4 : decode cX4_init 4 = .ok (.return_, 1) := by decide +kernel
theorem dX6_init_0 : decode cX6_init 0 = .ok (.aload_n 0, 1) := by decide +kernel
theorem dX6_init_1 : decode cX6_init 1 = .ok (.invokespecial 1, 3) := by decide +kernel
theorem dX6_init_4 : decode cX6_init 4 = .ok (.return_, 1) := by decide +kernel
theorem dX2_init_0 : decode cX2_init 0 = .ok (.aload_n 0, 1) := by decide +kernel
theorem dX2_init_1 : decode cX2_init 1 = .ok (.invokespecial 3, 3) := by decide +kernel
theorem dX2_init_4 : decode cX2_init 4 = .ok (.aload_n 0, 1) := by decide +kernel
theorem dX2_init_5 : decode cX2_init 5 = .ok (.iconst 4, 1) := by decide +kernel
theorem dX2_init_6 : decode cX2_init 6 = .ok (.newarray .int, 2) := by decide +kernel
theorem dX2_init_8 : decode cX2_init 8 = .ok (.putfield 9, 3) := by decide +kernel
theorem dX2_init_11 : decode cX2_init 11 = .ok (.return_, 1) := by decide +kernel
theorem dX5_init_0 : decode cX5_init 0 = .ok (.aload_n 0, 1) := by decide +kernel
theorem dX5_init_1 : decode cX5_init 1 = .ok (.invokespecial 3, 3) := by decide +kernel
theorem dX5_init_4 : decode cX5_init 4 = .ok (.aload_n 0, 1) := by decide +kernel
theorem dX5_init_5 : decode cX5_init 5 = .ok (.iconst 4, 1) := by decide +kernel
theorem dX5_init_6 : decode cX5_init 6 = .ok (.anewarray 9, 3) := by decide +kernel
theorem dX5_init_9 : decode cX5_init 9 = .ok (.putfield 11, 3) := by decide +kernel
theorem dX5_init_12 : decode cX5_init 12 = .ok (.aload_n 0, 1) := by decide +kernel
theorem dX5_init_13 : decode cX5_init 13 = .ok (.iload_n 1, 1) := by decide +kernel
theorem dX5_init_14 : decode cX5_init 14 = .ok (.putfield 17, 3) := by decide +kernel
theorem dX5_init_17 : decode cX5_init 17 = .ok (.aload_n 0, 1) := by decide +kernel
theorem dX5_init_18 : decode cX5_init 18 = .ok (.aload_n 2, 1) := by decide +kernel
theorem dX5_init_19 : decode cX5_init 19 = .ok (.putfield 21, 3) := by decide +kernel
theorem dX5_init_22 : decode cX5_init 22 = .ok (.iconst 0, 1) := by decide +kernel
theorem dX5_init_23 : decode cX5_init 23 = .ok (.istore_n 3, 1) := by decide +kernel
theorem dX5_init_24 : decode cX5_init 24 = .ok (.iload_n 3, 1) := by decide +kernel
theorem dX5_init_25 : decode cX5_init 25 = .ok (.iconst 4, 1) := by decide +kernel
theorem dX5_init_26 : decode cX5_init 26 = .ok (.if_icmp .ge 22, 3) := by decide +kernel
theorem dX5_init_29 : decode cX5_init 29 = .ok (.aload_n 0, 1) := by decide +kernel
theorem dX5_init_30 : decode cX5_init 30 = .ok (.getfield 11, 3) := by decide +kernel
theorem dX5_init_33 : decode cX5_init 33 = .ok (.iload_n 3, 1) := by decide +kernel
theorem dX5_init_34 : decode cX5_init 34 = .ok (.new 9, 3) := by decide +kernel
theorem dX5_init_37 : decode cX5_init 37 = .ok (.dup, 1) := by decide +kernel
theorem dX5_init_38 : decode cX5_init 38 = .ok (.invokespecial 25, 3) := by decide +kernel
theorem dX5_init_41 : decode cX5_init 41 = .ok (.aastore, 1) := by decide +kernel
theorem dX5_init_42 : decode cX5_init 42 = .ok (.iinc 3 1, 3) := by decide +kernel
theorem dX5_init_45 : decode cX5_init 45 = .ok (.goto (-21), 3) := by decide +kernel
theorem dX5_init_48 : decode cX5_init 48 = .ok (.return_, 1) := by decide +kernel
theorem dX8_forgetAdds_0 : decode cX8_forgetAdds 0 = .ok (.iconst 0, 1) := by decide +kernel
theorem dX8_forgetAdds_1 : decode cX8_forgetAdds 1 = .ok (.istore_n 1, 1) := by decide +kernel
theorem dX8_forgetAdds_2 : decode cX8_forgetAdds 2 = .ok (.iload_n 1, 1) := by decide +kernel
theorem dX8_forgetAdds_3 : decode cX8_forgetAdds 3 = .ok (.iconst 2, 1) := by decide +kernel
theorem dX8_forgetAdds_4 : decode cX8_forgetAdds 4 = .ok (.if_icmp .ge 23, 3) := by decide +kernel
theorem dX8_forgetAdds_7 : decode cX8_forgetAdds 7 = .ok (.aload_n 0, 1) := by decide +kernel
theorem dX8_forgetAdds_8 : decode cX8_forgetAdds 8 = .ok (.getfield 9, 3) := by decide +kernel
theorem dX8_forgetAdds_11 : decode cX8_forgetAdds 11 = .ok (.iload_n 1, 1) := by decide +kernel
theorem dX8_forgetAdds_12 : decode cX8_forgetAdds 12 = .ok (.iconst (-1), 1) := by decide +kernel
theorem dX8_forgetAdds_13 : decode cX8_forgetAdds 13 = .ok (.iastore, 1) := by decide +kernel
theorem dX8_forgetAdds_14 : decode cX8_forgetAdds 14 = .ok (.aload_n 0, 1) := by decide +kernel
theorem dX8_forgetAdds_15 : decode cX8_forgetAdds 15 = .ok (.getfield 15, 3) := by decide +kernel
theorem dX8_forgetAdds_18 : decode cX8_forgetAdds 18 = .ok (.iload_n 1, 1) := by decide +kernel
theorem dX8_forgetAdds_19 : decode cX8_forgetAdds 19 = .ok (.iconst 0, 1) := by decide +kernel
theorem dX8_forgetAdds_20 : decode cX8_forgetAdds 20 = .ok (.iastore, 1) := by decide +kernel
theorem dX8_forgetAdds_21 : decode cX8_forgetAdds 21 = .ok (.iinc 1 1, 3) := by decide +kernel
theorem dX8_forgetAdds_24 : decode cX8_forgetAdds 24 = .ok (.goto (-22), 3) := by decide +kernel
theorem dX8_forgetAdds_27 : decode cX8_forgetAdds 27 = .ok (.return_, 1) := by decide +kernel
theorem dX1_init_0 : decode cX1_init 0 = .ok (.aload_n 0, 1) := by decide +kernel
theorem dX1_init_1 : decode cX1_init 1 = .ok (.invokespecial 3, 3) := by decide +kernel
theorem dX1_init_4 : decode cX1_init 4 = .ok (.aload_n 0, 1) := by decide +kernel
theorem dX1_init_5 : decode cX1_init 5 = .ok (.bipush 32, 2) := by decide +kernel
theorem dX1_init_7 : decode cX1_init 7 = .ok (.newarray .int, 2) := by decide +kernel
theorem dX1_init_9 : decode cX1_init 9 = .ok (.putfield 9, 3) := by decide +kernel
theorem dX1_init_12 : decode cX1_init 12 = .ok (.aload_n 0, 1) := by decide +kernel
theorem dX1_init_13 : decode cX1_init 13 = .ok (.bipush 6, 2) := by decide +kernel
theorem dX1_init_15 : decode cX1_init 15 = .ok (.anewarray 15, 3) := by decide +kernel
theorem dX1_init_18 : decode cX1_init 18 = .ok (.putfield 17, 3) := by decide +kernel
theorem dX1_init_21 : decode cX1_init 21 = .ok (.aload_n 0, 1) := by decide +kernel
theorem dX1_init_22 : decode cX1_init 22 = .ok (.bipush 80, 2) := by decide +kernel
theorem dX1_init_24 : decode cX1_init 24 = .ok (.newarray .int, 2) := by decide +kernel
theorem dX1_init_26 : decode cX1_init 26 = .ok (.putfield 21, 3) := by decide +kernel
theorem dX1_init_29 : decode cX1_init 29 = .ok (.iconst 0, 1) := by decide +kernel
theorem dX1_init_30 : decode cX1_init 30 = .ok (.istore_n 1, 1) := by decide +kernel
theorem dX1_init_31 : decode cX1_init 31 = .ok (.iload_n 1, 1) := by decide +kernel
theorem dX1_init_32 : decode cX1_init 32 = .ok (.bipush 6, 2) := by decide +kernel
theorem dX1_init_34 : decode cX1_init 34 = .ok (.if_icmp .ge 22, 3) := by decide +kernel
theorem dX1_init_37 : decode cX1_init 37 = .ok (.aload_n 0, 1) := by decide +kernel
theorem dX1_init_38 : decode cX1_init 38 = .ok (.getfield 17, 3) := by decide +kernel
theorem dX1_init_41 : decode cX1_init 41 = .ok (.iload_n 1, 1) := by decide +kernel
theorem dX1_init_42 : decode cX1_init 42 = .ok (.new 15, 3) := by decide +kernel
theorem dX1_init_45 : decode cX1_init 45 = .ok (.dup, 1) := by decide +kernel
theorem dX1_init_46 : decode cX1_init 46 = .ok (.invokespecial 24, 3) := by decide +kernel
theorem dX1_init_49 : decode cX1_init 49 = .ok (.aastore, 1) := by decide +kernel
theorem dX1_init_50 : decode cX1_init 50 = .ok (.iinc 1 1, 3) := by decide +kernel
theorem dX1_init_53 : decode cX1_init 53 = .ok (.goto (-22), 3) := by decide +kernel
theorem dX1_init_56 : decode cX1_init 56 = .ok (.return_, 1) := by decide +kernel
theorem dX7_init_0 : decode cX7_init 0 = .ok (.aload_n 0, 1) := by decide +kernel
theorem dX7_init_1 : decode cX7_init 1 = .ok (.invokespecial 3, 3) := by decide +kernel
theorem dX7_init_4 : decode cX7_init 4 = .ok (.aload_n 0, 1) := by decide +kernel
theorem dX7_init_5 : decode cX7_init 5 = .ok (.iload_n 1, 1) := by decide +kernel
theorem dX7_init_6 : decode cX7_init 6 = .ok (.invokestatic 9, 3) := by decide +kernel
theorem dX7_init_9 : decode cX7_init 9 = .ok (.putfield 13, 3) := by decide +kernel
theorem dX7_init_12 : decode cX7_init 12 = .ok (.aload_n 0, 1) := by decide +kernel
theorem dX7_init_13 : decode cX7_init 13 = .ok (.aload_n 2, 1) := by decide +kernel
theorem dX7_init_14 : decode cX7_init 14 = .ok (.putfield 19, 3) := by decide +kernel
theorem dX7_init_17 : decode cX7_init 17 = .ok (.aload_n 0, 1) := by decide +kernel
theorem dX7_init_18 : decode cX7_init 18 = .ok (.aload_n 3, 1) := by decide +kernel
theorem dX7_init_19 : decode cX7_init 19 = .ok (.putfield 23, 3) := by decide +kernel
theorem dX7_init_22 : decode cX7_init 22 = .ok (.aload_n 0, 1) := by decide +kernel
theorem dX7_init_23 : decode cX7_init 23 = .ok (.iload 4, 2) := by decide +kernel
theorem dX7_init_25 : decode cX7_init 25 = .ok (.putfield 27, 3) := by decide +kernel
theorem dX7_init_28 : decode cX7_init 28 = .ok (.aload_n 0, 1) := by decide +kernel
theorem dX7_init_29 : decode cX7_init 29 = .ok (.iload 5, 2) := by decide +kernel
theorem dX7_init_31 : decode cX7_init 31 = .ok (.putfield 30, 3) := by decide +kernel
theorem dX7_init_34 : decode cX7_init 34 = .ok (.aload_n 0, 1) := by decide +kernel
theorem dX7_init_35 : decode cX7_init 35 = .ok (.iload 6, 2) := by decide +kernel
theorem dX7_init_37 : decode cX7_init 37 = .ok (.putfield 33, 3) := by decide +kernel
theorem dX7_init_40 : decode cX7_init 40 = .ok (.aload_n 0, 1) := by decide +kernel
theorem dX7_init_41 : decode cX7_init 41 = .ok (.new 36, 3) := by decide +kernel
theorem dX7_init_44 : decode cX7_init 44 = .ok (.dup, 1) := by decide +kernel
theorem dX7_init_45 : decode cX7_init 45 = .ok (.iload_n 1, 1) := by decide +kernel
theorem dX7_init_46 : decode cX7_init 46 = .ok (.aload_n 2, 1) := by decide +kernel
theorem dX7_init_47 : decode cX7_init 47 = .ok (.invokespecial 38, 3) := by decide +kernel
theorem dX7_init_50 : decode cX7_init 50 = .ok (.putfield 41, 3) := by decide +kernel
theorem dX7_init_53 : decode cX7_init 53 = .ok (.return_, 1) := by decide +kernel
theorem dX8_init_0 : decode cX8_init 0 = .ok (.aload_n 0, 1) := by decide +kernel
theorem dX8_init_1 : decode cX8_init 1 = .ok (.invokespecial 3, 3) := by decide +kernel
theorem dX8_init_4 : decode cX8_init 4 = .ok (.aload_n 0, 1) := by decide +kernel
theorem dX8_init_5 : decode cX8_init 5 = .ok (.iconst 2, 1) := by decide +kernel
theorem dX8_init_6 : decode cX8_init 6 = .ok (.newarray .int, 2) := by decide +kernel
theorem dX8_init_8 : decode cX8_init 8 = .ok (.putfield 9, 3) := by decide +kernel
theorem dX8_init_11 : decode cX8_init 11 = .ok (.aload_n 0, 1) := by decide +kernel
theorem dX8_init_12 : decode cX8_init 12 = .ok (.iconst 2, 1) := by decide +kernel
theorem dX8_init_13 : decode cX8_init 13 = .ok (.newarray .int, 2) := by decide +kernel
theorem dX8_init_15 : decode cX8_init 15 = .ok (.putfield 15, 3) := by decide +kernel
theorem dX8_init_18 : decode cX8_init 18 = .ok (.aload_n 0, 1) := by decide +kernel
theorem dX8_init_19 : decode cX8_init 19 = .ok (.iload_n 1, 1) := by decide +kernel
theorem dX8_init_20 : decode cX8_init 20 = .ok (.invokestatic 18, 3) := by decide +kernel
theorem dX8_init_23 : decode cX8_init 23 = .ok (.putfield 22, 3) := by decide +kernel
theorem dX8_init_26 : decode cX8_init 26 = .ok (.aload_n 0, 1) := by decide +kernel
theorem dX8_init_27 : decode cX8_init 27 = .ok (.aload_n 2, 1) := by decide +kernel
theorem dX8_init_28 : decode cX8_init 28 = .ok (.putfield 26, 3) := by decide +kernel
theorem dX8_init_31 : decode cX8_init 31 = .ok (.aload_n 0, 1) := by decide +kernel
theorem dX8_init_32 : decode cX8_init 32 = .ok (.aload_n 3, 1) := by decide +kernel
theorem dX8_init_33 : decode cX8_init 33 = .ok (.putfield 30, 3) := by decide +kernel
theorem dX8_init_36 : decode cX8_init 36 = .ok (.aload_n 0, 1) := by decide +kernel
theorem dX8_init_37 : decode cX8_init 37 = .ok (.new 34, 3) := by decide +kernel
theorem dX8_init_40 : decode cX8_init 40 = .ok (.dup, 1) := by decide +kernel
theorem dX8_init_41 : decode cX8_init 41 = .ok (.iload_n 1, 1) := by decide +kernel
theorem dX8_init_42 : decode cX8_init 42 = .ok (.aload_n 2, 1) := by decide +kernel
theorem dX8_init_43 : decode cX8_init 43 = .ok (.invokespecial 36, 3) := by decide +kernel
theorem dX8_init_46 : decode cX8_init 46 = .ok (.putfield 39, 3) := by decide +kernel
theorem dX8_init_49 : decode cX8_init 49 = .ok (.aload_n 0, 1) := by decide +kernel
theorem dX8_init_50 : decode cX8_init 50 = .ok (.invokevirtual 43, 3) := by decide +kernel
theorem dX8_init_53 : decode cX8_init 53 = .ok (.return_, 1) := by decide +kernel
theorem dX3_init_0 : decode cX3_init 0 = .ok (.aload_n 0, 1) := by decide +kernel
theorem dX3_init_1 : decode cX3_init 1 = .ok (.invokespecial 3, 3) := by decide +kernel
theorem dX3_init_4 : decode cX3_init 4 = .ok (.aload_n 0, 1) := by decide +kernel
theorem dX3_init_5 : decode cX3_init 5 = .ok (.aload_n 1, 1) := by decide +kernel
theorem dX3_init_6 : decode cX3_init 6 = .ok (.putfield 9, 3) := by decide +kernel
theorem dX3_init_9 : decode cX3_init 9 = .ok (.aload_n 0, 1) := by decide +kernel
theorem dX3_init_10 : decode cX3_init 10 = .ok (.aload_n 2, 1) := by decide +kernel
theorem dX3_init_11 : decode cX3_init 11 = .ok (.putfield 15, 3) := by decide +kernel
theorem dX3_init_14 : decode cX3_init 14 = .ok (.return_, 1) := by decide +kernel
theorem dX9_within_0 : decode cX9_within 0 = .ok (.iload_n 1, 1) := by decide +kernel
theorem dX9_within_1 : decode cX9_within 1 = .ok (.iload_n 2, 1) := by decide +kernel
theorem dX9_within_2 : decode cX9_within 2 = .ok (.iload_n 0, 1) := by decide +kernel
theorem dX9_within_3 : decode cX9_within 3 = .ok (.invokestatic 194, 3) := by decide +kernel
theorem dX9_within_6 : decode cX9_within 6 = .ok (.invokestatic 200, 3) := by decide +kernel
theorem dX9_within_9 : decode cX9_within 9 = .ok (.ireturn, 1) := by decide +kernel
theorem gdX0_init_0 : (decode cX0_init 0 = .ok (.aload_n 0, 1)) ∧ (decode cX0_init 1 = .ok (.invokespecial 3, 3)) ∧ (decode cX0_init 4 = .ok (.aload_n 0, 1)) ∧ (decode cX0_init 5 = .ok (.bipush 24, 2)) ∧ (decode cX0_init 7 = .ok (.anewarray 9, 3)) ∧ (decode cX0_init 10 = .ok (.putfield 11, 3)) ∧ (decode cX0_init 13 = .ok (.aload_n 0, 1)) ∧ (decode cX0_init 14 = .ok (.new 9, 3)) ∧ (decode cX0_init 17 = .ok (.dup, 1)) ∧ (decode cX0_init 18 = .ok (.invokespecial 17, 3)) ∧ (decode cX0_init 21 = .ok (.putfield 18, 3)) ∧ (decode cX0_init 24 = .ok (.aload_n 0, 1)) ∧ (decode cX0_init 25 = .ok (.new 9, 3)) ∧ (decode cX0_init 28 = .ok (.dup, 1)) ∧ (decode cX0_init 29 = .ok (.invokespecial 17, 3)) ∧ (decode cX0_init 32 = .ok (.putfield 22, 3)) := by decide +kernel
theorem dX0_init_0 : decode cX0_init 0 = .ok (.aload_n 0, 1) := gdX0_init_0.1
theorem dX0_init_1 : decode cX0_init 1 = .ok (.invokespecial 3, 3) := gdX0_init_0.2.1
theorem dX0_init_4 : decode cX0_init 4 = .ok (.aload_n 0, 1) := gdX0_init_0.2.2.1
theorem dX0_init_5 : decode cX0_init 5 = .ok (.bipush 24, 2) := gdX0_init_0.2.2.2.1
theorem dX0_init_7 : decode cX0_init 7 = .ok (.anewarray 9, 3) := gdX0_init_0.2.2.2.2.1
theorem dX0_init_10 : decode cX0_init 10 = .ok (.putfield 11, 3) := gdX0_init_0.2.2.2.2.2.1
theorem dX0_init_13 : decode cX0_init 13 = .ok (.aload_n 0, 1) := gdX0_init_0.2.2.2.2.2.2.1
theorem dX0_init_14 : decode cX0_init 14 = .ok (.new 9, 3) := gdX0_init_0.2.2.2.2.2.2.2.1
theorem dX0_init_17 : decode cX0_init 17 = .ok (.dup, 1) := gdX0_init_0.2.2.2.2.2.2.2.2.1
theorem dX0_init_18 : decode cX0_init 18 = .ok (.invokespecial 17, 3) := gdX0_init_0.2.2.2.2.2.2.2.2.2.1
theorem dX0_init_21 : decode cX0_init 21 = .ok (.putfield 18, 3) := gdX0_init_0.2.2.2.2.2.2.2.2.2.2.1
theorem dX0_init_24 : decode cX0_init 24 = .ok (.aload_n 0, 1) := gdX0_init_0.2.2.2.2.2.2.2.2.2.2.2.1
theorem dX0_init_25 : decode cX0_init 25 = .ok (.new 9, 3) := gdX0_init_0.2.2.2.2.2.2.2.2.2.2.2.2.1
theorem dX0_init_28 : decode cX0_init 28 = .ok (.dup, 1) := gdX0_init_0.2.2.2.2.2.2.2.2.2.2.2.2.2.1
theorem dX0_init_29 : decode cX0_init 29 = .ok (.invokespecial 17, 3) := gdX0_init_0.2.2.2.2.2.2.2.2.2.2.2.2.2.2.1
theorem dX0_init_32 : decode cX0_init 32 = .ok (.putfield 22, 3) := gdX0_init_0.2.2.2.2.2.2.2.2.2.2.2.2.2.2.2
theorem gdX0_init_35 : (decode cX0_init 35 = .ok (.iconst 0, 1)) ∧ (decode cX0_init 36 = .ok (.istore_n 1, 1)) ∧ (decode cX0_init 37 = .ok (.iload_n 1, 1)) ∧ (decode cX0_init 38 = .ok (.bipush 24, 2)) ∧ (decode cX0_init 40 = .ok (.if_icmp .ge 22, 3)) ∧ (decode cX0_init 43 = .ok (.aload_n 0, 1)) ∧ (decode cX0_init 44 = .ok (.getfield 11, 3)) ∧ (decode cX0_init 47 = .ok (.iload_n 1, 1)) ∧ (decode cX0_init 48 = .ok (.new 9, 3)) ∧ (decode cX0_init 51 = .ok (.dup, 1)) ∧ (decode cX0_init 52 = .ok (.invokespecial 17, 3)) ∧ (decode cX0_init 55 = .ok (.aastore, 1)) ∧ (decode cX0_init 56 = .ok (.iinc 1 1, 3)) ∧ (decode cX0_init 59 = .ok (.goto (-22), 3)) ∧ (decode cX0_init 62 = .ok (.return_, 1)) := by decide +kernel
theorem dX0_init_35 : decode cX0_init 35 = .ok (.iconst 0, 1) := gdX0_init_35.1
theorem dX0_init_36 : decode cX0_init 36 = .ok (.istore_n 1, 1) := gdX0_init_35.2.1
theorem dX0_init_37 : decode cX0_init 37 = .ok (.iload_n 1, 1) := gdX0_init_35.2.2.1
theorem dX0_init_38 : decode cX0_init 38 = .ok (.bipush 24, 2) := gdX0_init_35.2.2.2.1
theorem dX0_init_40 : decode cX0_init 40 = .ok (.if_icmp .ge 22, 3) := gdX0_init_35.2.2.2.2.1
theorem dX0_init_43 : decode cX0_init 43 = .ok (.aload_n 0, 1) := gdX0_init_35.2.2.2.2.2.1
theorem dX0_init_44 : decode cX0_init 44 = .ok (.getfield 11, 3) := gdX0_init_35.2.2.2.2.2.2.1
theorem dX0_init_47 : decode cX0_init 47 = .ok (.iload_n 1, 1) := gdX0_init_35.2.2.2.2.2.2.2.1
theorem dX0_init_48 : decode cX0_init 48 = .ok (.new 9, 3) := gdX0_init_35.2.2.2.2.2.2.2.2.1
theorem dX0_init_51 : decode cX0_init 51 = .ok (.dup, 1) := gdX0_init_35.2.2.2.2.2.2.2.2.2.1
theorem dX0_init_52 : decode cX0_init 52 = .ok (.invokespecial 17, 3) := gdX0_init_35.2.2.2.2.2.2.2.2.2.2.1
theorem dX0_init_55 : decode cX0_init 55 = .ok (.aastore, 1) := gdX0_init_35.2.2.2.2.2.2.2.2.2.2.2.1
theorem dX0_init_56 : decode cX0_init 56 = .ok (.iinc 1 1, 3) := gdX0_init_35.2.2.2.2.2.2.2.2.2.2.2.2.1
theorem dX0_init_59 : decode cX0_init 59 = .ok (.goto (-22), 3) := gdX0_init_35.2.2.2.2.2.2.2.2.2.2.2.2.2.1
theorem dX0_init_62 : decode cX0_init 62 = .ok (.return_, 1) := gdX0_init_35.2.2.2.2.2.2.2.2.2.2.2.2.2.2
theorem gdX9_init_0 : (decode cX9_init 0 = .ok (.aload_n 0, 1)) ∧ (decode cX9_init 1 = .ok (.invokespecial 3, 3)) ∧ (decode cX9_init 4 = .ok (.iload_n 1, 1)) ∧ (decode cX9_init 5 = .ok (.iconst 2, 1)) ∧ (decode cX9_init 6 = .ok (.bipush 20, 2)) ∧ (decode cX9_init 8 = .ok (.invokestatic 9, 3)) ∧ (decode cX9_init 11 = .ok (.istore 4, 2)) ∧ (decode cX9_init 13 = .ok (.iload_n 2, 1)) ∧ (decode cX9_init 14 = .ok (.iconst 0, 1)) ∧ (decode cX9_init 15 = .ok (.bipush 7, 2)) ∧ (decode cX9_init 17 = .ok (.invokestatic 9, 3)) ∧ (decode cX9_init 20 = .ok (.istore 5, 2)) ∧ (decode cX9_init 22 = .ok (.iload_n 3, 1)) ∧ (decode cX9_init 23 = .ok (.iconst 0, 1)) ∧ (decode cX9_init 24 = .ok (.bipush 7, 2)) ∧ (decode cX9_init 26 = .ok (.invokestatic 9, 3)) := by decide +kernel
theorem dX9_init_0 : decode cX9_init 0 = .ok (.aload_n 0, 1) := gdX9_init_0.1
theorem dX9_init_1 : decode cX9_init 1 = .ok (.invokespecial 3, 3) := gdX9_init_0.2.1
theorem dX9_init_4 : decode cX9_init 4 = .ok (.iload_n 1, 1) := gdX9_init_0.2.2.1
theorem dX9_init_5 : decode cX9_init 5 = .ok (.iconst 2, 1) := gdX9_init_0.2.2.2.1
theorem dX9_init_6 : decode cX9_init 6 = .ok (.bipush 20, 2) := gdX9_init_0.2.2.2.2.1
theorem dX9_init_8 : decode cX9_init 8 = .ok (.invokestatic 9, 3) := gdX9_init_0.2.2.2.2.2.1
theorem dX9_init_11 : decode cX9_init 11 = .ok (.istore 4, 2) := gdX9_init_0.2.2.2.2.2.2.1
theorem dX9_init_13 : decode cX9_init 13 = .ok (.iload_n 2, 1) := gdX9_init_0.2.2.2.2.2.2.2.1
theorem dX9_init_14 : decode cX9_init 14 = .ok (.iconst 0, 1) := gdX9_init_0.2.2.2.2.2.2.2.2.1
theorem dX9_init_15 : decode cX9_init 15 = .ok (.bipush 7, 2) := gdX9_init_0.2.2.2.2.2.2.2.2.2.1
theorem dX9_init_17 : decode cX9_init 17 = .ok (.invokestatic 9, 3) := gdX9_init_0.2.2.2.2.2.2.2.2.2.2.1
theorem dX9_init_20 : decode cX9_init 20 = .ok (.istore 5, 2) := gdX9_init_0.2.2.2.2.2.2.2.2.2.2.2.1
theorem dX9_init_22 : decode cX9_init 22 = .ok (.iload_n 3, 1) := gdX9_init_0.2.2.2.2.2.2.2.2.2.2.2.2.1
theorem dX9_init_23 : decode cX9_init 23 = .ok (.iconst 0, 1) := gdX9_init_0.2.2.2.2.2.2.2.2.2.2.2.2.2.1
theorem dX9_init_24 : decode cX9_init 24 = .ok (.bipush 7, 2) := gdX9_init_0.2.2.2.2.2.2.2.2.2.2.2.2.2.2.1
theorem dX9_init_26 : decode cX9_init 26 = .ok (.invokestatic 9, 3) := gdX9_init_0.2.2.2.2.2.2.2.2.2.2.2.2.2.2.2
theorem gdX9_init_29 : (decode cX9_init 29 = .ok (.istore 6, 2)) ∧ (decode cX9_init 31 = .ok (.aload_n 0, 1)) ∧ (decode cX9_init 32 = .ok (.new 13, 3)) ∧ (decode cX9_init 35 = .ok (.dup, 1)) ∧ (decode cX9_init 36 = .ok (.invokespecial 15, 3)) ∧ (decode cX9_init 39 = .ok (.putfield 16, 3)) ∧ (decode cX9_init 42 = .ok (.aload_n 0, 1)) ∧ (decode cX9_init 43 = .ok (.iconst 2, 1)) ∧ (decode cX9_init 44 = .ok (.anewarray 20, 3)) ∧ (decode cX9_init 47 = .ok (.putfield 22, 3)) ∧ (decode cX9_init 50 = .ok (.iconst 0, 1)) ∧ (decode cX9_init 51 = .ok (.istore 7, 2)) ∧ (decode cX9_init 53 = .ok (.iload 7, 2)) ∧ (decode cX9_init 55 = .ok (.iconst 2, 1)) ∧ (decode cX9_init 56 = .ok (.if_icmp .ge 23, 3)) ∧ (decode cX9_init 59 = .ok (.aload_n 0, 1)) := by decide +kernel
theorem dX9_init_29 : decode cX9_init 29 = .ok (.istore 6, 2) := gdX9_init_29.1
theorem dX9_init_31 : decode cX9_init 31 = .ok (.aload_n 0, 1) := gdX9_init_29.2.1
theorem dX9_init_32 : decode cX9_init 32 = .ok (.new 13, 3) := gdX9_init_29.2.2.1
theorem dX9_init_35 : decode cX9_init 35 = .ok (.dup, 1) := gdX9_init_29.2.2.2.1
theorem dX9_init_36 : decode cX9_init 36 = .ok (.invokespecial 15, 3) := gdX9_init_29.2.2.2.2.1
theorem dX9_init_39 : decode cX9_init 39 = .ok (.putfield 16, 3) := gdX9_init_29.2.2.2.2.2.1
theorem dX9_init_42 : decode cX9_init 42 = .ok (.aload_n 0, 1) := gdX9_init_29.2.2.2.2.2.2.1
theorem dX9_init_43 : decode cX9_init 43 = .ok (.iconst 2, 1) := gdX9_init_29.2.2.2.2.2.2.2.1
theorem dX9_init_44 : decode cX9_init 44 = .ok (.anewarray 20, 3) := gdX9_init_29.2.2.2.2.2.2.2.2.1
theorem dX9_init_47 : decode cX9_init 47 = .ok (.putfield 22, 3) := gdX9_init_29.2.2.2.2.2.2.2.2.2.1
theorem dX9_init_50 : decode cX9_init 50 = .ok (.iconst 0, 1) := gdX9_init_29.2.2.2.2.2.2.2.2.2.2.1
theorem dX9_init_51 : decode cX9_init 51 = .ok (.istore 7, 2) := gdX9_init_29.2.2.2.2.2.2.2.2.2.2.2.1
theorem dX9_init_53 : decode cX9_init 53 = .ok (.iload 7, 2) := gdX9_init_29.2.2.2.2.2.2.2.2.2.2.2.2.1
theorem dX9_init_55 : decode cX9_init 55 = .ok (.iconst 2, 1) := gdX9_init_29.2.2.2.2.2.2.2.2.2.2.2.2.2.1
theorem dX9_init_56 : decode cX9_init 56 = .ok (.if_icmp .ge 23, 3) := gdX9_init_29.2.2.2.2.2.2.2.2.2.2.2.2.2.2.1
theorem dX9_init_59 : decode cX9_init 59 = .ok (.aload_n 0, 1) := gdX9_init_29.2.2.2.2.2.2.2.2.2.2.2.2.2.2.2
theorem gdX9_init_60 : (decode cX9_init 60 = .ok (.getfield 22, 3)) ∧ (decode cX9_init 63 = .ok (.iload 7, 2)) ∧ (decode cX9_init 65 = .ok (.new 20, 3)) ∧ (decode cX9_init 68 = .ok (.dup, 1)) ∧ (decode cX9_init 69 = .ok (.invokespecial 26, 3)) ∧ (decode cX9_init 72 = .ok (.aastore, 1)) ∧ (decode cX9_init 73 = .ok (.iinc 7 1, 3)) ∧ (decode cX9_init 76 = .ok (.goto (-23), 3)) ∧ (decode cX9_init 79 = .ok (.aload_n 0, 1)) ∧ (decode cX9_init 80 = .ok (.iconst 4, 1)) ∧ (decode cX9_init 81 = .ok (.anewarray 27, 3)) ∧ (decode cX9_init 84 = .ok (.putfield 29, 3)) ∧ (decode cX9_init 87 = .ok (.iconst 0, 1)) ∧ (decode cX9_init 88 = .ok (.istore 7, 2)) ∧ (decode cX9_init 90 = .ok (.iload 7, 2)) ∧ (decode cX9_init 92 = .ok (.iconst 4, 1)) := by decide +kernel
theorem dX9_init_60 : decode cX9_init 60 = .ok (.getfield 22, 3) := gdX9_init_60.1
theorem dX9_init_63 : decode cX9_init 63 = .ok (.iload 7, 2) := gdX9_init_60.2.1
theorem dX9_init_65 : decode cX9_init 65 = .ok (.new 20, 3) := gdX9_init_60.2.2.1
theorem dX9_init_68 : decode cX9_init 68 = .ok (.dup, 1) := gdX9_init_60.2.2.2.1
theorem dX9_init_69 : decode cX9_init 69 = .ok (.invokespecial 26, 3) := gdX9_init_60.2.2.2.2.1
theorem dX9_init_72 : decode cX9_init 72 = .ok (.aastore, 1) := gdX9_init_60.2.2.2.2.2.1
theorem dX9_init_73 : decode cX9_init 73 = .ok (.iinc 7 1, 3) := gdX9_init_60.2.2.2.2.2.2.1
theorem dX9_init_76 : decode cX9_init 76 = .ok (.goto (-23), 3) := gdX9_init_60.2.2.2.2.2.2.2.1
theorem dX9_init_79 : decode cX9_init 79 = .ok (.aload_n 0, 1) := gdX9_init_60.2.2.2.2.2.2.2.2.1
theorem dX9_init_80 : decode cX9_init 80 = .ok (.iconst 4, 1) := gdX9_init_60.2.2.2.2.2.2.2.2.2.1
theorem dX9_init_81 : decode cX9_init 81 = .ok (.anewarray 27, 3) := gdX9_init_60.2.2.2.2.2.2.2.2.2.2.1
theorem dX9_init_84 : decode cX9_init 84 = .ok (.putfield 29, 3) := gdX9_init_60.2.2.2.2.2.2.2.2.2.2.2.1
theorem dX9_init_87 : decode cX9_init 87 = .ok (.iconst 0, 1) := gdX9_init_60.2.2.2.2.2.2.2.2.2.2.2.2.1
theorem dX9_init_88 : decode cX9_init 88 = .ok (.istore 7, 2) := gdX9_init_60.2.2.2.2.2.2.2.2.2.2.2.2.2.1
theorem dX9_init_90 : decode cX9_init 90 = .ok (.iload 7, 2) := gdX9_init_60.2.2.2.2.2.2.2.2.2.2.2.2.2.2.1
theorem dX9_init_92 : decode cX9_init 92 = .ok (.iconst 4, 1) := gdX9_init_60.2.2.2.2.2.2.2.2.2.2.2.2.2.2.2
theorem gdX9_init_93 : (decode cX9_init 93 = .ok (.if_icmp .ge 74, 3)) ∧ (decode cX9_init 96 = .ok (.aload_n 0, 1)) ∧ (decode cX9_init 97 = .ok (.getfield 22, 3)) ∧ (decode cX9_init 100 = .ok (.iload 7, 2)) ∧ (decode cX9_init 102 = .ok (.iconst 2, 1)) ∧ (decode cX9_init 103 = .ok (.irem, 1)) ∧ (decode cX9_init 104 = .ok (.aaload, 1)) ∧ (decode cX9_init 105 = .ok (.astore 8, 2)) ∧ (decode cX9_init 107 = .ok (.new 33, 3)) ∧ (decode cX9_init 110 = .ok (.dup, 1)) ∧ (decode cX9_init 111 = .ok (.iload 7, 2)) ∧ (decode cX9_init 113 = .ok (.aload 8, 2)) ∧ (decode cX9_init 115 = .ok (.aload_n 0, 1)) ∧ (decode cX9_init 116 = .ok (.getfield 16, 3)) ∧ (decode cX9_init 119 = .ok (.iload 4, 2)) ∧ (decode cX9_init 121 = .ok (.iload 5, 2)) := by decide +kernel
theorem dX9_init_93 : decode cX9_init 93 = .ok (.if_icmp .ge 74, 3) := gdX9_init_93.1
theorem dX9_init_96 : decode cX9_init 96 = .ok (.aload_n 0, 1) := gdX9_init_93.2.1
theorem dX9_init_97 : decode cX9_init 97 = .ok (.getfield 22, 3) := gdX9_init_93.2.2.1
theorem dX9_init_100 : decode cX9_init 100 = .ok (.iload 7, 2) := gdX9_init_93.2.2.2.1
theorem dX9_init_102 : decode cX9_init 102 = .ok (.iconst 2, 1) := gdX9_init_93.2.2.2.2.1
theorem dX9_init_103 : decode cX9_init 103 = .ok (.irem, 1) := gdX9_init_93.2.2.2.2.2.1
theorem dX9_init_104 : decode cX9_init 104 = .ok (.aaload, 1) := gdX9_init_93.2.2.2.2.2.2.1
theorem dX9_init_105 : decode cX9_init 105 = .ok (.astore 8, 2) := gdX9_init_93.2.2.2.2.2.2.2.1
theorem dX9_init_107 : decode cX9_init 107 = .ok (.new 33, 3) := gdX9_init_93.2.2.2.2.2.2.2.2.1
theorem dX9_init_110 : decode cX9_init 110 = .ok (.dup, 1) := gdX9_init_93.2.2.2.2.2.2.2.2.2.1
theorem dX9_init_111 : decode cX9_init 111 = .ok (.iload 7, 2) := gdX9_init_93.2.2.2.2.2.2.2.2.2.2.1
theorem dX9_init_113 : decode cX9_init 113 = .ok (.aload 8, 2) := gdX9_init_93.2.2.2.2.2.2.2.2.2.2.2.1
theorem dX9_init_115 : decode cX9_init 115 = .ok (.aload_n 0, 1) := gdX9_init_93.2.2.2.2.2.2.2.2.2.2.2.2.1
theorem dX9_init_116 : decode cX9_init 116 = .ok (.getfield 16, 3) := gdX9_init_93.2.2.2.2.2.2.2.2.2.2.2.2.2.1
theorem dX9_init_119 : decode cX9_init 119 = .ok (.iload 4, 2) := gdX9_init_93.2.2.2.2.2.2.2.2.2.2.2.2.2.2.1
theorem dX9_init_121 : decode cX9_init 121 = .ok (.iload 5, 2) := gdX9_init_93.2.2.2.2.2.2.2.2.2.2.2.2.2.2.2
theorem gdX9_init_123 : (decode cX9_init 123 = .ok (.iload 6, 2)) ∧ (decode cX9_init 125 = .ok (.invokespecial 35, 3)) ∧ (decode cX9_init 128 = .ok (.astore 9, 2)) ∧ (decode cX9_init 130 = .ok (.aload_n 0, 1)) ∧ (decode cX9_init 131 = .ok (.getfield 29, 3)) ∧ (decode cX9_init 134 = .ok (.iload 7, 2)) ∧ (decode cX9_init 136 = .ok (.new 27, 3)) ∧ (decode cX9_init 139 = .ok (.dup, 1)) ∧ (decode cX9_init 140 = .ok (.aload 9, 2)) ∧ (decode cX9_init 142 = .ok (.new 38, 3)) ∧ (decode cX9_init 145 = .ok (.dup, 1)) ∧ (decode cX9_init 146 = .ok (.iload 7, 2)) ∧ (decode cX9_init 148 = .ok (.aload 8, 2)) ∧ (decode cX9_init 150 = .ok (.aload_n 0, 1)) ∧ (decode cX9_init 151 = .ok (.getfield 16, 3)) ∧ (decode cX9_init 154 = .ok (.invokespecial 40, 3)) := by decide +kernel
theorem dX9_init_123 : decode cX9_init 123 = .ok (.iload 6, 2) := gdX9_init_123.1
theorem dX9_init_125 : decode cX9_init 125 = .ok (.invokespecial 35, 3) := gdX9_init_123.2.1
theorem dX9_init_128 : decode cX9_init 128 = .ok (.astore 9, 2) := gdX9_init_123.2.2.1
theorem dX9_init_130 : decode cX9_init 130 = .ok (.aload_n 0, 1) := gdX9_init_123.2.2.2.1
theorem dX9_init_131 : decode cX9_init 131 = .ok (.getfield 29, 3) := gdX9_init_123.2.2.2.2.1
theorem dX9_init_134 : decode cX9_init 134 = .ok (.iload 7, 2) := gdX9_init_123.2.2.2.2.2.1
theorem dX9_init_136 : decode cX9_init 136 = .ok (.new 27, 3) := gdX9_init_123.2.2.2.2.2.2.1
theorem dX9_init_139 : decode cX9_init 139 = .ok (.dup, 1) := gdX9_init_123.2.2.2.2.2.2.2.1
theorem dX9_init_140 : decode cX9_init 140 = .ok (.aload 9, 2) := gdX9_init_123.2.2.2.2.2.2.2.2.1
theorem dX9_init_142 : decode cX9_init 142 = .ok (.new 38, 3) := gdX9_init_123.2.2.2.2.2.2.2.2.2.1
theorem dX9_init_145 : decode cX9_init 145 = .ok (.dup, 1) := gdX9_init_123.2.2.2.2.2.2.2.2.2.2.1
theorem dX9_init_146 : decode cX9_init 146 = .ok (.iload 7, 2) := gdX9_init_123.2.2.2.2.2.2.2.2.2.2.2.1
theorem dX9_init_148 : decode cX9_init 148 = .ok (.aload 8, 2) := gdX9_init_123.2.2.2.2.2.2.2.2.2.2.2.2.1
theorem dX9_init_150 : decode cX9_init 150 = .ok (.aload_n 0, 1) := gdX9_init_123.2.2.2.2.2.2.2.2.2.2.2.2.2.1
theorem dX9_init_151 : decode cX9_init 151 = .ok (.getfield 16, 3) := gdX9_init_123.2.2.2.2.2.2.2.2.2.2.2.2.2.2.1
theorem dX9_init_154 : decode cX9_init 154 = .ok (.invokespecial 40, 3) := gdX9_init_123.2.2.2.2.2.2.2.2.2.2.2.2.2.2.2
theorem gdX9_init_157 : (decode cX9_init 157 = .ok (.invokespecial 43, 3)) ∧ (decode cX9_init 160 = .ok (.aastore, 1)) ∧ (decode cX9_init 161 = .ok (.iinc 7 1, 3)) ∧ (decode cX9_init 164 = .ok (.goto (-74), 3)) ∧ (decode cX9_init 167 = .ok (.return_, 1)) := by decide +kernel
theorem dX9_init_157 : decode cX9_init 157 = .ok (.invokespecial 43, 3) := gdX9_init_157.1
theorem dX9_init_160 : decode cX9_init 160 = .ok (.aastore, 1) := gdX9_init_157.2.1
theorem dX9_init_161 : decode cX9_init 161 = .ok (.iinc 7 1, 3) := gdX9_init_157.2.2.1
theorem dX9_init_164 : decode cX9_init 164 = .ok (.goto (-74), 3) := gdX9_init_157.2.2.2.1
theorem dX9_init_167 : decode cX9_init 167 = .ok (.return_, 1) := gdX9_init_157.2.2.2.2
end
section
theorem ne_o {s a b : Nat} (h : a ≠ b) : s + a ≠ s + b := by omega
theorem ne_h {h s a : Nat} (h1 : h < s) : h ≠ s + a := by omega
theorem ne_h' {h s a : Nat} (h1 : h < s) : s + a ≠ h := by omega
theorem arr_cg {E : EE} {a n : Nat} {c : ClassId} {f g : Nat → Option Nat} {H : Heap} (h : va_at (DG E) vwCl (a, .inl (c, n, .inr (.inr (.inr (.inr f))))) H) (e : ∀ i, i < n → f i = g i) : va_at (DG E) vwCl (a, .inl (c, n, .inr (.inr (.inr (.inr g))))) H := by
  have h : H[a]? = some (arrV c n (fun j => va_rf (f j))) := h
  show H[a]? = some (arrV c n (fun j => va_rf (g j)))
  rw [h]
  congr 1
  unfold arrV
  congr 1
  congr 1
  funext j
  show va_rf (f j.val) = va_rf (g j.val)
  rw [e j.val j.isLt]
theorem arr_cgi {E : EE} {a n : Nat} {c : ClassId} {f g : Nat → Int32} {H : Heap} (h : va_at (DG E) vwCl (a, .inl (c, n, .inl f)) H) (e : ∀ i, i < n → f i = g i) : va_at (DG E) vwCl (a, .inl (c, n, .inl g)) H := by
  have h : H[a]? = some (arrV c n (fun j => .int (f j))) := h
  show H[a]? = some (arrV c n (fun j => .int (g j)))
  rw [h]
  congr 1
  unfold arrV
  congr 1
  congr 1
  funext j
  show Value.int (f j.val) = Value.int (g j.val)
  rw [e j.val j.isLt]
def PKB (E : EE) (b : Nat) (n : Nat) (H : Heap) : Prop := ∀ p, p < n → va_at (DG E) vwCl (b + 2 * p, .inr (2, [.int 0, .int 0, .int 0, .int 0, .int 0, .int 0, .int 0, .ref (b + 2 * p + 1)])) H ∧ va_at (DG E) vwCl (b + 2 * p + 1, .inl (E.2.2 0, 4, .inl (fun _ => 0))) H
theorem PKB.keptS {E : EE} {b n : Nat} {H H1 : Heap} (h : PKB E b n H) (ho : ∀ q, q < H.size → H1[q]? = H[q]?) : PKB E b n H1 := fun p hp => ⟨(h p hp).1.kept (ho _ (h p hp).1.lt), (h p hp).2.kept (ho _ (h p hp).2.lt)⟩
theorem PKB.keptW {E : EE} {b n a : Nat} {H H1 : Heap} (h : PKB E b n H) (ho : ∀ q, q ≠ a → H1[q]? = H[q]?) (ha : a < b ∨ b + 2 * n ≤ a) : PKB E b n H1 := fun p hp => ⟨(h p hp).1.kept (ho _ (by show b + 2 * p ≠ a; omega)), (h p hp).2.kept (ho _ (by show b + 2 * p + 1 ≠ a; omega))⟩
theorem PKB.keptC {E : EE} {b n a z : Nat} {H H1 : Heap} (h : PKB E b n H) (hk : ∀ q, q < H.size → ¬ AC a z q → H1[q]? = H[q]?) (ha : a < b ∨ b + 2 * n ≤ a) (hz : b + 2 * n ≤ z) : PKB E b n H1 := fun p hp => ⟨(h p hp).1.kept (hk _ (h p hp).1.lt (fun q => q.elim (fun e => by have e : b + 2 * p = a := e; omega) (fun e => by have e : z ≤ b + 2 * p := e; omega))), (h p hp).2.kept (hk _ (h p hp).2.lt (fun q => q.elim (fun e => by have e : b + 2 * p + 1 = a := e; omega) (fun e => by have e : z ≤ b + 2 * p + 1 := e; omega)))⟩
theorem PKB.push {E : EE} {b n : Nat} {H : Heap} (h : PKB E b n H) (h1 : va_at (DG E) vwCl (b + 2 * n, .inr (2, [.int 0, .int 0, .int 0, .int 0, .int 0, .int 0, .int 0, .ref (b + 2 * n + 1)])) H) (h2 : va_at (DG E) vwCl (b + 2 * n + 1, .inl (E.2.2 0, 4, .inl (fun _ => 0))) H) : PKB E b (n + 1) H := fun p hp => by
  by_cases e : p = n
  · subst e; exact ⟨h1, h2⟩
  · exact h p (by omega)
theorem le54 {s k : Nat} (h : 54 ≤ k) : s + 2 + 2 * 26 ≤ s + k := by omega
end
section
/-- the least and the greatest that a setting may be -/
def wi (v lo hi : Int32) : Int32 := if lo < (if v < hi then v else hi) then (if v < hi then v else hi) else lo
theorem wi_t (v lo hi : Int32) : (wi v lo hi).toInt = max lo.toInt (min v.toInt hi.toInt) := by
  unfold wi
  by_cases h1 : v < hi
  · rw [if_pos h1]
    rw [lt_I] at h1
    by_cases h2 : lo < v
    · rw [if_pos h2]; rw [lt_I] at h2; omega
    · rw [if_neg h2]; rw [lt_I] at h2; omega
  · rw [if_neg h1]
    rw [lt_I] at h1
    by_cases h2 : lo < hi
    · rw [if_pos h2]; rw [lt_I] at h2; omega
    · rw [if_neg h2]; rw [lt_I] at h2; omega
theorem wi_20 {v r : Int32} (h : r.toInt = max 2 (min v.toInt 20)) : r = wi v 2 20 := by
  apply i32_eq
  rw [wi_t, i_2, i_20]
  exact h
theorem wi_7 {v r : Int32} (h : r.toInt = max 0 (min v.toInt 7)) : r = wi v 0 7 := by
  apply i32_eq
  rw [wi_t, i_0, i_7]
  exact h
theorem wi_2 {v : Int32} : 2 ≤ (wi v 2 20).toInt := by
  rw [wi_t, i_2, i_20]
  omega
/-- what is made first: the groups, the numbers, the addresses, by their place after the first free one -/
def gs (n : Nat) : Nat :=
  if n < 54 then (if n = 0 then 4 else if n = 1 then 30 else if n % 2 = 0 then 31 else 32)
  else if n < 75 then (if n = 54 then 2 else match (n - 55) % 10 with | 0 => 5 | 1 => 14 | 2 => 6 | 3 => 15 | _ => 7)
  else if n < 144 then (if n = 75 then 3 else match (n - 76) % 17 with | 0 => 9 | 1 => 11 | 2 => 12 | 3 => 13 | 4 => 13 | 5 => 13 | 6 => 13 | 7 => 8 | 8 => 10 | 9 => 16 | 10 => 17 | 11 => 11 | 12 => 12 | _ => 13)
  else 0
def pr (q : Nat) : Int32 := match q with | 0 => 0 | 1 => 1 | 2 => 2 | _ => 3
def bs (w0 w1 w2 : Int32) (n j : Nat) : Int32 := match gs n with
  | 9 => match j with | 0 => pr ((n - 76) / 17) ^^^ 1 | 3 => w0 | 4 => w1 | 5 => w2 | _ => 0
  | 10 => match j with | 0 => pr ((n - 76) / 17) ^^^ 1 | _ => 0
  | 11 => match j with | 0 => pr ((n - 76) / 17) | _ => 0
  | 16 => -1
  | _ => 0
def rs (n j : Nat) : Nat := match gs n with
  | 4 => match j with | 0 => 1 | 2 => 2 | _ => 4
  | 30 => 6 + 2 * j
  | 31 => n + 1
  | 2 => 55 + 10 * j
  | 5 => match j with | 0 => n + 1 | 1 => n + 2 | _ => n + 3
  | 6 => n + 2 + j
  | 3 => 83 + 17 * j
  | 9 => match j with | 1 => 55 + 10 * ((n - 76) / 17 % 2) | 2 => 0 | _ => n + 1
  | 11 => match j with | 1 => 55 + 10 * ((n - 76) / 17 % 2) | _ => n + 1
  | 12 => n + 1 + j
  | 8 => match j with | 0 => n - 7 | _ => n + 1
  | 10 => match j with | 1 => 55 + 10 * ((n - 76) / 17 % 2) | 2 => 0 | 3 => n + 3 | 7 => n + 1 | _ => n + 2
  | _ => 0
def ctab (E : EE) (sz : Nat) (w0 w1 w2 : Int32) (n : Nat) : va_E := ctx E (gs n) (bs w0 w1 w2 n) (fun j => sz + rs n j)
/-- what is there below k, but for some -/
def TB (E : EE) (sz : Nat) (w0 w1 w2 : Int32) (k : Nat) (ex : List Nat) (H : Heap) : Prop := ∀ n, n < k → n ∉ ex → va_at (DG E) vwCl (sz + n, ctab E sz w0 w1 w2 n) H
section TBS
variable {E : EE} {sz : Nat} {w0 w1 w2 : Int32} {k k2 : Nat} {ex ex2 : List Nat} {H H1 : Heap}
theorem TB.nil : TB E sz w0 w1 w2 0 ex H := fun n h _ => absurd h (Nat.not_lt_zero n)
theorem TB.keptS (h : TB E sz w0 w1 w2 k ex H) (ho : ∀ q, q < H.size → H1[q]? = H[q]?) : TB E sz w0 w1 w2 k ex H1 := fun n h1 h2 => (h n h1 h2).kept (ho _ (h n h1 h2).lt)
theorem TB.keptN (h : TB E sz w0 w1 w2 k ex H) (hk : ∀ q, q < H.size → ¬ (fun _ : Nat => False) q → H1[q]? = H[q]?) : TB E sz w0 w1 w2 k ex H1 := fun n h1 h2 => (h n h1 h2).kept (hk _ (h n h1 h2).lt (fun h => h))
theorem TB.keptH {h0 : Nat} (h : TB E sz w0 w1 w2 k ex H) (hlt : h0 < sz) (ho : ∀ q, q ≠ h0 → H1[q]? = H[q]?) : TB E sz w0 w1 w2 k ex H1 := fun n h1 h2 => (h n h1 h2).kept (ho _ (by show sz + n ≠ h0; omega))
theorem TB.keptW {j : Nat} (h : TB E sz w0 w1 w2 k ex H) (ho : ∀ q, q ≠ sz + j → H1[q]? = H[q]?) (hj : k ≤ j ∨ j ∈ ex) : TB E sz w0 w1 w2 k ex H1 := fun n h1 h2 => (h n h1 h2).kept (ho _ (by
  show sz + n ≠ sz + j
  intro e
  obtain rfl : n = j := by omega
  exact hj.elim (fun h3 => by omega) h2))
theorem TB.keptC {j z : Nat} (h : TB E sz w0 w1 w2 k ex H) (hk : ∀ q, q < H.size → ¬ AC (sz + j) (sz + z) q → H1[q]? = H[q]?) (hj : k ≤ j ∨ j ∈ ex) (hz : k ≤ z) : TB E sz w0 w1 w2 k ex H1 := fun n h1 h2 => (h n h1 h2).kept (hk _ (h n h1 h2).lt (fun q => by
  rcases q with e | e
  · have e : sz + n = sz + j := e
    obtain rfl : n = j := by omega
    exact hj.elim (fun h3 => by omega) h2
  · have e : sz + z ≤ sz + n := e
    omega))
theorem TB.grow (h : TB E sz w0 w1 w2 k ex H) (hn : ∀ n, n < k2 → n ∉ ex2 → (n < k ∧ n ∉ ex) ∨ va_at (DG E) vwCl (sz + n, ctab E sz w0 w1 w2 n) H) : TB E sz w0 w1 w2 k2 ex2 H := fun n h1 h2 => (hn n h1 h2).elim (fun h3 => h n h3.1 h3.2) (fun h3 => h3)
theorem bs_0 {n : Nat} (h : gs n = 31 ∨ gs n = 32) : bs w0 w1 w2 n = fun _ => 0 := by
  funext j
  unfold bs
  rcases h with h | h <;> (rw [h]; rfl)
theorem pk_g : ∀ p, p < 26 → gs (2 + 2 * p) = 31 ∧ gs (2 + 2 * p + 1) = 32 ∧ rs (2 + 2 * p) 7 = 2 + 2 * p + 1 := by decide
theorem PKB.tb (h : PKB E (sz + 2) 26 H) {n : Nat} (h1 : 2 ≤ n) (h2 : n < 54) : va_at (DG E) vwCl (sz + n, ctab E sz w0 w1 w2 n) H := by
  obtain ⟨p, hp, e⟩ : ∃ p, p < 26 ∧ (n = 2 + 2 * p ∨ n = 2 + 2 * p + 1) := ⟨(n - 2) / 2, by omega, by omega⟩
  obtain ⟨k1, k2, k3⟩ := pk_g p hp
  rcases e with rfl | rfl
  · have h9 := (h p hp).1
    unfold ctab
    rw [k1, bs_0 (Or.inl k1)]
    show va_at (DG E) vwCl (sz + (2 + 2 * p), .inr (2, [.int 0, .int 0, .int 0, .int 0, .int 0, .int 0, .int 0, .ref (sz + rs (2 + 2 * p) 7)])) H
    rw [k3, show sz + (2 + 2 * p + 1) = sz + 2 + 2 * p + 1 by omega, show sz + (2 + 2 * p) = sz + 2 + 2 * p by omega]
    exact h9
  · have h9 := (h p hp).2
    unfold ctab
    rw [k2, bs_0 (Or.inr k2), show sz + (2 + 2 * p + 1) = sz + 2 + 2 * p + 1 by omega]
    exact h9
end TBS
/-- the class's first heap -/
def G0 (x a : Nat) : Nat := if a < x then 0 else if a = x then 1 else gs (a - (x + 1))
def B0 (x : Nat) (w0 w1 w2 : Int32) : AA := fun a j => if a = x then 0 else bs w0 w1 w2 (a - (x + 1)) j
def R0 (x : Nat) : RR := fun a j => if a = x then (match j with | 0 => x + 1 + 54 | 1 => x + 1 + 75 | _ => x + 1 + 0) else x + 1 + rs (a - (x + 1)) j
section ST0
variable {E : EE} {x : Nat} {w0 w1 w2 : Int32} {H : Heap}
theorem G0_s {n a : Nat} (e : a = x + 1 + n) : G0 x a = gs n := by
  unfold G0
  rw [if_neg (by omega), if_neg (by omega), e, Nat.add_sub_cancel_left]
theorem G0_x : G0 x x = 1 := by
  unfold G0
  rw [if_neg (by omega), if_pos rfl]
theorem B0_s {n a : Nat} (e : a = x + 1 + n) : B0 x w0 w1 w2 a = bs w0 w1 w2 n := by
  funext j
  unfold B0
  rw [if_neg (by omega), e, Nat.add_sub_cancel_left]
theorem R0_s {n a : Nat} (e : a = x + 1 + n) : R0 x a = fun j => x + 1 + rs n j := by
  funext j
  unfold R0
  rw [if_neg (by omega), e, Nat.add_sub_cancel_left]
theorem gs_lt {n : Nat} (h : gs n ≠ 0) : n < 144 := by
  by_cases h1 : n < 144
  · exact h1
  · exact absurd (by unfold gs; rw [if_neg (by omega), if_neg (by omega), if_neg h1]) h
theorem G0_lt {a : Nat} (h : G0 x a ≠ 0) : x ≤ a ∧ a < x + 145 := by
  by_cases h1 : a < x
  · exact absurd (by unfold G0; rw [if_pos h1]) h
  · by_cases h2 : a = x
    · omega
    · rw [G0_s (n := a - (x + 1)) (by omega)] at h
      have h3 := gs_lt h
      omega
theorem TX.start (h0 : va_at (DG E) vwCl (x, .inr (9, [.ref (x + 1 + 54), .ref (x + 1 + 75), .ref (x + 1 + 0)])) H) (h : TB E (x + 1) w0 w1 w2 144 [] H) : TX E (G0 x) (B0 x w0 w1 w2) (R0 x) H := fun a ha => by
  by_cases h1 : a = x
  · subst h1
    rw [G0_x]
    have e : ∀ j, R0 a a j = (match j with | 0 => a + 1 + 54 | 1 => a + 1 + 75 | _ => a + 1 + 0) := fun j => if_pos rfl
    show va_at (DG E) vwCl (a, .inr (9, [.ref (R0 a a 0), .ref (R0 a a 1), .ref (R0 a a 2)])) H
    rw [e 0, e 1, e 2]
    exact h0
  · have h2 := G0_lt ha
    obtain ⟨n, rfl⟩ : ∃ n, a = x + 1 + n := ⟨a - (x + 1), by omega⟩
    rw [G0_s rfl, B0_s rfl, R0_s rfl]
    exact h n (by omega) List.not_mem_nil
theorem GRX.start : GRX x (G0 x) := by
  refine ⟨⟨G0_x, G0_s (n := 0) (by omega), G0_s (n := 1) (by omega), G0_s (n := 54) (by omega), G0_s (n := 75) (by omega)⟩, fun p hp => ?_, fun n hn => ?_, fun q hq => ?_⟩
  · obtain ⟨k1, k2, k3⟩ := pk_g p hp
    exact ⟨(G0_s (by omega)).trans k1, (G0_s (by omega)).trans k2⟩
  · rcases (show n = 0 ∨ n = 1 by omega) with rfl | rfl
    · refine ⟨G0_s (n := 55) (by omega), G0_s (n := 56) (by omega), G0_s (n := 57) (by omega), G0_s (n := 58) (by omega), fun j hj => (G0_s (n := 59 + j) (by omega)).trans ?_⟩
      revert j; decide
    · refine ⟨G0_s (n := 65) (by omega), G0_s (n := 66) (by omega), G0_s (n := 67) (by omega), G0_s (n := 68) (by omega), fun j hj => (G0_s (n := 69 + j) (by omega)).trans ?_⟩
      revert j; decide
  · rcases (show q = 0 ∨ q = 1 ∨ q = 2 ∨ q = 3 by omega) with rfl | rfl | rfl | rfl
    · exact ⟨G0_s (n := 76) (by omega), G0_s (n := 77) (by omega), G0_s (n := 78) (by omega), G0_s (n := 83) (by omega), G0_s (n := 84) (by omega), G0_s (n := 85) (by omega), G0_s (n := 86) (by omega), G0_s (n := 87) (by omega), G0_s (n := 88) (by omega), fun i hi => ⟨(G0_s (n := 79 + i) (by omega)).trans (by revert i; decide), (G0_s (n := 89 + i) (by omega)).trans (by revert i; decide)⟩⟩
    · exact ⟨G0_s (n := 93) (by omega), G0_s (n := 94) (by omega), G0_s (n := 95) (by omega), G0_s (n := 100) (by omega), G0_s (n := 101) (by omega), G0_s (n := 102) (by omega), G0_s (n := 103) (by omega), G0_s (n := 104) (by omega), G0_s (n := 105) (by omega), fun i hi => ⟨(G0_s (n := 96 + i) (by omega)).trans (by revert i; decide), (G0_s (n := 106 + i) (by omega)).trans (by revert i; decide)⟩⟩
    · exact ⟨G0_s (n := 110) (by omega), G0_s (n := 111) (by omega), G0_s (n := 112) (by omega), G0_s (n := 117) (by omega), G0_s (n := 118) (by omega), G0_s (n := 119) (by omega), G0_s (n := 120) (by omega), G0_s (n := 121) (by omega), G0_s (n := 122) (by omega), fun i hi => ⟨(G0_s (n := 113 + i) (by omega)).trans (by revert i; decide), (G0_s (n := 123 + i) (by omega)).trans (by revert i; decide)⟩⟩
    · exact ⟨G0_s (n := 127) (by omega), G0_s (n := 128) (by omega), G0_s (n := 129) (by omega), G0_s (n := 134) (by omega), G0_s (n := 135) (by omega), G0_s (n := 136) (by omega), G0_s (n := 137) (by omega), G0_s (n := 138) (by omega), G0_s (n := 139) (by omega), fun i hi => ⟨(G0_s (n := 130 + i) (by omega)).trans (by revert i; decide), (G0_s (n := 140 + i) (by omega)).trans (by revert i; decide)⟩⟩
theorem SHX.start : SHX x (R0 x) := by
  have hx : ∀ j, R0 x x j = (match j with | 0 => x + 1 + 54 | 1 => x + 1 + 75 | _ => x + 1 + 0) := fun j => if_pos rfl
  have hr : ∀ {n a j v : Nat}, a = x + 1 + n → rs n j = v → R0 x a j = x + 1 + v := fun e1 e2 => by rw [R0_s e1]; exact congrArg (fun z => x + 1 + z) e2
  refine ⟨⟨(hx 0).trans (by show x + 1 + 54 = x + 55; omega), (hx 1).trans (by show x + 1 + 75 = x + 76; omega), hx 2⟩, fun n hn => ?_, fun q hq => ?_, fun q hq => ?_, fun q hq => ?_, fun q hq => ?_, fun q hq => ?_, ?_⟩
  · rcases (show n = 0 ∨ n = 1 by omega) with rfl | rfl
    · exact ⟨(hr (n := 54) (v := 55) (by omega) rfl).trans (by omega), (hr (n := 55) (v := 56) (by omega) rfl).trans (by omega), (hr (n := 55) (v := 57) (by omega) rfl).trans (by omega), (hr (n := 55) (v := 58) (by omega) rfl).trans (by omega), fun j hj => (hr (n := 57) (v := 57 + 2 + j) (by omega) rfl).trans (by omega)⟩
    · exact ⟨(hr (n := 54) (v := 65) (by omega) rfl).trans (by omega), (hr (n := 65) (v := 66) (by omega) rfl).trans (by omega), (hr (n := 65) (v := 67) (by omega) rfl).trans (by omega), (hr (n := 65) (v := 68) (by omega) rfl).trans (by omega), fun j hj => (hr (n := 67) (v := 67 + 2 + j) (by omega) rfl).trans (by omega)⟩
  · rcases (show q = 0 ∨ q = 1 ∨ q = 2 ∨ q = 3 by omega) with rfl | rfl | rfl | rfl
    · exact ⟨(hr (n := 75) (v := 83) (by omega) rfl).trans (by omega), (hr (n := 83) (v := 76) (by omega) rfl).trans (by omega), (hr (n := 83) (v := 84) (by omega) rfl).trans (by omega)⟩
    · exact ⟨(hr (n := 75) (v := 100) (by omega) rfl).trans (by omega), (hr (n := 100) (v := 93) (by omega) rfl).trans (by omega), (hr (n := 100) (v := 101) (by omega) rfl).trans (by omega)⟩
    · exact ⟨(hr (n := 75) (v := 117) (by omega) rfl).trans (by omega), (hr (n := 117) (v := 110) (by omega) rfl).trans (by omega), (hr (n := 117) (v := 118) (by omega) rfl).trans (by omega)⟩
    · exact ⟨(hr (n := 75) (v := 134) (by omega) rfl).trans (by omega), (hr (n := 134) (v := 127) (by omega) rfl).trans (by omega), (hr (n := 134) (v := 135) (by omega) rfl).trans (by omega)⟩
  · rcases (show q = 0 ∨ q = 1 ∨ q = 2 ∨ q = 3 by omega) with rfl | rfl | rfl | rfl
    · exact ⟨(hr (n := 76) (v := 55) (by omega) rfl).trans (by omega), (hr (n := 76) (v := 0) (by omega) rfl).trans (by omega), (hr (n := 76) (v := 77) (by omega) rfl).trans (by omega)⟩
    · exact ⟨(hr (n := 93) (v := 65) (by omega) rfl).trans (by omega), (hr (n := 93) (v := 0) (by omega) rfl).trans (by omega), (hr (n := 93) (v := 94) (by omega) rfl).trans (by omega)⟩
    · exact ⟨(hr (n := 110) (v := 55) (by omega) rfl).trans (by omega), (hr (n := 110) (v := 0) (by omega) rfl).trans (by omega), (hr (n := 110) (v := 111) (by omega) rfl).trans (by omega)⟩
    · exact ⟨(hr (n := 127) (v := 65) (by omega) rfl).trans (by omega), (hr (n := 127) (v := 0) (by omega) rfl).trans (by omega), (hr (n := 127) (v := 128) (by omega) rfl).trans (by omega)⟩
  · rcases (show q = 0 ∨ q = 1 ∨ q = 2 ∨ q = 3 by omega) with rfl | rfl | rfl | rfl
    · exact ⟨(hr (n := 77) (v := 55) (by omega) rfl).trans (by omega), (hr (n := 77) (v := 78) (by omega) rfl).trans (by omega), fun i hi => (hr (n := 78) (v := 78 + 1 + i) (by omega) rfl).trans (by omega)⟩
    · exact ⟨(hr (n := 94) (v := 65) (by omega) rfl).trans (by omega), (hr (n := 94) (v := 95) (by omega) rfl).trans (by omega), fun i hi => (hr (n := 95) (v := 95 + 1 + i) (by omega) rfl).trans (by omega)⟩
    · exact ⟨(hr (n := 111) (v := 55) (by omega) rfl).trans (by omega), (hr (n := 111) (v := 112) (by omega) rfl).trans (by omega), fun i hi => (hr (n := 112) (v := 112 + 1 + i) (by omega) rfl).trans (by omega)⟩
    · exact ⟨(hr (n := 128) (v := 65) (by omega) rfl).trans (by omega), (hr (n := 128) (v := 129) (by omega) rfl).trans (by omega), fun i hi => (hr (n := 129) (v := 129 + 1 + i) (by omega) rfl).trans (by omega)⟩
  · rcases (show q = 0 ∨ q = 1 ∨ q = 2 ∨ q = 3 by omega) with rfl | rfl | rfl | rfl
    · exact ⟨(hr (n := 84) (v := 55) (by omega) rfl).trans (by omega), (hr (n := 84) (v := 0) (by omega) rfl).trans (by omega), (hr (n := 84) (v := 87) (by omega) rfl).trans (by omega), (hr (n := 84) (v := 85) (by omega) rfl).trans (by omega), (hr (n := 84) (v := 86) (by omega) rfl).trans (by omega)⟩
    · exact ⟨(hr (n := 101) (v := 65) (by omega) rfl).trans (by omega), (hr (n := 101) (v := 0) (by omega) rfl).trans (by omega), (hr (n := 101) (v := 104) (by omega) rfl).trans (by omega), (hr (n := 101) (v := 102) (by omega) rfl).trans (by omega), (hr (n := 101) (v := 103) (by omega) rfl).trans (by omega)⟩
    · exact ⟨(hr (n := 118) (v := 55) (by omega) rfl).trans (by omega), (hr (n := 118) (v := 0) (by omega) rfl).trans (by omega), (hr (n := 118) (v := 121) (by omega) rfl).trans (by omega), (hr (n := 118) (v := 119) (by omega) rfl).trans (by omega), (hr (n := 118) (v := 120) (by omega) rfl).trans (by omega)⟩
    · exact ⟨(hr (n := 135) (v := 65) (by omega) rfl).trans (by omega), (hr (n := 135) (v := 0) (by omega) rfl).trans (by omega), (hr (n := 135) (v := 138) (by omega) rfl).trans (by omega), (hr (n := 135) (v := 136) (by omega) rfl).trans (by omega), (hr (n := 135) (v := 137) (by omega) rfl).trans (by omega)⟩
  · rcases (show q = 0 ∨ q = 1 ∨ q = 2 ∨ q = 3 by omega) with rfl | rfl | rfl | rfl
    · exact ⟨(hr (n := 87) (v := 55) (by omega) rfl).trans (by omega), (hr (n := 87) (v := 88) (by omega) rfl).trans (by omega), fun i hi => (hr (n := 88) (v := 88 + 1 + i) (by omega) rfl).trans (by omega)⟩
    · exact ⟨(hr (n := 104) (v := 65) (by omega) rfl).trans (by omega), (hr (n := 104) (v := 105) (by omega) rfl).trans (by omega), fun i hi => (hr (n := 105) (v := 105 + 1 + i) (by omega) rfl).trans (by omega)⟩
    · exact ⟨(hr (n := 121) (v := 55) (by omega) rfl).trans (by omega), (hr (n := 121) (v := 122) (by omega) rfl).trans (by omega), fun i hi => (hr (n := 122) (v := 122 + 1 + i) (by omega) rfl).trans (by omega)⟩
    · exact ⟨(hr (n := 138) (v := 65) (by omega) rfl).trans (by omega), (hr (n := 138) (v := 139) (by omega) rfl).trans (by omega), fun i hi => (hr (n := 139) (v := 139 + 1 + i) (by omega) rfl).trans (by omega)⟩
  · refine ⟨(hr (n := 0) (v := 1) (by omega) rfl).trans (by omega), (hr (n := 0) (v := 4) (by omega) rfl).trans (by omega), fun p hp => ?_⟩
    obtain ⟨k1, k2, k3⟩ := pk_g p hp
    exact (hr (n := 2 + 2 * p) (by omega) k3).trans (by omega)
end ST0
section ST1
variable {x : Nat} {w0 w1 w2 : Int32}
theorem gs_in : ∀ n, n < 144 → gs n = 2 ∨ gs n = 3 ∨ gs n = 4 ∨ gs n = 5 ∨ gs n = 6 ∨ gs n = 7 ∨ gs n = 8 ∨ gs n = 9 ∨ gs n = 10 ∨ gs n = 11 ∨ gs n = 12 ∨ gs n = 13 ∨ gs n = 14 ∨ gs n = 15 ∨ gs n = 16 ∨ gs n = 17 ∨ gs n = 30 ∨ gs n = 31 ∨ gs n = 32 := by decide
theorem st_2 : ∀ n, n < 144 → gs n = 2 → ∀ i, i < 2 → gs (rs n i) = 5 := by decide +kernel
theorem st_3 : ∀ n, n < 144 → gs n = 3 → ∀ i, i < 4 → gs (rs n i) = 8 := by decide +kernel
theorem st_4 : ∀ n, n < 144 → gs n = 4 → gs (rs n 0) = 30 ∧ (0 ≤ (bs 0 0 0 n 1).toInt ∧ (bs 0 0 0 n 1).toInt ≤ 24) ∧ gs (rs n 2) = 31 ∧ gs (rs n 3) = 31 := by decide +kernel
theorem st_5 : ∀ n, n < 144 → gs n = 5 → gs (rs n 0) = 14 ∧ gs (rs n 1) = 6 ∧ gs (rs n 2) = 15 ∧ (0 ≤ (bs 0 0 0 n 3).toInt ∧ (bs 0 0 0 n 3).toInt ≤ 15) ∧ (0 ≤ (bs 0 0 0 n 4).toInt ∧ (bs 0 0 0 n 4).toInt ≤ 16) := by decide +kernel
theorem st_6 : ∀ n, n < 144 → gs n = 6 → ∀ i, i < 6 → gs (rs n i) = 7 := by decide +kernel
theorem st_8 : ∀ n, n < 144 → gs n = 8 → gs (rs n 0) = 9 ∧ gs (rs n 1) = 10 := by decide +kernel
theorem st_9 : ∀ n, n < 144 → gs n = 9 → (0 ≤ (bs 0 0 0 n 0).toInt ∧ (bs 0 0 0 n 0).toInt ≤ 3) ∧ gs (rs n 1) = 5 ∧ gs (rs n 2) = 4 ∧ gs (rs n 6) = 11 := by decide +kernel
theorem st_10 : ∀ n, n < 144 → gs n = 10 → (0 ≤ (bs 0 0 0 n 0).toInt ∧ (bs 0 0 0 n 0).toInt ≤ 3) ∧ gs (rs n 1) = 5 ∧ gs (rs n 2) = 4 ∧ gs (rs n 3) = 11 ∧ gs (rs n 7) = 16 ∧ gs (rs n 8) = 17 := by decide +kernel
theorem st_11 : ∀ n, n < 144 → gs n = 11 → gs (rs n 1) = 5 ∧ gs (rs n 2) = 12 ∧ (0 ≤ (bs 0 0 0 n 3).toInt ∧ (bs 0 0 0 n 3).toInt ≤ 3) ∧ (0 ≤ (bs 0 0 0 n 4).toInt ∧ (bs 0 0 0 n 4).toInt ≤ 4) := by decide +kernel
theorem st_12 : ∀ n, n < 144 → gs n = 12 → ∀ i, i < 4 → gs (rs n i) = 13 := by decide +kernel
theorem st_13 : ∀ n, n < 144 → gs n = 13 → (0 ≤ (bs 0 0 0 n 3).toInt ∧ (bs 0 0 0 n 3).toInt ≤ 12) := by decide +kernel
theorem st_30 : ∀ n, n < 144 → gs n = 30 → ∀ i, i < 24 → gs (rs n i) = 31 := by decide +kernel
theorem st_31 : ∀ n, n < 144 → gs n = 31 → (0 ≤ (bs 0 0 0 n 0).toInt ∧ (bs 0 0 0 n 0).toInt ≤ 3) ∧ (bs 0 0 0 n 3).toInt ≤ 12 ∧ gs (rs n 7) = 32 := by decide +kernel
theorem bs_w {n j : Nat} (h : j ≠ 3 ∧ j ≠ 4 ∧ j ≠ 5 ∨ gs n ≠ 9) : bs w0 w1 w2 n j = bs 0 0 0 n j := by
  unfold bs
  split
  · split
    · rfl
    · exact absurd rfl (h.elim (fun h => h.1) (fun h9 => absurd ‹gs n = 9› h9))
    · exact absurd rfl (h.elim (fun h => h.2.1) (fun h9 => absurd ‹gs n = 9› h9))
    · exact absurd rfl (h.elim (fun h => h.2.2) (fun h9 => absurd ‹gs n = 9› h9))
    · rfl
  all_goals rfl
theorem TW.start : TW (G0 x) (B0 x w0 w1 w2) (R0 x) := fun a => by
  by_cases h1 : a = x
  · subst h1
    rw [G0_x]
    have e : ∀ j, R0 a a j = (match j with | 0 => a + 1 + 54 | 1 => a + 1 + 75 | _ => a + 1 + 0) := fun j => if_pos rfl
    show G0 a (R0 a a 0) = 2 ∧ G0 a (R0 a a 1) = 3 ∧ G0 a (R0 a a 2) = 4
    rw [e 0, e 1, e 2]
    exact ⟨G0_s rfl, G0_s rfl, G0_s rfl⟩
  · by_cases h2 : G0 x a = 0
    · rw [h2]; exact trivial
    · have h3 := G0_lt h2
      obtain ⟨n, rfl⟩ : ∃ n, a = x + 1 + n := ⟨a - (x + 1), by omega⟩
      have hn : n < 144 := by omega
      rw [G0_s rfl, B0_s rfl, R0_s rfl]
      have hG : ∀ {i g : Nat}, gs i = g → G0 x (x + 1 + i) = g := fun h => (G0_s rfl).trans h
      rcases gs_in n hn with h | h | h | h | h | h | h | h | h | h | h | h | h | h | h | h | h | h | h
      · rw [h]; exact fun i hi => hG (st_2 n hn h i hi)
      · rw [h]; exact fun i hi => hG (st_3 n hn h i hi)
      · have k := st_4 n hn h
        rw [h]
        obtain ⟨k0, k1, k2, k3⟩ := k
        exact ⟨hG k0, (by rw [bs_w (j := 1) (by first | exact Or.inl (by decide) | exact Or.inr (by rw [h]; decide))]; exact k1), hG k2, hG k3⟩
      · have k := st_5 n hn h
        rw [h]
        obtain ⟨k0, k1, k2, k3, k4⟩ := k
        exact ⟨hG k0, hG k1, hG k2, (by rw [bs_w (j := 3) (by first | exact Or.inl (by decide) | exact Or.inr (by rw [h]; decide))]; exact k3), (by rw [bs_w (j := 4) (by first | exact Or.inl (by decide) | exact Or.inr (by rw [h]; decide))]; exact k4)⟩
      · rw [h]; exact fun i hi => hG (st_6 n hn h i hi)
      · rw [h]; exact trivial
      · have k := st_8 n hn h
        rw [h]
        obtain ⟨k0, k1⟩ := k
        exact ⟨hG k0, hG k1⟩
      · have k := st_9 n hn h
        rw [h]
        obtain ⟨k0, k1, k2, k3⟩ := k
        exact ⟨(by rw [bs_w (j := 0) (by first | exact Or.inl (by decide) | exact Or.inr (by rw [h]; decide))]; exact k0), hG k1, hG k2, hG k3⟩
      · have k := st_10 n hn h
        rw [h]
        obtain ⟨k0, k1, k2, k3, k4, k5⟩ := k
        exact ⟨(by rw [bs_w (j := 0) (by first | exact Or.inl (by decide) | exact Or.inr (by rw [h]; decide))]; exact k0), hG k1, hG k2, hG k3, hG k4, hG k5⟩
      · have k := st_11 n hn h
        rw [h]
        obtain ⟨k0, k1, k2, k3⟩ := k
        exact ⟨hG k0, hG k1, (by rw [bs_w (j := 3) (by first | exact Or.inl (by decide) | exact Or.inr (by rw [h]; decide))]; exact k2), (by rw [bs_w (j := 4) (by first | exact Or.inl (by decide) | exact Or.inr (by rw [h]; decide))]; exact k3)⟩
      · rw [h]; exact fun i hi => hG (st_12 n hn h i hi)
      · have k := st_13 n hn h
        rw [h]
        have k0 := k
        exact (show 0 ≤ (bs w0 w1 w2 n 3).toInt ∧ (bs w0 w1 w2 n 3).toInt ≤ 12 from (by rw [bs_w (j := 3) (by first | exact Or.inl (by decide) | exact Or.inr (by rw [h]; decide))]; exact k0))
      · rw [h]; exact trivial
      · rw [h]; exact trivial
      · rw [h]; exact trivial
      · rw [h]; exact trivial
      · rw [h]; exact fun i hi => hG (st_30 n hn h i hi)
      · have k := st_31 n hn h
        rw [h]
        obtain ⟨k0, k1, k2⟩ := k
        exact ⟨(by rw [bs_w (j := 0) (by first | exact Or.inl (by decide) | exact Or.inr (by rw [h]; decide))]; exact k0), (by rw [bs_w (j := 3) (by first | exact Or.inl (by decide) | exact Or.inr (by rw [h]; decide))]; exact k1), hG k2⟩
      · rw [h]; exact trivial
theorem i32_01 : (0 : Int32).toInt = 0 := by decide
theorem sim_start (hw : 2 ≤ w0.toInt) : SIM x w0 w1 w2 (B0 x w0 w1 w2) (R0 x) (fun _ _ => 0) 0 := by
  have hr : ∀ {n a j v : Nat}, a = x + 1 + n → rs n j = v → R0 x a j = x + 1 + v := fun e1 e2 => by rw [R0_s e1]; exact congrArg (fun z => x + 1 + z) e2
  have hb : ∀ {n a j : Nat} {v : Int32}, a = x + 1 + n → bs w0 w1 w2 n j = v → B0 x w0 w1 w2 a j = v := fun e1 e2 => by rw [B0_s e1, e2]
  have hz : ¬ (0 : Int32).toInt = 1 := by decide
  have z0 := i32_01
  refine ⟨SHX.start, ⟨fun i => 2 + i, 0, ⟨(hr (n := 0) (v := 2) (by omega) rfl).trans (by omega), fun i hi => (hr (n := 1) (v := 6 + 2 * i) (by omega) rfl).trans (by show x + 1 + (6 + 2 * i) = x + 3 + 2 * (2 + i); omega), by decide, by decide, fun i hi => ⟨by show 2 + i < 26; omega, by show 2 + i ≠ 1; omega, by show 2 + i ≠ 0; omega⟩, fun i j _ _ e => by have e : 2 + i = 2 + j := e; omega⟩, hb (n := 0) (by omega) rfl, fun i hi => by rw [z0] at hi; omega⟩, fun n hn c hc => ?_, fun n hn j hj => ?_, fun n hn => ?_, fun q hq => ?_⟩
  · rcases (show n = 0 ∨ n = 1 by omega) with rfl | rfl
    · exact hb (n := 56) (by omega) rfl
    · exact hb (n := 66) (by omega) rfl
  · have k : ∀ n, n < 2 → ∀ j, j < 6 → gs (59 + 10 * n + j) = 7 := by decide
    have k1 : ∀ i, B0 x w0 w1 w2 (x + 60 + 10 * n + j) i = 0 := fun i => hb (n := 59 + 10 * n + j) (by omega) (by unfold bs; rw [k n hn j hj]; rfl)
    exact ⟨k1 0, k1 1, k1 2, by show 0 ≤ (0 : Int32).toInt; decide, by show (0 : Int32).toInt ≤ 7; decide⟩
  · refine ⟨0, by decide, ?_, ?_, fun i p hi hp => by have hi : (i : Int) < (0 : Int32).toInt := hi; omega⟩
    · rcases (show n = 0 ∨ n = 1 by omega) with rfl | rfl
      · rw [hb (n := 55) (v := 0) (by omega) rfl]; rfl
      · rw [hb (n := 65) (v := 0) (by omega) rfl]; rfl
    · rcases (show n = 0 ∨ n = 1 by omega) with rfl | rfl
      · exact hb (n := 55) (by omega) rfl
      · exact hb (n := 65) (by omega) rfl
  · have hT : 2 ≤ w0.toInt → TIM w0 0 0 := fun h => ⟨fun _ => by rw [z0]; omega, fun h9 => absurd h9 hz⟩
    rcases (show q = 0 ∨ q = 1 ∨ q = 2 ∨ q = 3 by omega) with rfl | rfl | rfl | rfl
    · exact ⟨⟨(by rw [hb (n := 76) (v := pr 0 ^^^ 1) (by omega) rfl]; decide), hb (n := 76) (v := w0) (by omega) rfl, hb (n := 76) (v := w1) (by omega) rfl, hb (n := 76) (v := w2) (by omega) rfl, (by rw [hb (n := 84) (v := pr 0 ^^^ 1) (by omega) rfl]; decide), (by rw [hb (n := 77) (v := pr 0) (by omega) rfl]; decide), (by rw [hb (n := 87) (v := pr 0) (by omega) rfl]; decide)⟩, ⟨hb (n := 83) (v := 0) (by omega) rfl, fun h9 => absurd h9 hz, ⟨hb (n := 76) (v := 0) (by omega) rfl, hb (n := 76) (v := 0) (by omega) rfl, hb (n := 76) (v := 0) (by omega) rfl⟩, fun _ => ⟨hb (n := 76) (v := 0) (by omega) rfl, hT hw⟩, ⟨hb (n := 84) (v := 0) (by omega) rfl, hb (n := 84) (v := 0) (by omega) rfl⟩, ⟨by show 0 ≤ (0 : Int32).toInt; decide, by show (0 : Int32).toInt ≤ 63; decide⟩, ⟨by show 0 ≤ (0 : Int32).toInt; decide, by show (0 : Int32).toInt ≤ 2; decide⟩, (Or.inl rfl), (Or.inl rfl), (Or.inl rfl)⟩, ⟨0, by decide, (by rw [hb (n := 77) (v := 0) (by omega) rfl]; rfl), hb (n := 77) (v := 0) (by omega) rfl, hb (n := 77) (v := 0) (by omega) rfl, fun i hi => by have hi : (i : Int) < (0 : Int32).toInt := hi; omega⟩, ⟨0, by decide, (by rw [hb (n := 87) (v := 0) (by omega) rfl]; rfl), hb (n := 87) (v := 0) (by omega) rfl, hb (n := 87) (v := 0) (by omega) rfl, fun i hi => by have hi : (i : Int) < (0 : Int32).toInt := hi; omega⟩, ⟨fun i hi h9 => by have h9 : (i : Int) < (0 : Int32).toInt := h9; omega, fun i hi _ => hb (n := 85) (by omega) rfl⟩⟩
    · exact ⟨⟨(by rw [hb (n := 93) (v := pr 1 ^^^ 1) (by omega) rfl]; decide), hb (n := 93) (v := w0) (by omega) rfl, hb (n := 93) (v := w1) (by omega) rfl, hb (n := 93) (v := w2) (by omega) rfl, (by rw [hb (n := 101) (v := pr 1 ^^^ 1) (by omega) rfl]; decide), (by rw [hb (n := 94) (v := pr 1) (by omega) rfl]; decide), (by rw [hb (n := 104) (v := pr 1) (by omega) rfl]; decide)⟩, ⟨hb (n := 100) (v := 0) (by omega) rfl, fun h9 => absurd h9 hz, ⟨hb (n := 93) (v := 0) (by omega) rfl, hb (n := 93) (v := 0) (by omega) rfl, hb (n := 93) (v := 0) (by omega) rfl⟩, fun _ => ⟨hb (n := 93) (v := 0) (by omega) rfl, hT hw⟩, ⟨hb (n := 101) (v := 0) (by omega) rfl, hb (n := 101) (v := 0) (by omega) rfl⟩, ⟨by show 0 ≤ (0 : Int32).toInt; decide, by show (0 : Int32).toInt ≤ 63; decide⟩, ⟨by show 0 ≤ (0 : Int32).toInt; decide, by show (0 : Int32).toInt ≤ 2; decide⟩, (Or.inl rfl), (Or.inl rfl), (Or.inl rfl)⟩, ⟨0, by decide, (by rw [hb (n := 94) (v := 0) (by omega) rfl]; rfl), hb (n := 94) (v := 0) (by omega) rfl, hb (n := 94) (v := 0) (by omega) rfl, fun i hi => by have hi : (i : Int) < (0 : Int32).toInt := hi; omega⟩, ⟨0, by decide, (by rw [hb (n := 104) (v := 0) (by omega) rfl]; rfl), hb (n := 104) (v := 0) (by omega) rfl, hb (n := 104) (v := 0) (by omega) rfl, fun i hi => by have hi : (i : Int) < (0 : Int32).toInt := hi; omega⟩, ⟨fun i hi h9 => by have h9 : (i : Int) < (0 : Int32).toInt := h9; omega, fun i hi _ => hb (n := 102) (by omega) rfl⟩⟩
    · exact ⟨⟨(by rw [hb (n := 110) (v := pr 2 ^^^ 1) (by omega) rfl]; decide), hb (n := 110) (v := w0) (by omega) rfl, hb (n := 110) (v := w1) (by omega) rfl, hb (n := 110) (v := w2) (by omega) rfl, (by rw [hb (n := 118) (v := pr 2 ^^^ 1) (by omega) rfl]; decide), (by rw [hb (n := 111) (v := pr 2) (by omega) rfl]; decide), (by rw [hb (n := 121) (v := pr 2) (by omega) rfl]; decide)⟩, ⟨hb (n := 117) (v := 0) (by omega) rfl, fun h9 => absurd h9 hz, ⟨hb (n := 110) (v := 0) (by omega) rfl, hb (n := 110) (v := 0) (by omega) rfl, hb (n := 110) (v := 0) (by omega) rfl⟩, fun _ => ⟨hb (n := 110) (v := 0) (by omega) rfl, hT hw⟩, ⟨hb (n := 118) (v := 0) (by omega) rfl, hb (n := 118) (v := 0) (by omega) rfl⟩, ⟨by show 0 ≤ (0 : Int32).toInt; decide, by show (0 : Int32).toInt ≤ 63; decide⟩, ⟨by show 0 ≤ (0 : Int32).toInt; decide, by show (0 : Int32).toInt ≤ 2; decide⟩, (Or.inl rfl), (Or.inl rfl), (Or.inl rfl)⟩, ⟨0, by decide, (by rw [hb (n := 111) (v := 0) (by omega) rfl]; rfl), hb (n := 111) (v := 0) (by omega) rfl, hb (n := 111) (v := 0) (by omega) rfl, fun i hi => by have hi : (i : Int) < (0 : Int32).toInt := hi; omega⟩, ⟨0, by decide, (by rw [hb (n := 121) (v := 0) (by omega) rfl]; rfl), hb (n := 121) (v := 0) (by omega) rfl, hb (n := 121) (v := 0) (by omega) rfl, fun i hi => by have hi : (i : Int) < (0 : Int32).toInt := hi; omega⟩, ⟨fun i hi h9 => by have h9 : (i : Int) < (0 : Int32).toInt := h9; omega, fun i hi _ => hb (n := 119) (by omega) rfl⟩⟩
    · exact ⟨⟨(by rw [hb (n := 127) (v := pr 3 ^^^ 1) (by omega) rfl]; decide), hb (n := 127) (v := w0) (by omega) rfl, hb (n := 127) (v := w1) (by omega) rfl, hb (n := 127) (v := w2) (by omega) rfl, (by rw [hb (n := 135) (v := pr 3 ^^^ 1) (by omega) rfl]; decide), (by rw [hb (n := 128) (v := pr 3) (by omega) rfl]; decide), (by rw [hb (n := 138) (v := pr 3) (by omega) rfl]; decide)⟩, ⟨hb (n := 134) (v := 0) (by omega) rfl, fun h9 => absurd h9 hz, ⟨hb (n := 127) (v := 0) (by omega) rfl, hb (n := 127) (v := 0) (by omega) rfl, hb (n := 127) (v := 0) (by omega) rfl⟩, fun _ => ⟨hb (n := 127) (v := 0) (by omega) rfl, hT hw⟩, ⟨hb (n := 135) (v := 0) (by omega) rfl, hb (n := 135) (v := 0) (by omega) rfl⟩, ⟨by show 0 ≤ (0 : Int32).toInt; decide, by show (0 : Int32).toInt ≤ 63; decide⟩, ⟨by show 0 ≤ (0 : Int32).toInt; decide, by show (0 : Int32).toInt ≤ 2; decide⟩, (Or.inl rfl), (Or.inl rfl), (Or.inl rfl)⟩, ⟨0, by decide, (by rw [hb (n := 128) (v := 0) (by omega) rfl]; rfl), hb (n := 128) (v := 0) (by omega) rfl, hb (n := 128) (v := 0) (by omega) rfl, fun i hi => by have hi : (i : Int) < (0 : Int32).toInt := hi; omega⟩, ⟨0, by decide, (by rw [hb (n := 138) (v := 0) (by omega) rfl]; rfl), hb (n := 138) (v := 0) (by omega) rfl, hb (n := 138) (v := 0) (by omega) rfl, fun i hi => by have hi : (i : Int) < (0 : Int32).toInt := hi; omega⟩, ⟨fun i hi h9 => by have h9 : (i : Int) < (0 : Int32).toInt := h9; omega, fun i hi _ => hb (n := 136) (by omega) rfl⟩⟩
end ST1
theorem riv_start : RIV (fun _ _ => 0) 0 := by
  have z1 : ¬ (0 : Int32).toInt = 1 := by decide
  exact ⟨⟨fun n _ => by simp [i32_01], fun n _ => by simp [i32_01], fun q _ => ⟨fun h => absurd h z1, Or.inr i32_01⟩, fun n _ => by simp [i32_01], fun n _ => by simp [i32_01], fun n _ => by simp [i32_01], fun n _ => by simp [i32_01]⟩, by decide, by decide⟩
end
section
theorem gdX10_init_0 : (decode cX10_init 0 = .ok (.aload_n 0, 1)) ∧ (decode cX10_init 1 = .ok (.invokespecial 1, 3)) ∧ (decode cX10_init 4 = .ok (.aload_n 0, 1)) ∧ (decode cX10_init 5 = .ok (.bipush 64, 2)) ∧ (decode cX10_init 7 = .ok (.newarray .int, 2)) ∧ (decode cX10_init 9 = .ok (.putfield 7, 3)) ∧ (decode cX10_init 12 = .ok (.aload_n 0, 1)) ∧ (decode cX10_init 13 = .ok (.bipush 12, 2)) ∧ (decode cX10_init 15 = .ok (.newarray .int, 2)) ∧ (decode cX10_init 17 = .ok (.putfield 13, 3)) ∧ (decode cX10_init 20 = .ok (.aload_n 0, 1)) ∧ (decode cX10_init 21 = .ok (.bipush 12, 2)) ∧ (decode cX10_init 23 = .ok (.newarray .int, 2)) ∧ (decode cX10_init 25 = .ok (.putfield 16, 3)) ∧ (decode cX10_init 28 = .ok (.aload_n 0, 1)) ∧ (decode cX10_init 29 = .ok (.bipush 12, 2)) := by decide +kernel
theorem dX10_init_0 : decode cX10_init 0 = .ok (.aload_n 0, 1) := gdX10_init_0.1
theorem dX10_init_1 : decode cX10_init 1 = .ok (.invokespecial 1, 3) := gdX10_init_0.2.1
theorem dX10_init_4 : decode cX10_init 4 = .ok (.aload_n 0, 1) := gdX10_init_0.2.2.1
theorem dX10_init_5 : decode cX10_init 5 = .ok (.bipush 64, 2) := gdX10_init_0.2.2.2.1
theorem dX10_init_7 : decode cX10_init 7 = .ok (.newarray .int, 2) := gdX10_init_0.2.2.2.2.1
theorem dX10_init_9 : decode cX10_init 9 = .ok (.putfield 7, 3) := gdX10_init_0.2.2.2.2.2.1
theorem dX10_init_12 : decode cX10_init 12 = .ok (.aload_n 0, 1) := gdX10_init_0.2.2.2.2.2.2.1
theorem dX10_init_13 : decode cX10_init 13 = .ok (.bipush 12, 2) := gdX10_init_0.2.2.2.2.2.2.2.1
theorem dX10_init_15 : decode cX10_init 15 = .ok (.newarray .int, 2) := gdX10_init_0.2.2.2.2.2.2.2.2.1
theorem dX10_init_17 : decode cX10_init 17 = .ok (.putfield 13, 3) := gdX10_init_0.2.2.2.2.2.2.2.2.2.1
theorem dX10_init_20 : decode cX10_init 20 = .ok (.aload_n 0, 1) := gdX10_init_0.2.2.2.2.2.2.2.2.2.2.1
theorem dX10_init_21 : decode cX10_init 21 = .ok (.bipush 12, 2) := gdX10_init_0.2.2.2.2.2.2.2.2.2.2.2.1
theorem dX10_init_23 : decode cX10_init 23 = .ok (.newarray .int, 2) := gdX10_init_0.2.2.2.2.2.2.2.2.2.2.2.2.1
theorem dX10_init_25 : decode cX10_init 25 = .ok (.putfield 16, 3) := gdX10_init_0.2.2.2.2.2.2.2.2.2.2.2.2.2.1
theorem dX10_init_28 : decode cX10_init 28 = .ok (.aload_n 0, 1) := gdX10_init_0.2.2.2.2.2.2.2.2.2.2.2.2.2.2.1
theorem dX10_init_29 : decode cX10_init 29 = .ok (.bipush 12, 2) := gdX10_init_0.2.2.2.2.2.2.2.2.2.2.2.2.2.2.2
theorem gdX10_init_31 : (decode cX10_init 31 = .ok (.newarray .int, 2)) ∧ (decode cX10_init 33 = .ok (.putfield 19, 3)) ∧ (decode cX10_init 36 = .ok (.aload_n 0, 1)) ∧ (decode cX10_init 37 = .ok (.iconst 2, 1)) ∧ (decode cX10_init 38 = .ok (.newarray .int, 2)) ∧ (decode cX10_init 40 = .ok (.putfield 22, 3)) ∧ (decode cX10_init 43 = .ok (.aload_n 0, 1)) ∧ (decode cX10_init 44 = .ok (.sipush 160, 3)) ∧ (decode cX10_init 47 = .ok (.newarray .int, 2)) ∧ (decode cX10_init 49 = .ok (.putfield 25, 3)) ∧ (decode cX10_init 52 = .ok (.aload_n 0, 1)) ∧ (decode cX10_init 53 = .ok (.iconst 4, 1)) ∧ (decode cX10_init 54 = .ok (.newarray .int, 2)) ∧ (decode cX10_init 56 = .ok (.putfield 28, 3)) ∧ (decode cX10_init 59 = .ok (.aload_n 0, 1)) ∧ (decode cX10_init 60 = .ok (.iconst 4, 1)) := by decide +kernel
theorem dX10_init_31 : decode cX10_init 31 = .ok (.newarray .int, 2) := gdX10_init_31.1
theorem dX10_init_33 : decode cX10_init 33 = .ok (.putfield 19, 3) := gdX10_init_31.2.1
theorem dX10_init_36 : decode cX10_init 36 = .ok (.aload_n 0, 1) := gdX10_init_31.2.2.1
theorem dX10_init_37 : decode cX10_init 37 = .ok (.iconst 2, 1) := gdX10_init_31.2.2.2.1
theorem dX10_init_38 : decode cX10_init 38 = .ok (.newarray .int, 2) := gdX10_init_31.2.2.2.2.1
theorem dX10_init_40 : decode cX10_init 40 = .ok (.putfield 22, 3) := gdX10_init_31.2.2.2.2.2.1
theorem dX10_init_43 : decode cX10_init 43 = .ok (.aload_n 0, 1) := gdX10_init_31.2.2.2.2.2.2.1
theorem dX10_init_44 : decode cX10_init 44 = .ok (.sipush 160, 3) := gdX10_init_31.2.2.2.2.2.2.2.1
theorem dX10_init_47 : decode cX10_init 47 = .ok (.newarray .int, 2) := gdX10_init_31.2.2.2.2.2.2.2.2.1
theorem dX10_init_49 : decode cX10_init 49 = .ok (.putfield 25, 3) := gdX10_init_31.2.2.2.2.2.2.2.2.2.1
theorem dX10_init_52 : decode cX10_init 52 = .ok (.aload_n 0, 1) := gdX10_init_31.2.2.2.2.2.2.2.2.2.2.1
theorem dX10_init_53 : decode cX10_init 53 = .ok (.iconst 4, 1) := gdX10_init_31.2.2.2.2.2.2.2.2.2.2.2.1
theorem dX10_init_54 : decode cX10_init 54 = .ok (.newarray .int, 2) := gdX10_init_31.2.2.2.2.2.2.2.2.2.2.2.2.1
theorem dX10_init_56 : decode cX10_init 56 = .ok (.putfield 28, 3) := gdX10_init_31.2.2.2.2.2.2.2.2.2.2.2.2.2.1
theorem dX10_init_59 : decode cX10_init 59 = .ok (.aload_n 0, 1) := gdX10_init_31.2.2.2.2.2.2.2.2.2.2.2.2.2.2.1
theorem dX10_init_60 : decode cX10_init 60 = .ok (.iconst 4, 1) := gdX10_init_31.2.2.2.2.2.2.2.2.2.2.2.2.2.2.2
theorem gdX10_init_61 : (decode cX10_init 61 = .ok (.newarray .int, 2)) ∧ (decode cX10_init 63 = .ok (.putfield 31, 3)) ∧ (decode cX10_init 66 = .ok (.aload_n 0, 1)) ∧ (decode cX10_init 67 = .ok (.iconst 4, 1)) ∧ (decode cX10_init 68 = .ok (.newarray .int, 2)) ∧ (decode cX10_init 70 = .ok (.putfield 34, 3)) ∧ (decode cX10_init 73 = .ok (.aload_n 0, 1)) ∧ (decode cX10_init 74 = .ok (.iconst 4, 1)) ∧ (decode cX10_init 75 = .ok (.newarray .int, 2)) ∧ (decode cX10_init 77 = .ok (.putfield 37, 3)) ∧ (decode cX10_init 80 = .ok (.aload_n 0, 1)) ∧ (decode cX10_init 81 = .ok (.iconst 4, 1)) ∧ (decode cX10_init 82 = .ok (.newarray .int, 2)) ∧ (decode cX10_init 84 = .ok (.putfield 40, 3)) ∧ (decode cX10_init 87 = .ok (.aload_n 0, 1)) ∧ (decode cX10_init 88 = .ok (.iconst 4, 1)) := by decide +kernel
theorem dX10_init_61 : decode cX10_init 61 = .ok (.newarray .int, 2) := gdX10_init_61.1
theorem dX10_init_63 : decode cX10_init 63 = .ok (.putfield 31, 3) := gdX10_init_61.2.1
theorem dX10_init_66 : decode cX10_init 66 = .ok (.aload_n 0, 1) := gdX10_init_61.2.2.1
theorem dX10_init_67 : decode cX10_init 67 = .ok (.iconst 4, 1) := gdX10_init_61.2.2.2.1
theorem dX10_init_68 : decode cX10_init 68 = .ok (.newarray .int, 2) := gdX10_init_61.2.2.2.2.1
theorem dX10_init_70 : decode cX10_init 70 = .ok (.putfield 34, 3) := gdX10_init_61.2.2.2.2.2.1
theorem dX10_init_73 : decode cX10_init 73 = .ok (.aload_n 0, 1) := gdX10_init_61.2.2.2.2.2.2.1
theorem dX10_init_74 : decode cX10_init 74 = .ok (.iconst 4, 1) := gdX10_init_61.2.2.2.2.2.2.2.1
theorem dX10_init_75 : decode cX10_init 75 = .ok (.newarray .int, 2) := gdX10_init_61.2.2.2.2.2.2.2.2.1
theorem dX10_init_77 : decode cX10_init 77 = .ok (.putfield 37, 3) := gdX10_init_61.2.2.2.2.2.2.2.2.2.1
theorem dX10_init_80 : decode cX10_init 80 = .ok (.aload_n 0, 1) := gdX10_init_61.2.2.2.2.2.2.2.2.2.2.1
theorem dX10_init_81 : decode cX10_init 81 = .ok (.iconst 4, 1) := gdX10_init_61.2.2.2.2.2.2.2.2.2.2.2.1
theorem dX10_init_82 : decode cX10_init 82 = .ok (.newarray .int, 2) := gdX10_init_61.2.2.2.2.2.2.2.2.2.2.2.2.1
theorem dX10_init_84 : decode cX10_init 84 = .ok (.putfield 40, 3) := gdX10_init_61.2.2.2.2.2.2.2.2.2.2.2.2.2.1
theorem dX10_init_87 : decode cX10_init 87 = .ok (.aload_n 0, 1) := gdX10_init_61.2.2.2.2.2.2.2.2.2.2.2.2.2.2.1
theorem dX10_init_88 : decode cX10_init 88 = .ok (.iconst 4, 1) := gdX10_init_61.2.2.2.2.2.2.2.2.2.2.2.2.2.2.2
theorem gdX10_init_89 : (decode cX10_init 89 = .ok (.newarray .int, 2)) ∧ (decode cX10_init 91 = .ok (.putfield 43, 3)) ∧ (decode cX10_init 94 = .ok (.aload_n 0, 1)) ∧ (decode cX10_init 95 = .ok (.iconst 4, 1)) ∧ (decode cX10_init 96 = .ok (.newarray .int, 2)) ∧ (decode cX10_init 98 = .ok (.putfield 46, 3)) ∧ (decode cX10_init 101 = .ok (.aload_n 0, 1)) ∧ (decode cX10_init 102 = .ok (.iconst 4, 1)) ∧ (decode cX10_init 103 = .ok (.newarray .int, 2)) ∧ (decode cX10_init 105 = .ok (.putfield 49, 3)) ∧ (decode cX10_init 108 = .ok (.aload_n 0, 1)) ∧ (decode cX10_init 109 = .ok (.iconst 4, 1)) ∧ (decode cX10_init 110 = .ok (.newarray .boolean, 2)) ∧ (decode cX10_init 112 = .ok (.putfield 52, 3)) ∧ (decode cX10_init 115 = .ok (.aload_n 0, 1)) ∧ (decode cX10_init 116 = .ok (.iconst 4, 1)) := by decide +kernel
theorem dX10_init_89 : decode cX10_init 89 = .ok (.newarray .int, 2) := gdX10_init_89.1
theorem dX10_init_91 : decode cX10_init 91 = .ok (.putfield 43, 3) := gdX10_init_89.2.1
theorem dX10_init_94 : decode cX10_init 94 = .ok (.aload_n 0, 1) := gdX10_init_89.2.2.1
theorem dX10_init_95 : decode cX10_init 95 = .ok (.iconst 4, 1) := gdX10_init_89.2.2.2.1
theorem dX10_init_96 : decode cX10_init 96 = .ok (.newarray .int, 2) := gdX10_init_89.2.2.2.2.1
theorem dX10_init_98 : decode cX10_init 98 = .ok (.putfield 46, 3) := gdX10_init_89.2.2.2.2.2.1
theorem dX10_init_101 : decode cX10_init 101 = .ok (.aload_n 0, 1) := gdX10_init_89.2.2.2.2.2.2.1
theorem dX10_init_102 : decode cX10_init 102 = .ok (.iconst 4, 1) := gdX10_init_89.2.2.2.2.2.2.2.1
theorem dX10_init_103 : decode cX10_init 103 = .ok (.newarray .int, 2) := gdX10_init_89.2.2.2.2.2.2.2.2.1
theorem dX10_init_105 : decode cX10_init 105 = .ok (.putfield 49, 3) := gdX10_init_89.2.2.2.2.2.2.2.2.2.1
theorem dX10_init_108 : decode cX10_init 108 = .ok (.aload_n 0, 1) := gdX10_init_89.2.2.2.2.2.2.2.2.2.2.1
theorem dX10_init_109 : decode cX10_init 109 = .ok (.iconst 4, 1) := gdX10_init_89.2.2.2.2.2.2.2.2.2.2.2.1
theorem dX10_init_110 : decode cX10_init 110 = .ok (.newarray .boolean, 2) := gdX10_init_89.2.2.2.2.2.2.2.2.2.2.2.2.1
theorem dX10_init_112 : decode cX10_init 112 = .ok (.putfield 52, 3) := gdX10_init_89.2.2.2.2.2.2.2.2.2.2.2.2.2.1
theorem dX10_init_115 : decode cX10_init 115 = .ok (.aload_n 0, 1) := gdX10_init_89.2.2.2.2.2.2.2.2.2.2.2.2.2.2.1
theorem dX10_init_116 : decode cX10_init 116 = .ok (.iconst 4, 1) := gdX10_init_89.2.2.2.2.2.2.2.2.2.2.2.2.2.2.2
theorem gdX10_init_117 : (decode cX10_init 117 = .ok (.newarray .boolean, 2)) ∧ (decode cX10_init 119 = .ok (.putfield 56, 3)) ∧ (decode cX10_init 122 = .ok (.aload_n 0, 1)) ∧ (decode cX10_init 123 = .ok (.iconst 4, 1)) ∧ (decode cX10_init 124 = .ok (.newarray .int, 2)) ∧ (decode cX10_init 126 = .ok (.putfield 59, 3)) ∧ (decode cX10_init 129 = .ok (.aload_n 0, 1)) ∧ (decode cX10_init 130 = .ok (.iconst 4, 1)) ∧ (decode cX10_init 131 = .ok (.newarray .int, 2)) ∧ (decode cX10_init 133 = .ok (.putfield 62, 3)) ∧ (decode cX10_init 136 = .ok (.aload_n 0, 1)) ∧ (decode cX10_init 137 = .ok (.bipush 16, 2)) ∧ (decode cX10_init 139 = .ok (.newarray .int, 2)) ∧ (decode cX10_init 141 = .ok (.putfield 65, 3)) ∧ (decode cX10_init 144 = .ok (.aload_n 0, 1)) ∧ (decode cX10_init 145 = .ok (.bipush 16, 2)) := by decide +kernel
theorem dX10_init_117 : decode cX10_init 117 = .ok (.newarray .boolean, 2) := gdX10_init_117.1
theorem dX10_init_119 : decode cX10_init 119 = .ok (.putfield 56, 3) := gdX10_init_117.2.1
theorem dX10_init_122 : decode cX10_init 122 = .ok (.aload_n 0, 1) := gdX10_init_117.2.2.1
theorem dX10_init_123 : decode cX10_init 123 = .ok (.iconst 4, 1) := gdX10_init_117.2.2.2.1
theorem dX10_init_124 : decode cX10_init 124 = .ok (.newarray .int, 2) := gdX10_init_117.2.2.2.2.1
theorem dX10_init_126 : decode cX10_init 126 = .ok (.putfield 59, 3) := gdX10_init_117.2.2.2.2.2.1
theorem dX10_init_129 : decode cX10_init 129 = .ok (.aload_n 0, 1) := gdX10_init_117.2.2.2.2.2.2.1
theorem dX10_init_130 : decode cX10_init 130 = .ok (.iconst 4, 1) := gdX10_init_117.2.2.2.2.2.2.2.1
theorem dX10_init_131 : decode cX10_init 131 = .ok (.newarray .int, 2) := gdX10_init_117.2.2.2.2.2.2.2.2.1
theorem dX10_init_133 : decode cX10_init 133 = .ok (.putfield 62, 3) := gdX10_init_117.2.2.2.2.2.2.2.2.2.1
theorem dX10_init_136 : decode cX10_init 136 = .ok (.aload_n 0, 1) := gdX10_init_117.2.2.2.2.2.2.2.2.2.2.1
theorem dX10_init_137 : decode cX10_init 137 = .ok (.bipush 16, 2) := gdX10_init_117.2.2.2.2.2.2.2.2.2.2.2.1
theorem dX10_init_139 : decode cX10_init 139 = .ok (.newarray .int, 2) := gdX10_init_117.2.2.2.2.2.2.2.2.2.2.2.2.1
theorem dX10_init_141 : decode cX10_init 141 = .ok (.putfield 65, 3) := gdX10_init_117.2.2.2.2.2.2.2.2.2.2.2.2.2.1
theorem dX10_init_144 : decode cX10_init 144 = .ok (.aload_n 0, 1) := gdX10_init_117.2.2.2.2.2.2.2.2.2.2.2.2.2.2.1
theorem dX10_init_145 : decode cX10_init 145 = .ok (.bipush 16, 2) := gdX10_init_117.2.2.2.2.2.2.2.2.2.2.2.2.2.2.2
theorem gdX10_init_147 : (decode cX10_init 147 = .ok (.newarray .int, 2)) ∧ (decode cX10_init 149 = .ok (.putfield 68, 3)) ∧ (decode cX10_init 152 = .ok (.aload_n 0, 1)) ∧ (decode cX10_init 153 = .ok (.bipush 16, 2)) ∧ (decode cX10_init 155 = .ok (.newarray .int, 2)) ∧ (decode cX10_init 157 = .ok (.putfield 71, 3)) ∧ (decode cX10_init 160 = .ok (.aload_n 0, 1)) ∧ (decode cX10_init 161 = .ok (.bipush 16, 2)) ∧ (decode cX10_init 163 = .ok (.newarray .int, 2)) ∧ (decode cX10_init 165 = .ok (.putfield 74, 3)) ∧ (decode cX10_init 168 = .ok (.aload_n 0, 1)) ∧ (decode cX10_init 169 = .ok (.bipush 16, 2)) ∧ (decode cX10_init 171 = .ok (.newarray .int, 2)) ∧ (decode cX10_init 173 = .ok (.putfield 77, 3)) ∧ (decode cX10_init 176 = .ok (.aload_n 0, 1)) ∧ (decode cX10_init 177 = .ok (.bipush 16, 2)) := by decide +kernel
theorem dX10_init_147 : decode cX10_init 147 = .ok (.newarray .int, 2) := gdX10_init_147.1
theorem dX10_init_149 : decode cX10_init 149 = .ok (.putfield 68, 3) := gdX10_init_147.2.1
theorem dX10_init_152 : decode cX10_init 152 = .ok (.aload_n 0, 1) := gdX10_init_147.2.2.1
theorem dX10_init_153 : decode cX10_init 153 = .ok (.bipush 16, 2) := gdX10_init_147.2.2.2.1
theorem dX10_init_155 : decode cX10_init 155 = .ok (.newarray .int, 2) := gdX10_init_147.2.2.2.2.1
theorem dX10_init_157 : decode cX10_init 157 = .ok (.putfield 71, 3) := gdX10_init_147.2.2.2.2.2.1
theorem dX10_init_160 : decode cX10_init 160 = .ok (.aload_n 0, 1) := gdX10_init_147.2.2.2.2.2.2.1
theorem dX10_init_161 : decode cX10_init 161 = .ok (.bipush 16, 2) := gdX10_init_147.2.2.2.2.2.2.2.1
theorem dX10_init_163 : decode cX10_init 163 = .ok (.newarray .int, 2) := gdX10_init_147.2.2.2.2.2.2.2.2.1
theorem dX10_init_165 : decode cX10_init 165 = .ok (.putfield 74, 3) := gdX10_init_147.2.2.2.2.2.2.2.2.2.1
theorem dX10_init_168 : decode cX10_init 168 = .ok (.aload_n 0, 1) := gdX10_init_147.2.2.2.2.2.2.2.2.2.2.1
theorem dX10_init_169 : decode cX10_init 169 = .ok (.bipush 16, 2) := gdX10_init_147.2.2.2.2.2.2.2.2.2.2.2.1
theorem dX10_init_171 : decode cX10_init 171 = .ok (.newarray .int, 2) := gdX10_init_147.2.2.2.2.2.2.2.2.2.2.2.2.1
theorem dX10_init_173 : decode cX10_init 173 = .ok (.putfield 77, 3) := gdX10_init_147.2.2.2.2.2.2.2.2.2.2.2.2.2.1
theorem dX10_init_176 : decode cX10_init 176 = .ok (.aload_n 0, 1) := gdX10_init_147.2.2.2.2.2.2.2.2.2.2.2.2.2.2.1
theorem dX10_init_177 : decode cX10_init 177 = .ok (.bipush 16, 2) := gdX10_init_147.2.2.2.2.2.2.2.2.2.2.2.2.2.2.2
theorem gdX10_init_179 : (decode cX10_init 179 = .ok (.newarray .int, 2)) ∧ (decode cX10_init 181 = .ok (.putfield 80, 3)) ∧ (decode cX10_init 184 = .ok (.aload_n 0, 1)) ∧ (decode cX10_init 185 = .ok (.bipush 16, 2)) ∧ (decode cX10_init 187 = .ok (.newarray .int, 2)) ∧ (decode cX10_init 189 = .ok (.putfield 83, 3)) ∧ (decode cX10_init 192 = .ok (.aload_n 0, 1)) ∧ (decode cX10_init 193 = .ok (.bipush 16, 2)) ∧ (decode cX10_init 195 = .ok (.newarray .int, 2)) ∧ (decode cX10_init 197 = .ok (.putfield 86, 3)) ∧ (decode cX10_init 200 = .ok (.aload_n 0, 1)) ∧ (decode cX10_init 201 = .ok (.iconst 4, 1)) ∧ (decode cX10_init 202 = .ok (.newarray .int, 2)) ∧ (decode cX10_init 204 = .ok (.putfield 89, 3)) ∧ (decode cX10_init 207 = .ok (.aload_n 0, 1)) ∧ (decode cX10_init 208 = .ok (.iconst 4, 1)) := by decide +kernel
theorem dX10_init_179 : decode cX10_init 179 = .ok (.newarray .int, 2) := gdX10_init_179.1
theorem dX10_init_181 : decode cX10_init 181 = .ok (.putfield 80, 3) := gdX10_init_179.2.1
theorem dX10_init_184 : decode cX10_init 184 = .ok (.aload_n 0, 1) := gdX10_init_179.2.2.1
theorem dX10_init_185 : decode cX10_init 185 = .ok (.bipush 16, 2) := gdX10_init_179.2.2.2.1
theorem dX10_init_187 : decode cX10_init 187 = .ok (.newarray .int, 2) := gdX10_init_179.2.2.2.2.1
theorem dX10_init_189 : decode cX10_init 189 = .ok (.putfield 83, 3) := gdX10_init_179.2.2.2.2.2.1
theorem dX10_init_192 : decode cX10_init 192 = .ok (.aload_n 0, 1) := gdX10_init_179.2.2.2.2.2.2.1
theorem dX10_init_193 : decode cX10_init 193 = .ok (.bipush 16, 2) := gdX10_init_179.2.2.2.2.2.2.2.1
theorem dX10_init_195 : decode cX10_init 195 = .ok (.newarray .int, 2) := gdX10_init_179.2.2.2.2.2.2.2.2.1
theorem dX10_init_197 : decode cX10_init 197 = .ok (.putfield 86, 3) := gdX10_init_179.2.2.2.2.2.2.2.2.2.1
theorem dX10_init_200 : decode cX10_init 200 = .ok (.aload_n 0, 1) := gdX10_init_179.2.2.2.2.2.2.2.2.2.2.1
theorem dX10_init_201 : decode cX10_init 201 = .ok (.iconst 4, 1) := gdX10_init_179.2.2.2.2.2.2.2.2.2.2.2.1
theorem dX10_init_202 : decode cX10_init 202 = .ok (.newarray .int, 2) := gdX10_init_179.2.2.2.2.2.2.2.2.2.2.2.2.1
theorem dX10_init_204 : decode cX10_init 204 = .ok (.putfield 89, 3) := gdX10_init_179.2.2.2.2.2.2.2.2.2.2.2.2.2.1
theorem dX10_init_207 : decode cX10_init 207 = .ok (.aload_n 0, 1) := gdX10_init_179.2.2.2.2.2.2.2.2.2.2.2.2.2.2.1
theorem dX10_init_208 : decode cX10_init 208 = .ok (.iconst 4, 1) := gdX10_init_179.2.2.2.2.2.2.2.2.2.2.2.2.2.2.2
theorem gdX10_init_209 : (decode cX10_init 209 = .ok (.newarray .int, 2)) ∧ (decode cX10_init 211 = .ok (.putfield 92, 3)) ∧ (decode cX10_init 214 = .ok (.aload_n 0, 1)) ∧ (decode cX10_init 215 = .ok (.bipush 16, 2)) ∧ (decode cX10_init 217 = .ok (.newarray .int, 2)) ∧ (decode cX10_init 219 = .ok (.putfield 95, 3)) ∧ (decode cX10_init 222 = .ok (.aload_n 0, 1)) ∧ (decode cX10_init 223 = .ok (.bipush 16, 2)) ∧ (decode cX10_init 225 = .ok (.newarray .int, 2)) ∧ (decode cX10_init 227 = .ok (.putfield 98, 3)) ∧ (decode cX10_init 230 = .ok (.aload_n 0, 1)) ∧ (decode cX10_init 231 = .ok (.bipush 16, 2)) ∧ (decode cX10_init 233 = .ok (.newarray .int, 2)) ∧ (decode cX10_init 235 = .ok (.putfield 101, 3)) ∧ (decode cX10_init 238 = .ok (.aload_n 0, 1)) ∧ (decode cX10_init 239 = .ok (.bipush 16, 2)) := by decide +kernel
theorem dX10_init_209 : decode cX10_init 209 = .ok (.newarray .int, 2) := gdX10_init_209.1
theorem dX10_init_211 : decode cX10_init 211 = .ok (.putfield 92, 3) := gdX10_init_209.2.1
theorem dX10_init_214 : decode cX10_init 214 = .ok (.aload_n 0, 1) := gdX10_init_209.2.2.1
theorem dX10_init_215 : decode cX10_init 215 = .ok (.bipush 16, 2) := gdX10_init_209.2.2.2.1
theorem dX10_init_217 : decode cX10_init 217 = .ok (.newarray .int, 2) := gdX10_init_209.2.2.2.2.1
theorem dX10_init_219 : decode cX10_init 219 = .ok (.putfield 95, 3) := gdX10_init_209.2.2.2.2.2.1
theorem dX10_init_222 : decode cX10_init 222 = .ok (.aload_n 0, 1) := gdX10_init_209.2.2.2.2.2.2.1
theorem dX10_init_223 : decode cX10_init 223 = .ok (.bipush 16, 2) := gdX10_init_209.2.2.2.2.2.2.2.1
theorem dX10_init_225 : decode cX10_init 225 = .ok (.newarray .int, 2) := gdX10_init_209.2.2.2.2.2.2.2.2.1
theorem dX10_init_227 : decode cX10_init 227 = .ok (.putfield 98, 3) := gdX10_init_209.2.2.2.2.2.2.2.2.2.1
theorem dX10_init_230 : decode cX10_init 230 = .ok (.aload_n 0, 1) := gdX10_init_209.2.2.2.2.2.2.2.2.2.2.1
theorem dX10_init_231 : decode cX10_init 231 = .ok (.bipush 16, 2) := gdX10_init_209.2.2.2.2.2.2.2.2.2.2.2.1
theorem dX10_init_233 : decode cX10_init 233 = .ok (.newarray .int, 2) := gdX10_init_209.2.2.2.2.2.2.2.2.2.2.2.2.1
theorem dX10_init_235 : decode cX10_init 235 = .ok (.putfield 101, 3) := gdX10_init_209.2.2.2.2.2.2.2.2.2.2.2.2.2.1
theorem dX10_init_238 : decode cX10_init 238 = .ok (.aload_n 0, 1) := gdX10_init_209.2.2.2.2.2.2.2.2.2.2.2.2.2.2.1
theorem dX10_init_239 : decode cX10_init 239 = .ok (.bipush 16, 2) := gdX10_init_209.2.2.2.2.2.2.2.2.2.2.2.2.2.2.2
theorem gdX10_init_241 : (decode cX10_init 241 = .ok (.newarray .int, 2)) ∧ (decode cX10_init 243 = .ok (.putfield 104, 3)) ∧ (decode cX10_init 246 = .ok (.aload_n 0, 1)) ∧ (decode cX10_init 247 = .ok (.iconst 4, 1)) ∧ (decode cX10_init 248 = .ok (.newarray .boolean, 2)) ∧ (decode cX10_init 250 = .ok (.putfield 107, 3)) ∧ (decode cX10_init 253 = .ok (.aload_n 0, 1)) ∧ (decode cX10_init 254 = .ok (.iconst 4, 1)) ∧ (decode cX10_init 255 = .ok (.newarray .int, 2)) ∧ (decode cX10_init 257 = .ok (.putfield 110, 3)) ∧ (decode cX10_init 260 = .ok (.aload_n 0, 1)) ∧ (decode cX10_init 261 = .ok (.bipush 8, 2)) ∧ (decode cX10_init 263 = .ok (.newarray .int, 2)) ∧ (decode cX10_init 265 = .ok (.putfield 113, 3)) ∧ (decode cX10_init 268 = .ok (.aload_n 0, 1)) ∧ (decode cX10_init 269 = .ok (.bipush 8, 2)) := by decide +kernel
theorem dX10_init_241 : decode cX10_init 241 = .ok (.newarray .int, 2) := gdX10_init_241.1
theorem dX10_init_243 : decode cX10_init 243 = .ok (.putfield 104, 3) := gdX10_init_241.2.1
theorem dX10_init_246 : decode cX10_init 246 = .ok (.aload_n 0, 1) := gdX10_init_241.2.2.1
theorem dX10_init_247 : decode cX10_init 247 = .ok (.iconst 4, 1) := gdX10_init_241.2.2.2.1
theorem dX10_init_248 : decode cX10_init 248 = .ok (.newarray .boolean, 2) := gdX10_init_241.2.2.2.2.1
theorem dX10_init_250 : decode cX10_init 250 = .ok (.putfield 107, 3) := gdX10_init_241.2.2.2.2.2.1
theorem dX10_init_253 : decode cX10_init 253 = .ok (.aload_n 0, 1) := gdX10_init_241.2.2.2.2.2.2.1
theorem dX10_init_254 : decode cX10_init 254 = .ok (.iconst 4, 1) := gdX10_init_241.2.2.2.2.2.2.2.1
theorem dX10_init_255 : decode cX10_init 255 = .ok (.newarray .int, 2) := gdX10_init_241.2.2.2.2.2.2.2.2.1
theorem dX10_init_257 : decode cX10_init 257 = .ok (.putfield 110, 3) := gdX10_init_241.2.2.2.2.2.2.2.2.2.1
theorem dX10_init_260 : decode cX10_init 260 = .ok (.aload_n 0, 1) := gdX10_init_241.2.2.2.2.2.2.2.2.2.2.1
theorem dX10_init_261 : decode cX10_init 261 = .ok (.bipush 8, 2) := gdX10_init_241.2.2.2.2.2.2.2.2.2.2.2.1
theorem dX10_init_263 : decode cX10_init 263 = .ok (.newarray .int, 2) := gdX10_init_241.2.2.2.2.2.2.2.2.2.2.2.2.1
theorem dX10_init_265 : decode cX10_init 265 = .ok (.putfield 113, 3) := gdX10_init_241.2.2.2.2.2.2.2.2.2.2.2.2.2.1
theorem dX10_init_268 : decode cX10_init 268 = .ok (.aload_n 0, 1) := gdX10_init_241.2.2.2.2.2.2.2.2.2.2.2.2.2.2.1
theorem dX10_init_269 : decode cX10_init 269 = .ok (.bipush 8, 2) := gdX10_init_241.2.2.2.2.2.2.2.2.2.2.2.2.2.2.2
theorem gdX10_init_271 : (decode cX10_init 271 = .ok (.newarray .int, 2)) ∧ (decode cX10_init 273 = .ok (.putfield 116, 3)) ∧ (decode cX10_init 276 = .ok (.aload_n 0, 1)) ∧ (decode cX10_init 277 = .ok (.bipush 25, 2)) ∧ (decode cX10_init 279 = .ok (.newarray .int, 2)) ∧ (decode cX10_init 281 = .ok (.putfield 119, 3)) ∧ (decode cX10_init 284 = .ok (.aload_n 0, 1)) ∧ (decode cX10_init 285 = .ok (.bipush 25, 2)) ∧ (decode cX10_init 287 = .ok (.newarray .int, 2)) ∧ (decode cX10_init 289 = .ok (.putfield 122, 3)) ∧ (decode cX10_init 292 = .ok (.aload_n 0, 1)) ∧ (decode cX10_init 293 = .ok (.bipush 25, 2)) ∧ (decode cX10_init 295 = .ok (.newarray .int, 2)) ∧ (decode cX10_init 297 = .ok (.putfield 125, 3)) ∧ (decode cX10_init 300 = .ok (.aload_n 0, 1)) ∧ (decode cX10_init 301 = .ok (.bipush 25, 2)) := by decide +kernel
theorem dX10_init_271 : decode cX10_init 271 = .ok (.newarray .int, 2) := gdX10_init_271.1
theorem dX10_init_273 : decode cX10_init 273 = .ok (.putfield 116, 3) := gdX10_init_271.2.1
theorem dX10_init_276 : decode cX10_init 276 = .ok (.aload_n 0, 1) := gdX10_init_271.2.2.1
theorem dX10_init_277 : decode cX10_init 277 = .ok (.bipush 25, 2) := gdX10_init_271.2.2.2.1
theorem dX10_init_279 : decode cX10_init 279 = .ok (.newarray .int, 2) := gdX10_init_271.2.2.2.2.1
theorem dX10_init_281 : decode cX10_init 281 = .ok (.putfield 119, 3) := gdX10_init_271.2.2.2.2.2.1
theorem dX10_init_284 : decode cX10_init 284 = .ok (.aload_n 0, 1) := gdX10_init_271.2.2.2.2.2.2.1
theorem dX10_init_285 : decode cX10_init 285 = .ok (.bipush 25, 2) := gdX10_init_271.2.2.2.2.2.2.2.1
theorem dX10_init_287 : decode cX10_init 287 = .ok (.newarray .int, 2) := gdX10_init_271.2.2.2.2.2.2.2.2.1
theorem dX10_init_289 : decode cX10_init 289 = .ok (.putfield 122, 3) := gdX10_init_271.2.2.2.2.2.2.2.2.2.1
theorem dX10_init_292 : decode cX10_init 292 = .ok (.aload_n 0, 1) := gdX10_init_271.2.2.2.2.2.2.2.2.2.2.1
theorem dX10_init_293 : decode cX10_init 293 = .ok (.bipush 25, 2) := gdX10_init_271.2.2.2.2.2.2.2.2.2.2.2.1
theorem dX10_init_295 : decode cX10_init 295 = .ok (.newarray .int, 2) := gdX10_init_271.2.2.2.2.2.2.2.2.2.2.2.2.1
theorem dX10_init_297 : decode cX10_init 297 = .ok (.putfield 125, 3) := gdX10_init_271.2.2.2.2.2.2.2.2.2.2.2.2.2.1
theorem dX10_init_300 : decode cX10_init 300 = .ok (.aload_n 0, 1) := gdX10_init_271.2.2.2.2.2.2.2.2.2.2.2.2.2.2.1
theorem dX10_init_301 : decode cX10_init 301 = .ok (.bipush 25, 2) := gdX10_init_271.2.2.2.2.2.2.2.2.2.2.2.2.2.2.2
theorem gdX10_init_303 : (decode cX10_init 303 = .ok (.newarray .int, 2)) ∧ (decode cX10_init 305 = .ok (.putfield 128, 3)) ∧ (decode cX10_init 308 = .ok (.aload_n 0, 1)) ∧ (decode cX10_init 309 = .ok (.bipush 25, 2)) ∧ (decode cX10_init 311 = .ok (.newarray .int, 2)) ∧ (decode cX10_init 313 = .ok (.putfield 131, 3)) ∧ (decode cX10_init 316 = .ok (.aload_n 0, 1)) ∧ (decode cX10_init 317 = .ok (.bipush 25, 2)) ∧ (decode cX10_init 319 = .ok (.newarray .int, 2)) ∧ (decode cX10_init 321 = .ok (.putfield 134, 3)) ∧ (decode cX10_init 324 = .ok (.aload_n 0, 1)) ∧ (decode cX10_init 325 = .ok (.bipush 25, 2)) ∧ (decode cX10_init 327 = .ok (.newarray .int, 2)) ∧ (decode cX10_init 329 = .ok (.putfield 137, 3)) ∧ (decode cX10_init 332 = .ok (.aload_n 0, 1)) ∧ (decode cX10_init 333 = .ok (.bipush 100, 2)) := by decide +kernel
theorem dX10_init_303 : decode cX10_init 303 = .ok (.newarray .int, 2) := gdX10_init_303.1
theorem dX10_init_305 : decode cX10_init 305 = .ok (.putfield 128, 3) := gdX10_init_303.2.1
theorem dX10_init_308 : decode cX10_init 308 = .ok (.aload_n 0, 1) := gdX10_init_303.2.2.1
theorem dX10_init_309 : decode cX10_init 309 = .ok (.bipush 25, 2) := gdX10_init_303.2.2.2.1
theorem dX10_init_311 : decode cX10_init 311 = .ok (.newarray .int, 2) := gdX10_init_303.2.2.2.2.1
theorem dX10_init_313 : decode cX10_init 313 = .ok (.putfield 131, 3) := gdX10_init_303.2.2.2.2.2.1
theorem dX10_init_316 : decode cX10_init 316 = .ok (.aload_n 0, 1) := gdX10_init_303.2.2.2.2.2.2.1
theorem dX10_init_317 : decode cX10_init 317 = .ok (.bipush 25, 2) := gdX10_init_303.2.2.2.2.2.2.2.1
theorem dX10_init_319 : decode cX10_init 319 = .ok (.newarray .int, 2) := gdX10_init_303.2.2.2.2.2.2.2.2.1
theorem dX10_init_321 : decode cX10_init 321 = .ok (.putfield 134, 3) := gdX10_init_303.2.2.2.2.2.2.2.2.2.1
theorem dX10_init_324 : decode cX10_init 324 = .ok (.aload_n 0, 1) := gdX10_init_303.2.2.2.2.2.2.2.2.2.2.1
theorem dX10_init_325 : decode cX10_init 325 = .ok (.bipush 25, 2) := gdX10_init_303.2.2.2.2.2.2.2.2.2.2.2.1
theorem dX10_init_327 : decode cX10_init 327 = .ok (.newarray .int, 2) := gdX10_init_303.2.2.2.2.2.2.2.2.2.2.2.2.1
theorem dX10_init_329 : decode cX10_init 329 = .ok (.putfield 137, 3) := gdX10_init_303.2.2.2.2.2.2.2.2.2.2.2.2.2.1
theorem dX10_init_332 : decode cX10_init 332 = .ok (.aload_n 0, 1) := gdX10_init_303.2.2.2.2.2.2.2.2.2.2.2.2.2.2.1
theorem dX10_init_333 : decode cX10_init 333 = .ok (.bipush 100, 2) := gdX10_init_303.2.2.2.2.2.2.2.2.2.2.2.2.2.2.2
theorem gdX10_init_335 : (decode cX10_init 335 = .ok (.newarray .int, 2)) ∧ (decode cX10_init 337 = .ok (.putfield 140, 3)) ∧ (decode cX10_init 340 = .ok (.aload_n 0, 1)) ∧ (decode cX10_init 341 = .ok (.iload_n 1, 1)) ∧ (decode cX10_init 342 = .ok (.iconst 2, 1)) ∧ (decode cX10_init 343 = .ok (.if_icmp .ge 7, 3)) ∧ (decode cX10_init 346 = .ok (.iconst 2, 1)) ∧ (decode cX10_init 347 = .ok (.goto 15, 3)) ∧ (decode cX10_init 350 = .ok (.iload_n 1, 1)) ∧ (decode cX10_init 351 = .ok (.bipush 20, 2)) ∧ (decode cX10_init 353 = .ok (.if_icmp .le 8, 3)) ∧ (decode cX10_init 356 = .ok (.bipush 20, 2)) ∧ (decode cX10_init 358 = .ok (.goto 4, 3)) ∧ (decode cX10_init 361 = .ok (.iload_n 1, 1)) ∧ (decode cX10_init 362 = .ok (.putfield 143, 3)) ∧ (decode cX10_init 365 = .ok (.aload_n 0, 1)) := by decide +kernel
theorem dX10_init_335 : decode cX10_init 335 = .ok (.newarray .int, 2) := gdX10_init_335.1
theorem dX10_init_337 : decode cX10_init 337 = .ok (.putfield 140, 3) := gdX10_init_335.2.1
theorem dX10_init_340 : decode cX10_init 340 = .ok (.aload_n 0, 1) := gdX10_init_335.2.2.1
theorem dX10_init_341 : decode cX10_init 341 = .ok (.iload_n 1, 1) := gdX10_init_335.2.2.2.1
theorem dX10_init_342 : decode cX10_init 342 = .ok (.iconst 2, 1) := gdX10_init_335.2.2.2.2.1
theorem dX10_init_343 : decode cX10_init 343 = .ok (.if_icmp .ge 7, 3) := gdX10_init_335.2.2.2.2.2.1
theorem dX10_init_346 : decode cX10_init 346 = .ok (.iconst 2, 1) := gdX10_init_335.2.2.2.2.2.2.1
theorem dX10_init_347 : decode cX10_init 347 = .ok (.goto 15, 3) := gdX10_init_335.2.2.2.2.2.2.2.1
theorem dX10_init_350 : decode cX10_init 350 = .ok (.iload_n 1, 1) := gdX10_init_335.2.2.2.2.2.2.2.2.1
theorem dX10_init_351 : decode cX10_init 351 = .ok (.bipush 20, 2) := gdX10_init_335.2.2.2.2.2.2.2.2.2.1
theorem dX10_init_353 : decode cX10_init 353 = .ok (.if_icmp .le 8, 3) := gdX10_init_335.2.2.2.2.2.2.2.2.2.2.1
theorem dX10_init_356 : decode cX10_init 356 = .ok (.bipush 20, 2) := gdX10_init_335.2.2.2.2.2.2.2.2.2.2.2.1
theorem dX10_init_358 : decode cX10_init 358 = .ok (.goto 4, 3) := gdX10_init_335.2.2.2.2.2.2.2.2.2.2.2.2.1
theorem dX10_init_361 : decode cX10_init 361 = .ok (.iload_n 1, 1) := gdX10_init_335.2.2.2.2.2.2.2.2.2.2.2.2.2.1
theorem dX10_init_362 : decode cX10_init 362 = .ok (.putfield 143, 3) := gdX10_init_335.2.2.2.2.2.2.2.2.2.2.2.2.2.2.1
theorem dX10_init_365 : decode cX10_init 365 = .ok (.aload_n 0, 1) := gdX10_init_335.2.2.2.2.2.2.2.2.2.2.2.2.2.2.2
theorem gdX10_init_366 : (decode cX10_init 366 = .ok (.iload_n 2, 1)) ∧ (decode cX10_init 367 = .ok (.ifCond .ge 7, 3)) ∧ (decode cX10_init 370 = .ok (.iconst 0, 1)) ∧ (decode cX10_init 371 = .ok (.goto 15, 3)) ∧ (decode cX10_init 374 = .ok (.iload_n 2, 1)) ∧ (decode cX10_init 375 = .ok (.bipush 7, 2)) ∧ (decode cX10_init 377 = .ok (.if_icmp .le 8, 3)) ∧ (decode cX10_init 380 = .ok (.bipush 7, 2)) ∧ (decode cX10_init 382 = .ok (.goto 4, 3)) ∧ (decode cX10_init 385 = .ok (.iload_n 2, 1)) ∧ (decode cX10_init 386 = .ok (.putfield 147, 3)) ∧ (decode cX10_init 389 = .ok (.aload_n 0, 1)) ∧ (decode cX10_init 390 = .ok (.iload_n 3, 1)) ∧ (decode cX10_init 391 = .ok (.ifCond .ge 7, 3)) ∧ (decode cX10_init 394 = .ok (.iconst 0, 1)) ∧ (decode cX10_init 395 = .ok (.goto 15, 3)) := by decide +kernel
theorem dX10_init_366 : decode cX10_init 366 = .ok (.iload_n 2, 1) := gdX10_init_366.1
theorem dX10_init_367 : decode cX10_init 367 = .ok (.ifCond .ge 7, 3) := gdX10_init_366.2.1
theorem dX10_init_370 : decode cX10_init 370 = .ok (.iconst 0, 1) := gdX10_init_366.2.2.1
theorem dX10_init_371 : decode cX10_init 371 = .ok (.goto 15, 3) := gdX10_init_366.2.2.2.1
theorem dX10_init_374 : decode cX10_init 374 = .ok (.iload_n 2, 1) := gdX10_init_366.2.2.2.2.1
theorem dX10_init_375 : decode cX10_init 375 = .ok (.bipush 7, 2) := gdX10_init_366.2.2.2.2.2.1
theorem dX10_init_377 : decode cX10_init 377 = .ok (.if_icmp .le 8, 3) := gdX10_init_366.2.2.2.2.2.2.1
theorem dX10_init_380 : decode cX10_init 380 = .ok (.bipush 7, 2) := gdX10_init_366.2.2.2.2.2.2.2.1
theorem dX10_init_382 : decode cX10_init 382 = .ok (.goto 4, 3) := gdX10_init_366.2.2.2.2.2.2.2.2.1
theorem dX10_init_385 : decode cX10_init 385 = .ok (.iload_n 2, 1) := gdX10_init_366.2.2.2.2.2.2.2.2.2.1
theorem dX10_init_386 : decode cX10_init 386 = .ok (.putfield 147, 3) := gdX10_init_366.2.2.2.2.2.2.2.2.2.2.1
theorem dX10_init_389 : decode cX10_init 389 = .ok (.aload_n 0, 1) := gdX10_init_366.2.2.2.2.2.2.2.2.2.2.2.1
theorem dX10_init_390 : decode cX10_init 390 = .ok (.iload_n 3, 1) := gdX10_init_366.2.2.2.2.2.2.2.2.2.2.2.2.1
theorem dX10_init_391 : decode cX10_init 391 = .ok (.ifCond .ge 7, 3) := gdX10_init_366.2.2.2.2.2.2.2.2.2.2.2.2.2.1
theorem dX10_init_394 : decode cX10_init 394 = .ok (.iconst 0, 1) := gdX10_init_366.2.2.2.2.2.2.2.2.2.2.2.2.2.2.1
theorem dX10_init_395 : decode cX10_init 395 = .ok (.goto 15, 3) := gdX10_init_366.2.2.2.2.2.2.2.2.2.2.2.2.2.2.2
theorem gdX10_init_398 : (decode cX10_init 398 = .ok (.iload_n 3, 1)) ∧ (decode cX10_init 399 = .ok (.bipush 7, 2)) ∧ (decode cX10_init 401 = .ok (.if_icmp .le 8, 3)) ∧ (decode cX10_init 404 = .ok (.bipush 7, 2)) ∧ (decode cX10_init 406 = .ok (.goto 4, 3)) ∧ (decode cX10_init 409 = .ok (.iload_n 3, 1)) ∧ (decode cX10_init 410 = .ok (.putfield 150, 3)) ∧ (decode cX10_init 413 = .ok (.return_, 1)) := by decide +kernel
theorem dX10_init_398 : decode cX10_init 398 = .ok (.iload_n 3, 1) := gdX10_init_398.1
theorem dX10_init_399 : decode cX10_init 399 = .ok (.bipush 7, 2) := gdX10_init_398.2.1
theorem dX10_init_401 : decode cX10_init 401 = .ok (.if_icmp .le 8, 3) := gdX10_init_398.2.2.1
theorem dX10_init_404 : decode cX10_init 404 = .ok (.bipush 7, 2) := gdX10_init_398.2.2.2.1
theorem dX10_init_406 : decode cX10_init 406 = .ok (.goto 4, 3) := gdX10_init_398.2.2.2.2.1
theorem dX10_init_409 : decode cX10_init 409 = .ok (.iload_n 3, 1) := gdX10_init_398.2.2.2.2.2.1
theorem dX10_init_410 : decode cX10_init 410 = .ok (.putfield 150, 3) := gdX10_init_398.2.2.2.2.2.2.1
theorem dX10_init_413 : decode cX10_init 413 = .ok (.return_, 1) := gdX10_init_398.2.2.2.2.2.2.2
end
