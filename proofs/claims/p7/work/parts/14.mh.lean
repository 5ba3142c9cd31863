/-- a fact kept out of omega's sight -/
def HID (P : Prop) : Prop := P
abbrev AA : Type := Nat → Nat → Int32
/-- the reference's arrays, one of them changed -/
def uA (A : AA) (j : Nat) (g : Nat → Int32) : AA := fun k => if k = j then g else A k
theorem uA_s {A : AA} {j : Nat} {g : Nat → Int32} : uA A j g j = g := if_pos rfl
theorem uA_n {A : AA} {j k : Nat} {g : Nat → Int32} (h : k ≠ j) : uA A j g k = A k := if_neg h
theorem uA_i {A : AA} {j : Nat} {g : Nat → Int32} (h : g = A j) : uA A j g = A := by
  subst h
  funext k
  by_cases e : k = j
  · subst e; exact uA_s
  · exact uA_n e
theorem uA_ii {A : AA} {j : Nat} : uA A j (A j) = A := uA_i rfl
theorem uu_89 (A : AA) (a b c d : Nat → Int32) : uA (uA (uA (uA A 8 a) 9 b) 8 c) 9 d = uA (uA A 8 c) 9 d := by
  funext k
  by_cases h1 : k = 9
  · subst h1; rfl
  by_cases h2 : k = 8
  · subst h2; rfl
  rw [uA_n h1, uA_n h2, uA_n h1, uA_n h2, uA_n h1, uA_n h2]
theorem uu_id {A : AA} : uA (uA A 8 (A 8)) 9 (A 9) = A := by rw [uA_i (A := A) (j := 8) rfl, uA_i rfl]
def MG (G : Nat → Nat) (h0 : Nat) (r : Nat → Nat) : Prop := G h0 = 20 ∧ ∀ j, 4 ≤ j → j < 49 → j ≠ 40 → G (r j) = 100 + j
/-- the reference's object: what lies in its arrays, its code and its number of packets -/
def MH (E : EE) (h0 : Nat) (r : Nat → Nat) (t0 t1 t2 : Int32) (A : AA) (cd pk : Int32) (H : Heap) : Prop := va_at (DG E) vwCl (h0, .inr (10, mfs t0 t1 t2 cd r pk)) H ∧ ∀ j, 4 ≤ j → j < 49 → j ≠ 40 → va_at (DG E) vwCl (r j, .inl (E.2.2 (mkd j), mlen j, .inl (A j))) H
section MHS
variable {E : EE} {h0 : Nat} {r : Nat → Nat} {t0 t1 t2 cd pk : Int32} {A : AA} {H H1 : Heap} {G : Nat → Nat}
theorem MH.kept (h : MH E h0 r t0 t1 t2 A cd pk H) (hk : ∀ q, q < H.size → H1[q]? = H[q]?) : MH E h0 r t0 t1 t2 A cd pk H1 := ⟨h.1.kept (hk _ h.1.lt), fun j a b c => (h.2 j a b c).kept (hk _ (h.2 j a b c).lt)⟩
theorem MH.away (hR : MG G h0 r) (h : MH E h0 r t0 t1 t2 A cd pk H) (hk : ∀ q, q < H.size → G q ≠ 0 → H1[q]? = H[q]?) : MH E h0 r t0 t1 t2 A cd pk H1 := ⟨h.1.kept (hk _ h.1.lt (by rw [hR.1]; decide)), fun j a b c => (h.2 j a b c).kept (hk _ (h.2 j a b c).lt (by rw [hR.2 j a b c]; omega))⟩
theorem MH.w (hR : MG G h0 r) (h : MH E h0 r t0 t1 t2 A cd pk H) (j : Nat) (h4 : 4 ≤ j) (h49 : j < 49) (h40 : j ≠ 40) {g : Nat → Int32} (hn : va_at (DG E) vwCl (r j, .inl (E.2.2 (mkd j), mlen j, .inl g)) H1) (ho : ∀ q, q ≠ r j → H1[q]? = H[q]?) : MH E h0 r t0 t1 t2 (uA A j g) cd pk H1 := by
  refine ⟨h.1.kept (ho _ (fun e => ?_)), fun k a b c => ?_⟩
  · have h1 := hR.1
    have e : h0 = r j := e
    rw [e, hR.2 j h4 h49 h40] at h1
    omega
  · by_cases e : k = j
    · subst e
      rw [uA_s]
      exact hn
    · rw [uA_n e]
      refine (h.2 k a b c).kept (ho _ (fun q => e ?_))
      have h1 := hR.2 k a b c
      have q : r k = r j := q
      rw [q, hR.2 j h4 h49 h40] at h1
      omega
theorem MH.sc (hR : MG G h0 r) (h : MH E h0 r t0 t1 t2 A cd pk H) {cd' pk' : Int32} (hn : va_at (DG E) vwCl (h0, .inr (10, mfs t0 t1 t2 cd' r pk')) H1) (ho : ∀ q, q ≠ h0 → H1[q]? = H[q]?) : MH E h0 r t0 t1 t2 A cd' pk' H1 := by
  refine ⟨hn, fun k a b c => (h.2 k a b c).kept (ho _ (fun q => ?_))⟩
  have h1 := hR.2 k a b c
  have q : r k = h0 := q
  rw [q, hR.1] at h1
  omega
theorem MH.cg {A' : AA} (h : MH E h0 r t0 t1 t2 A cd pk H) (e : ∀ j, A j = A' j) : MH E h0 r t0 t1 t2 A' cd pk H := by
  have : A = A' := funext e
  rw [← this]
  exact h
end MHS
theorem s_nat {x : Int32} (h : 0 ≤ x.toInt) : ∃ n : Nat, (n : Int) = x.toInt ∧ x.toNatClampNeg = n := by
  obtain ⟨j, hj, rfl⟩ := s_pos h
  exact ⟨j, (nI_toInt hj).symm, nI_clamp hj⟩
theorem upd_s {f : Nat → Int32} {n : Nat} {v : Int32} : upd f n v n = v := by simp [upd]
theorem upd_n {f : Nat → Int32} {n k : Nat} {v : Int32} (h : k ≠ n) : upd f n v k = f k := by simp [upd, h]
def I2 (b s : Nat → Int32) : Prop := ∀ n, n < 12 → 0 ≤ (b n).toInt ∧ 0 ≤ (s n).toInt ∧ (b n).toInt + (s n).toInt ≤ 32
def I3 (d : Nat → Int32) : Prop := ∀ n, n < 2 → 0 ≤ (d n).toInt ∧ (d n).toInt ≤ 16
def I5 (h s c : Nat → Int32) : Prop := ∀ n, n < 16 → 0 ≤ (h n).toInt ∧ 0 ≤ (c n).toInt ∧ (c n).toInt ≤ (s n).toInt ∧ (h n).toInt + (s n).toInt ≤ 32
def I6 (k h s g p : Nat → Int32) : Prop := ∀ n, n < 16 → 0 ≤ (k n).toInt ∧ (k n).toInt ≤ 3 ∧ 0 ≤ (h n).toInt ∧ 0 ≤ (s n).toInt ∧ (s n).toInt ≤ 12 ∧ (h n).toInt + (s n).toInt ≤ 32 ∧ ((k n).toInt = 0 ∨ (0 ≤ (g n).toInt ∧ (g n).toInt ≤ 5)) ∧ -1 ≤ (p n).toInt ∧ (p n).toInt ≤ 31
def I7 (o k s m p : Nat → Int32) : Prop := ∀ n, n < 25 → 0 ≤ (o n).toInt ∧ (o n).toInt ≤ 3 ∧ 0 ≤ (s n).toInt ∧ (s n).toInt ≤ 12 ∧ ((k n).toInt ≠ 0 ∧ (k n).toInt ≠ 1 ∧ (k n).toInt ≠ 4 ∨ (s n).toInt ≤ 4) ∧ ((k n).toInt < 1 ∨ 3 < (k n).toInt ∨ (0 ≤ (m n).toInt ∧ (m n).toInt ≤ 5)) ∧ -1 ≤ (p n).toInt ∧ (p n).toInt ≤ 60 ∧ 0 ≤ (k n).toInt
def I8 (q v a b : Nat → Int32) : Prop := ∀ n, n < 4 → 0 ≤ (q n).toInt ∧ (q n).toInt ≤ 4 ∧ 0 ≤ (v n).toInt ∧ (v n).toInt ≤ 4 ∧ 0 ≤ (a n).toInt ∧ (a n).toInt ≤ 2 ∧ ((b n).toInt = 0 ∨ 1 ≤ (v n).toInt)
theorem i_9 : (9 : Int32).toInt = 9 := by decide
theorem i_11 : (11 : Int32).toInt = 11 := by decide
theorem i_13 : (13 : Int32).toInt = 13 := by decide
theorem i_25 : (25 : Int32).toInt = 25 := by decide
theorem i_60 : (60 : Int32).toInt = 60 := by decide
theorem i_75 : (75 : Int32).toInt = 75 := by decide
theorem i_79 : (79 : Int32).toInt = 79 := by decide
theorem i_80 : (80 : Int32).toInt = 80 := by decide
theorem i_96 : (96 : Int32).toInt = 96 := by decide
theorem i_100 : (100 : Int32).toInt = 100 := by decide
theorem mfs_set40 {t0 t1 t2 c p v : Int32} {r : Nat → Nat} : (mfs t0 t1 t2 c r p).set 40 (.int v) = mfs t0 t1 t2 c r v := by
  simp only [List.set_cons_succ, List.set_cons_zero]
theorem MH.cg9 {E : EE} {h0 : Nat} {r : Nat → Nat} {t0 t1 t2 cd pk : Int32} {A A' : AA} {H : Heap} (h : MH E h0 r t0 t1 t2 A cd pk H) (e4 : A 4 = A' 4) (e5 : A 5 = A' 5) (e6 : A 6 = A' 6) (e7 : A 7 = A' 7) (e8 : A 8 = A' 8) (e9 : A 9 = A' 9) (e10 : A 10 = A' 10) (e11 : A 11 = A' 11) (e12 : A 12 = A' 12) (e13 : A 13 = A' 13) (e14 : A 14 = A' 14) (e15 : A 15 = A' 15) (e16 : A 16 = A' 16) (e17 : A 17 = A' 17) (e18 : A 18 = A' 18) (e19 : A 19 = A' 19) (e20 : A 20 = A' 20) (e21 : A 21 = A' 21) (e22 : A 22 = A' 22) (e23 : A 23 = A' 23) (e24 : A 24 = A' 24) (e25 : A 25 = A' 25) (e26 : A 26 = A' 26) (e27 : A 27 = A' 27) (e28 : A 28 = A' 28) (e29 : A 29 = A' 29) (e30 : A 30 = A' 30) (e31 : A 31 = A' 31) (e32 : A 32 = A' 32) (e33 : A 33 = A' 33) (e34 : A 34 = A' 34) (e35 : A 35 = A' 35) (e36 : A 36 = A' 36) (e37 : A 37 = A' 37) (e38 : A 38 = A' 38) (e39 : A 39 = A' 39) (e41 : A 41 = A' 41) (e42 : A 42 = A' 42) (e43 : A 43 = A' 43) (e44 : A 44 = A' 44) (e45 : A 45 = A' 45) (e46 : A 46 = A' 46) (e47 : A 47 = A' 47) (e48 : A 48 = A' 48) : MH E h0 r t0 t1 t2 A' cd pk H := ⟨h.1, fun j a b c => by
  have hh := h.2 j a b c
  have e : A j = A' j := by
    rcases (show j = 4 ∨ j = 5 ∨ j = 6 ∨ j = 7 ∨ j = 8 ∨ j = 9 ∨ j = 10 ∨ j = 11 ∨ j = 12 ∨ j = 13 ∨ j = 14 ∨ j = 15 ∨ j = 16 ∨ j = 17 ∨ j = 18 ∨ j = 19 ∨ j = 20 ∨ j = 21 ∨ j = 22 ∨ j = 23 ∨ j = 24 ∨ j = 25 ∨ j = 26 ∨ j = 27 ∨ j = 28 ∨ j = 29 ∨ j = 30 ∨ j = 31 ∨ j = 32 ∨ j = 33 ∨ j = 34 ∨ j = 35 ∨ j = 36 ∨ j = 37 ∨ j = 38 ∨ j = 39 ∨ j = 41 ∨ j = 42 ∨ j = 43 ∨ j = 44 ∨ j = 45 ∨ j = 46 ∨ j = 47 ∨ j = 48 by omega) with rfl | rfl | rfl | rfl | rfl | rfl | rfl | rfl | rfl | rfl | rfl | rfl | rfl | rfl | rfl | rfl | rfl | rfl | rfl | rfl | rfl | rfl | rfl | rfl | rfl | rfl | rfl | rfl | rfl | rfl | rfl | rfl | rfl | rfl | rfl | rfl | rfl | rfl | rfl | rfl | rfl | rfl | rfl | rfl <;> assumption
  rw [← e]
  exact hh⟩
section JN
variable {p : Program} {l : Launch} {e : Env} {R : Room} {s : State} {m : MethodId} {args : Array Value} {below : List Frame} {meth : Method} {c : Code} {H : Heap} {locs : List Loc} {cells slots : Nat} {Q : State → Prop} {g : JFrame}
theorem W.jv (P : Int32 → Prop) (f : Int32 → JFrame) (h1 : ∀ v, P v → W p l e R s m args below meth c H locs cells slots Q (f v)) (h2 : (∀ v, P v → W p l e R s m args below meth c H locs cells slots Q (f v)) → W p l e R s m args below meth c H locs cells slots Q g) : W p l e R s m args below meth c H locs cells slots Q g := h2 h1
theorem W.jh {σ : Type} (P : σ → Heap → List Loc → Prop) (f : JFrame) (h1 : ∀ x H locs, P x H locs → W p l e R s m args below meth c H locs cells slots Q f) (h2 : (∀ x H locs, P x H locs → W p l e R s m args below meth c H locs cells slots Q f) → W p l e R s m args below meth c H locs cells slots Q g) : W p l e R s m args below meth c H locs cells slots Q g := h2 h1
end JN
