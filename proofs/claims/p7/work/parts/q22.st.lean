/-- the least and the greatest that a setting may be -/
def wi (v lo hi : Int32) : Int32 := if lo < (if v < hi then v else hi) then (if v < hi then v else hi) else lo
theorem wi_t (v lo hi : Int32) : (wi v lo hi).toInt = max lo.toInt (min v.toInt hi.toInt) := by
  unfold wi
  by_cases h1 : v < hi
  · rw [if_pos h1]
    rw [lt_I] at h1
    by_cases h2 : lo < v
    · rw [if_pos h2]; rw [lt_I] at h2; omega
    · rw [if_neg h2]; rw [lt_I] at h2; omega
  · rw [if_neg h1]
    rw [lt_I] at h1
    by_cases h2 : lo < hi
    · rw [if_pos h2]; rw [lt_I] at h2; omega
    · rw [if_neg h2]; rw [lt_I] at h2; omega
theorem wi_20 {v r : Int32} (h : r.toInt = max 2 (min v.toInt 20)) : r = wi v 2 20 := by
  apply i32_eq
  rw [wi_t, i_2, i_20]
  exact h
theorem wi_7 {v r : Int32} (h : r.toInt = max 0 (min v.toInt 7)) : r = wi v 0 7 := by
  apply i32_eq
  rw [wi_t, i_0, i_7]
  exact h
theorem wi_2 {v : Int32} : 2 ≤ (wi v 2 20).toInt := by
  rw [wi_t, i_2, i_20]
  omega
/-- what is made first: the groups, the numbers, the addresses, by their place after the first free one -/
def gs (n : Nat) : Nat :=
  if n < 54 then (if n = 0 then 4 else if n = 1 then 30 else if n % 2 = 0 then 31 else 32)
  else if n < 75 then (if n = 54 then 2 else match (n - 55) % 10 with | 0 => 5 | 1 => 14 | 2 => 6 | 3 => 15 | _ => 7)
  else if n < 144 then (if n = 75 then 3 else match (n - 76) % 17 with | 0 => 9 | 1 => 11 | 2 => 12 | 3 => 13 | 4 => 13 | 5 => 13 | 6 => 13 | 7 => 8 | 8 => 10 | 9 => 16 | 10 => 17 | 11 => 11 | 12 => 12 | _ => 13)
  else 0
def pr (q : Nat) : Int32 := match q with | 0 => 0 | 1 => 1 | 2 => 2 | _ => 3
def bs (w0 w1 w2 : Int32) (n j : Nat) : Int32 := match gs n with
  | 9 => match j with | 0 => pr ((n - 76) / 17) ^^^ 1 | 3 => w0 | 4 => w1 | 5 => w2 | _ => 0
  | 10 => match j with | 0 => pr ((n - 76) / 17) ^^^ 1 | _ => 0
  | 11 => match j with | 0 => pr ((n - 76) / 17) | _ => 0
  | 16 => -1
  | _ => 0
def rs (n j : Nat) : Nat := match gs n with
  | 4 => match j with | 0 => 1 | 2 => 2 | _ => 4
  | 30 => 6 + 2 * j
  | 31 => n + 1
  | 2 => 55 + 10 * j
  | 5 => match j with | 0 => n + 1 | 1 => n + 2 | _ => n + 3
  | 6 => n + 2 + j
  | 3 => 83 + 17 * j
  | 9 => match j with | 1 => 55 + 10 * ((n - 76) / 17 % 2) | 2 => 0 | _ => n + 1
  | 11 => match j with | 1 => 55 + 10 * ((n - 76) / 17 % 2) | _ => n + 1
  | 12 => n + 1 + j
  | 8 => match j with | 0 => n - 7 | _ => n + 1
  | 10 => match j with | 1 => 55 + 10 * ((n - 76) / 17 % 2) | 2 => 0 | 3 => n + 3 | 7 => n + 1 | _ => n + 2
  | _ => 0
def ctab (E : EE) (sz : Nat) (w0 w1 w2 : Int32) (n : Nat) : va_E := ctx E (gs n) (bs w0 w1 w2 n) (fun j => sz + rs n j)
/-- what is there below k, but for some -/
def TB (E : EE) (sz : Nat) (w0 w1 w2 : Int32) (k : Nat) (ex : List Nat) (H : Heap) : Prop := ∀ n, n < k → n ∉ ex → va_at (DG E) vwCl (sz + n, ctab E sz w0 w1 w2 n) H
section TBS
variable {E : EE} {sz : Nat} {w0 w1 w2 : Int32} {k k2 : Nat} {ex ex2 : List Nat} {H H1 : Heap}
theorem TB.nil : TB E sz w0 w1 w2 0 ex H := fun n h _ => absurd h (Nat.not_lt_zero n)
theorem TB.keptS (h : TB E sz w0 w1 w2 k ex H) (ho : ∀ q, q < H.size → H1[q]? = H[q]?) : TB E sz w0 w1 w2 k ex H1 := fun n h1 h2 => (h n h1 h2).kept (ho _ (h n h1 h2).lt)
theorem TB.keptN (h : TB E sz w0 w1 w2 k ex H) (hk : ∀ q, q < H.size → ¬ (fun _ : Nat => False) q → H1[q]? = H[q]?) : TB E sz w0 w1 w2 k ex H1 := fun n h1 h2 => (h n h1 h2).kept (hk _ (h n h1 h2).lt (fun h => h))
theorem TB.keptH {h0 : Nat} (h : TB E sz w0 w1 w2 k ex H) (hlt : h0 < sz) (ho : ∀ q, q ≠ h0 → H1[q]? = H[q]?) : TB E sz w0 w1 w2 k ex H1 := fun n h1 h2 => (h n h1 h2).kept (ho _ (by show sz + n ≠ h0; omega))
theorem TB.keptW {j : Nat} (h : TB E sz w0 w1 w2 k ex H) (ho : ∀ q, q ≠ sz + j → H1[q]? = H[q]?) (hj : k ≤ j ∨ j ∈ ex) : TB E sz w0 w1 w2 k ex H1 := fun n h1 h2 => (h n h1 h2).kept (ho _ (by
  show sz + n ≠ sz + j
  intro e
  obtain rfl : n = j := by omega
  exact hj.elim (fun h3 => by omega) h2))
theorem TB.keptC {j z : Nat} (h : TB E sz w0 w1 w2 k ex H) (hk : ∀ q, q < H.size → ¬ AC (sz + j) (sz + z) q → H1[q]? = H[q]?) (hj : k ≤ j ∨ j ∈ ex) (hz : k ≤ z) : TB E sz w0 w1 w2 k ex H1 := fun n h1 h2 => (h n h1 h2).kept (hk _ (h n h1 h2).lt (fun q => by
  rcases q with e | e
  · have e : sz + n = sz + j := e
    obtain rfl : n = j := by omega
    exact hj.elim (fun h3 => by omega) h2
  · have e : sz + z ≤ sz + n := e
    omega))
theorem TB.grow (h : TB E sz w0 w1 w2 k ex H) (hn : ∀ n, n < k2 → n ∉ ex2 → (n < k ∧ n ∉ ex) ∨ va_at (DG E) vwCl (sz + n, ctab E sz w0 w1 w2 n) H) : TB E sz w0 w1 w2 k2 ex2 H := fun n h1 h2 => (hn n h1 h2).elim (fun h3 => h n h3.1 h3.2) (fun h3 => h3)
theorem bs_0 {n : Nat} (h : gs n = 31 ∨ gs n = 32) : bs w0 w1 w2 n = fun _ => 0 := by
  funext j
  unfold bs
  rcases h with h | h <;> (rw [h]; rfl)
theorem pk_g : ∀ p, p < 26 → gs (2 + 2 * p) = 31 ∧ gs (2 + 2 * p + 1) = 32 ∧ rs (2 + 2 * p) 7 = 2 + 2 * p + 1 := by decide
theorem PKB.tb (h : PKB E (sz + 2) 26 H) {n : Nat} (h1 : 2 ≤ n) (h2 : n < 54) : va_at (DG E) vwCl (sz + n, ctab E sz w0 w1 w2 n) H := by
  obtain ⟨p, hp, e⟩ : ∃ p, p < 26 ∧ (n = 2 + 2 * p ∨ n = 2 + 2 * p + 1) := ⟨(n - 2) / 2, by omega, by omega⟩
  obtain ⟨k1, k2, k3⟩ := pk_g p hp
  rcases e with rfl | rfl
  · have h9 := (h p hp).1
    unfold ctab
    rw [k1, bs_0 (Or.inl k1)]
    show va_at (DG E) vwCl (sz + (2 + 2 * p), .inr (2, [.int 0, .int 0, .int 0, .int 0, .int 0, .int 0, .int 0, .ref (sz + rs (2 + 2 * p) 7)])) H
    rw [k3, show sz + (2 + 2 * p + 1) = sz + 2 + 2 * p + 1 by omega, show sz + (2 + 2 * p) = sz + 2 + 2 * p by omega]
    exact h9
  · have h9 := (h p hp).2
    unfold ctab
    rw [k2, bs_0 (Or.inr k2), show sz + (2 + 2 * p + 1) = sz + 2 + 2 * p + 1 by omega]
    exact h9
end TBS
/-- the class's first heap -/
def G0 (x a : Nat) : Nat := if a < x then 0 else if a = x then 1 else gs (a - (x + 1))
def B0 (x : Nat) (w0 w1 w2 : Int32) : AA := fun a j => if a = x then 0 else bs w0 w1 w2 (a - (x + 1)) j
def R0 (x : Nat) : RR := fun a j => if a = x then (match j with | 0 => x + 1 + 54 | 1 => x + 1 + 75 | _ => x + 1 + 0) else x + 1 + rs (a - (x + 1)) j
section ST0
variable {E : EE} {x : Nat} {w0 w1 w2 : Int32} {H : Heap}
theorem G0_s {n a : Nat} (e : a = x + 1 + n) : G0 x a = gs n := by
  unfold G0
  rw [if_neg (by omega), if_neg (by omega), e, Nat.add_sub_cancel_left]
theorem G0_x : G0 x x = 1 := by
  unfold G0
  rw [if_neg (by omega), if_pos rfl]
theorem B0_s {n a : Nat} (e : a = x + 1 + n) : B0 x w0 w1 w2 a = bs w0 w1 w2 n := by
  funext j
  unfold B0
  rw [if_neg (by omega), e, Nat.add_sub_cancel_left]
theorem R0_s {n a : Nat} (e : a = x + 1 + n) : R0 x a = fun j => x + 1 + rs n j := by
  funext j
  unfold R0
  rw [if_neg (by omega), e, Nat.add_sub_cancel_left]
theorem gs_lt {n : Nat} (h : gs n ≠ 0) : n < 144 := by
  by_cases h1 : n < 144
  · exact h1
  · exact absurd (by unfold gs; rw [if_neg (by omega), if_neg (by omega), if_neg h1]) h
theorem G0_lt {a : Nat} (h : G0 x a ≠ 0) : x ≤ a ∧ a < x + 145 := by
  by_cases h1 : a < x
  · exact absurd (by unfold G0; rw [if_pos h1]) h
  · by_cases h2 : a = x
    · omega
    · rw [G0_s (n := a - (x + 1)) (by omega)] at h
      have h3 := gs_lt h
      omega
theorem TX.start (h0 : va_at (DG E) vwCl (x, .inr (9, [.ref (x + 1 + 54), .ref (x + 1 + 75), .ref (x + 1 + 0)])) H) (h : TB E (x + 1) w0 w1 w2 144 [] H) : TX E (G0 x) (B0 x w0 w1 w2) (R0 x) H := fun a ha => by
  by_cases h1 : a = x
  · subst h1
    rw [G0_x]
    have e : ∀ j, R0 a a j = (match j with | 0 => a + 1 + 54 | 1 => a + 1 + 75 | _ => a + 1 + 0) := fun j => if_pos rfl
    show va_at (DG E) vwCl (a, .inr (9, [.ref (R0 a a 0), .ref (R0 a a 1), .ref (R0 a a 2)])) H
    rw [e 0, e 1, e 2]
    exact h0
  · have h2 := G0_lt ha
    obtain ⟨n, rfl⟩ : ∃ n, a = x + 1 + n := ⟨a - (x + 1), by omega⟩
    rw [G0_s rfl, B0_s rfl, R0_s rfl]
    exact h n (by omega) List.not_mem_nil
theorem GRX.start : GRX x (G0 x) := by
  refine ⟨⟨G0_x, G0_s (n := 0) (by omega), G0_s (n := 1) (by omega), G0_s (n := 54) (by omega), G0_s (n := 75) (by omega)⟩, fun p hp => ?_, fun n hn => ?_, fun q hq => ?_⟩
  · obtain ⟨k1, k2, k3⟩ := pk_g p hp
    exact ⟨(G0_s (by omega)).trans k1, (G0_s (by omega)).trans k2⟩
  · rcases (show n = 0 ∨ n = 1 by omega) with rfl | rfl
    · refine ⟨G0_s (n := 55) (by omega), G0_s (n := 56) (by omega), G0_s (n := 57) (by omega), G0_s (n := 58) (by omega), fun j hj => (G0_s (n := 59 + j) (by omega)).trans ?_⟩
      revert j; decide
    · refine ⟨G0_s (n := 65) (by omega), G0_s (n := 66) (by omega), G0_s (n := 67) (by omega), G0_s (n := 68) (by omega), fun j hj => (G0_s (n := 69 + j) (by omega)).trans ?_⟩
      revert j; decide
  · rcases (show q = 0 ∨ q = 1 ∨ q = 2 ∨ q = 3 by omega) with rfl | rfl | rfl | rfl
    · exact ⟨G0_s (n := 76) (by omega), G0_s (n := 77) (by omega), G0_s (n := 78) (by omega), G0_s (n := 83) (by omega), G0_s (n := 84) (by omega), G0_s (n := 85) (by omega), G0_s (n := 86) (by omega), G0_s (n := 87) (by omega), G0_s (n := 88) (by omega), fun i hi => ⟨(G0_s (n := 79 + i) (by omega)).trans (by revert i; decide), (G0_s (n := 89 + i) (by omega)).trans (by revert i; decide)⟩⟩
    · exact ⟨G0_s (n := 93) (by omega), G0_s (n := 94) (by omega), G0_s (n := 95) (by omega), G0_s (n := 100) (by omega), G0_s (n := 101) (by omega), G0_s (n := 102) (by omega), G0_s (n := 103) (by omega), G0_s (n := 104) (by omega), G0_s (n := 105) (by omega), fun i hi => ⟨(G0_s (n := 96 + i) (by omega)).trans (by revert i; decide), (G0_s (n := 106 + i) (by omega)).trans (by revert i; decide)⟩⟩
    · exact ⟨G0_s (n := 110) (by omega), G0_s (n := 111) (by omega), G0_s (n := 112) (by omega), G0_s (n := 117) (by omega), G0_s (n := 118) (by omega), G0_s (n := 119) (by omega), G0_s (n := 120) (by omega), G0_s (n := 121) (by omega), G0_s (n := 122) (by omega), fun i hi => ⟨(G0_s (n := 113 + i) (by omega)).trans (by revert i; decide), (G0_s (n := 123 + i) (by omega)).trans (by revert i; decide)⟩⟩
    · exact ⟨G0_s (n := 127) (by omega), G0_s (n := 128) (by omega), G0_s (n := 129) (by omega), G0_s (n := 134) (by omega), G0_s (n := 135) (by omega), G0_s (n := 136) (by omega), G0_s (n := 137) (by omega), G0_s (n := 138) (by omega), G0_s (n := 139) (by omega), fun i hi => ⟨(G0_s (n := 130 + i) (by omega)).trans (by revert i; decide), (G0_s (n := 140 + i) (by omega)).trans (by revert i; decide)⟩⟩
theorem SHX.start : SHX x (R0 x) := by
  have hx : ∀ j, R0 x x j = (match j with | 0 => x + 1 + 54 | 1 => x + 1 + 75 | _ => x + 1 + 0) := fun j => if_pos rfl
  have hr : ∀ {n a j v : Nat}, a = x + 1 + n → rs n j = v → R0 x a j = x + 1 + v := fun e1 e2 => by rw [R0_s e1]; exact congrArg (fun z => x + 1 + z) e2
  refine ⟨⟨(hx 0).trans (by show x + 1 + 54 = x + 55; omega), (hx 1).trans (by show x + 1 + 75 = x + 76; omega), hx 2⟩, fun n hn => ?_, fun q hq => ?_, fun q hq => ?_, fun q hq => ?_, fun q hq => ?_, fun q hq => ?_, ?_⟩
  · rcases (show n = 0 ∨ n = 1 by omega) with rfl | rfl
    · exact ⟨(hr (n := 54) (v := 55) (by omega) rfl).trans (by omega), (hr (n := 55) (v := 56) (by omega) rfl).trans (by omega), (hr (n := 55) (v := 57) (by omega) rfl).trans (by omega), (hr (n := 55) (v := 58) (by omega) rfl).trans (by omega), fun j hj => (hr (n := 57) (v := 57 + 2 + j) (by omega) rfl).trans (by omega)⟩
    · exact ⟨(hr (n := 54) (v := 65) (by omega) rfl).trans (by omega), (hr (n := 65) (v := 66) (by omega) rfl).trans (by omega), (hr (n := 65) (v := 67) (by omega) rfl).trans (by omega), (hr (n := 65) (v := 68) (by omega) rfl).trans (by omega), fun j hj => (hr (n := 67) (v := 67 + 2 + j) (by omega) rfl).trans (by omega)⟩
  · rcases (show q = 0 ∨ q = 1 ∨ q = 2 ∨ q = 3 by omega) with rfl | rfl | rfl | rfl
    · exact ⟨(hr (n := 75) (v := 83) (by omega) rfl).trans (by omega), (hr (n := 83) (v := 76) (by omega) rfl).trans (by omega), (hr (n := 83) (v := 84) (by omega) rfl).trans (by omega)⟩
    · exact ⟨(hr (n := 75) (v := 100) (by omega) rfl).trans (by omega), (hr (n := 100) (v := 93) (by omega) rfl).trans (by omega), (hr (n := 100) (v := 101) (by omega) rfl).trans (by omega)⟩
    · exact ⟨(hr (n := 75) (v := 117) (by omega) rfl).trans (by omega), (hr (n := 117) (v := 110) (by omega) rfl).trans (by omega), (hr (n := 117) (v := 118) (by omega) rfl).trans (by omega)⟩
    · exact ⟨(hr (n := 75) (v := 134) (by omega) rfl).trans (by omega), (hr (n := 134) (v := 127) (by omega) rfl).trans (by omega), (hr (n := 134) (v := 135) (by omega) rfl).trans (by omega)⟩
  · rcases (show q = 0 ∨ q = 1 ∨ q = 2 ∨ q = 3 by omega) with rfl | rfl | rfl | rfl
    · exact ⟨(hr (n := 76) (v := 55) (by omega) rfl).trans (by omega), (hr (n := 76) (v := 0) (by omega) rfl).trans (by omega), (hr (n := 76) (v := 77) (by omega) rfl).trans (by omega)⟩
    · exact ⟨(hr (n := 93) (v := 65) (by omega) rfl).trans (by omega), (hr (n := 93) (v := 0) (by omega) rfl).trans (by omega), (hr (n := 93) (v := 94) (by omega) rfl).trans (by omega)⟩
    · exact ⟨(hr (n := 110) (v := 55) (by omega) rfl).trans (by omega), (hr (n := 110) (v := 0) (by omega) rfl).trans (by omega), (hr (n := 110) (v := 111) (by omega) rfl).trans (by omega)⟩
    · exact ⟨(hr (n := 127) (v := 65) (by omega) rfl).trans (by omega), (hr (n := 127) (v := 0) (by omega) rfl).trans (by omega), (hr (n := 127) (v := 128) (by omega) rfl).trans (by omega)⟩
  · rcases (show q = 0 ∨ q = 1 ∨ q = 2 ∨ q = 3 by omega) with rfl | rfl | rfl | rfl
    · exact ⟨(hr (n := 77) (v := 55) (by omega) rfl).trans (by omega), (hr (n := 77) (v := 78) (by omega) rfl).trans (by omega), fun i hi => (hr (n := 78) (v := 78 + 1 + i) (by omega) rfl).trans (by omega)⟩
    · exact ⟨(hr (n := 94) (v := 65) (by omega) rfl).trans (by omega), (hr (n := 94) (v := 95) (by omega) rfl).trans (by omega), fun i hi => (hr (n := 95) (v := 95 + 1 + i) (by omega) rfl).trans (by omega)⟩
    · exact ⟨(hr (n := 111) (v := 55) (by omega) rfl).trans (by omega), (hr (n := 111) (v := 112) (by omega) rfl).trans (by omega), fun i hi => (hr (n := 112) (v := 112 + 1 + i) (by omega) rfl).trans (by omega)⟩
    · exact ⟨(hr (n := 128) (v := 65) (by omega) rfl).trans (by omega), (hr (n := 128) (v := 129) (by omega) rfl).trans (by omega), fun i hi => (hr (n := 129) (v := 129 + 1 + i) (by omega) rfl).trans (by omega)⟩
  · rcases (show q = 0 ∨ q = 1 ∨ q = 2 ∨ q = 3 by omega) with rfl | rfl | rfl | rfl
    · exact ⟨(hr (n := 84) (v := 55) (by omega) rfl).trans (by omega), (hr (n := 84) (v := 0) (by omega) rfl).trans (by omega), (hr (n := 84) (v := 87) (by omega) rfl).trans (by omega), (hr (n := 84) (v := 85) (by omega) rfl).trans (by omega), (hr (n := 84) (v := 86) (by omega) rfl).trans (by omega)⟩
    · exact ⟨(hr (n := 101) (v := 65) (by omega) rfl).trans (by omega), (hr (n := 101) (v := 0) (by omega) rfl).trans (by omega), (hr (n := 101) (v := 104) (by omega) rfl).trans (by omega), (hr (n := 101) (v := 102) (by omega) rfl).trans (by omega), (hr (n := 101) (v := 103) (by omega) rfl).trans (by omega)⟩
    · exact ⟨(hr (n := 118) (v := 55) (by omega) rfl).trans (by omega), (hr (n := 118) (v := 0) (by omega) rfl).trans (by omega), (hr (n := 118) (v := 121) (by omega) rfl).trans (by omega), (hr (n := 118) (v := 119) (by omega) rfl).trans (by omega), (hr (n := 118) (v := 120) (by omega) rfl).trans (by omega)⟩
    · exact ⟨(hr (n := 135) (v := 65) (by omega) rfl).trans (by omega), (hr (n := 135) (v := 0) (by omega) rfl).trans (by omega), (hr (n := 135) (v := 138) (by omega) rfl).trans (by omega), (hr (n := 135) (v := 136) (by omega) rfl).trans (by omega), (hr (n := 135) (v := 137) (by omega) rfl).trans (by omega)⟩
  · rcases (show q = 0 ∨ q = 1 ∨ q = 2 ∨ q = 3 by omega) with rfl | rfl | rfl | rfl
    · exact ⟨(hr (n := 87) (v := 55) (by omega) rfl).trans (by omega), (hr (n := 87) (v := 88) (by omega) rfl).trans (by omega), fun i hi => (hr (n := 88) (v := 88 + 1 + i) (by omega) rfl).trans (by omega)⟩
    · exact ⟨(hr (n := 104) (v := 65) (by omega) rfl).trans (by omega), (hr (n := 104) (v := 105) (by omega) rfl).trans (by omega), fun i hi => (hr (n := 105) (v := 105 + 1 + i) (by omega) rfl).trans (by omega)⟩
    · exact ⟨(hr (n := 121) (v := 55) (by omega) rfl).trans (by omega), (hr (n := 121) (v := 122) (by omega) rfl).trans (by omega), fun i hi => (hr (n := 122) (v := 122 + 1 + i) (by omega) rfl).trans (by omega)⟩
    · exact ⟨(hr (n := 138) (v := 65) (by omega) rfl).trans (by omega), (hr (n := 138) (v := 139) (by omega) rfl).trans (by omega), fun i hi => (hr (n := 139) (v := 139 + 1 + i) (by omega) rfl).trans (by omega)⟩
  · refine ⟨(hr (n := 0) (v := 1) (by omega) rfl).trans (by omega), (hr (n := 0) (v := 4) (by omega) rfl).trans (by omega), fun p hp => ?_⟩
    obtain ⟨k1, k2, k3⟩ := pk_g p hp
    exact (hr (n := 2 + 2 * p) (by omega) k3).trans (by omega)
end ST0
section ST1
variable {x : Nat} {w0 w1 w2 : Int32}
theorem gs_in : ∀ n, n < 144 → gs n = 2 ∨ gs n = 3 ∨ gs n = 4 ∨ gs n = 5 ∨ gs n = 6 ∨ gs n = 7 ∨ gs n = 8 ∨ gs n = 9 ∨ gs n = 10 ∨ gs n = 11 ∨ gs n = 12 ∨ gs n = 13 ∨ gs n = 14 ∨ gs n = 15 ∨ gs n = 16 ∨ gs n = 17 ∨ gs n = 30 ∨ gs n = 31 ∨ gs n = 32 := by decide
theorem st_2 : ∀ n, n < 144 → gs n = 2 → ∀ i, i < 2 → gs (rs n i) = 5 := by decide +kernel
theorem st_3 : ∀ n, n < 144 → gs n = 3 → ∀ i, i < 4 → gs (rs n i) = 8 := by decide +kernel
theorem st_4 : ∀ n, n < 144 → gs n = 4 → gs (rs n 0) = 30 ∧ (0 ≤ (bs 0 0 0 n 1).toInt ∧ (bs 0 0 0 n 1).toInt ≤ 24) ∧ gs (rs n 2) = 31 ∧ gs (rs n 3) = 31 := by decide +kernel
theorem st_5 : ∀ n, n < 144 → gs n = 5 → gs (rs n 0) = 14 ∧ gs (rs n 1) = 6 ∧ gs (rs n 2) = 15 ∧ (0 ≤ (bs 0 0 0 n 3).toInt ∧ (bs 0 0 0 n 3).toInt ≤ 15) ∧ (0 ≤ (bs 0 0 0 n 4).toInt ∧ (bs 0 0 0 n 4).toInt ≤ 16) := by decide +kernel
theorem st_6 : ∀ n, n < 144 → gs n = 6 → ∀ i, i < 6 → gs (rs n i) = 7 := by decide +kernel
theorem st_8 : ∀ n, n < 144 → gs n = 8 → gs (rs n 0) = 9 ∧ gs (rs n 1) = 10 := by decide +kernel
theorem st_9 : ∀ n, n < 144 → gs n = 9 → (0 ≤ (bs 0 0 0 n 0).toInt ∧ (bs 0 0 0 n 0).toInt ≤ 3) ∧ gs (rs n 1) = 5 ∧ gs (rs n 2) = 4 ∧ gs (rs n 6) = 11 := by decide +kernel
theorem st_10 : ∀ n, n < 144 → gs n = 10 → (0 ≤ (bs 0 0 0 n 0).toInt ∧ (bs 0 0 0 n 0).toInt ≤ 3) ∧ gs (rs n 1) = 5 ∧ gs (rs n 2) = 4 ∧ gs (rs n 3) = 11 ∧ gs (rs n 7) = 16 ∧ gs (rs n 8) = 17 := by decide +kernel
theorem st_11 : ∀ n, n < 144 → gs n = 11 → gs (rs n 1) = 5 ∧ gs (rs n 2) = 12 ∧ (0 ≤ (bs 0 0 0 n 3).toInt ∧ (bs 0 0 0 n 3).toInt ≤ 3) ∧ (0 ≤ (bs 0 0 0 n 4).toInt ∧ (bs 0 0 0 n 4).toInt ≤ 4) := by decide +kernel
theorem st_12 : ∀ n, n < 144 → gs n = 12 → ∀ i, i < 4 → gs (rs n i) = 13 := by decide +kernel
theorem st_13 : ∀ n, n < 144 → gs n = 13 → (0 ≤ (bs 0 0 0 n 3).toInt ∧ (bs 0 0 0 n 3).toInt ≤ 12) := by decide +kernel
theorem st_30 : ∀ n, n < 144 → gs n = 30 → ∀ i, i < 24 → gs (rs n i) = 31 := by decide +kernel
theorem st_31 : ∀ n, n < 144 → gs n = 31 → (0 ≤ (bs 0 0 0 n 0).toInt ∧ (bs 0 0 0 n 0).toInt ≤ 3) ∧ (bs 0 0 0 n 3).toInt ≤ 12 ∧ gs (rs n 7) = 32 := by decide +kernel
theorem bs_w {n j : Nat} (h : j ≠ 3 ∧ j ≠ 4 ∧ j ≠ 5 ∨ gs n ≠ 9) : bs w0 w1 w2 n j = bs 0 0 0 n j := by
  unfold bs
  split
  · split
    · rfl
    · exact absurd rfl (h.elim (fun h => h.1) (fun h9 => absurd ‹gs n = 9› h9))
    · exact absurd rfl (h.elim (fun h => h.2.1) (fun h9 => absurd ‹gs n = 9› h9))
    · exact absurd rfl (h.elim (fun h => h.2.2) (fun h9 => absurd ‹gs n = 9› h9))
    · rfl
  all_goals rfl
theorem TW.start : TW (G0 x) (B0 x w0 w1 w2) (R0 x) := fun a => by
  by_cases h1 : a = x
  · subst h1
    rw [G0_x]
    have e : ∀ j, R0 a a j = (match j with | 0 => a + 1 + 54 | 1 => a + 1 + 75 | _ => a + 1 + 0) := fun j => if_pos rfl
    show G0 a (R0 a a 0) = 2 ∧ G0 a (R0 a a 1) = 3 ∧ G0 a (R0 a a 2) = 4
    rw [e 0, e 1, e 2]
    exact ⟨G0_s rfl, G0_s rfl, G0_s rfl⟩
  · by_cases h2 : G0 x a = 0
    · rw [h2]; exact trivial
    · have h3 := G0_lt h2
      obtain ⟨n, rfl⟩ : ∃ n, a = x + 1 + n := ⟨a - (x + 1), by omega⟩
      have hn : n < 144 := by omega
      rw [G0_s rfl, B0_s rfl, R0_s rfl]
      have hG : ∀ {i g : Nat}, gs i = g → G0 x (x + 1 + i) = g := fun h => (G0_s rfl).trans h
      rcases gs_in n hn with h | h | h | h | h | h | h | h | h | h | h | h | h | h | h | h | h | h | h
      · rw [h]; exact fun i hi => hG (st_2 n hn h i hi)
      · rw [h]; exact fun i hi => hG (st_3 n hn h i hi)
      · have k := st_4 n hn h
        rw [h]
        obtain ⟨k0, k1, k2, k3⟩ := k
        exact ⟨hG k0, (by rw [bs_w (j := 1) (by first | exact Or.inl (by decide) | exact Or.inr (by rw [h]; decide))]; exact k1), hG k2, hG k3⟩
      · have k := st_5 n hn h
        rw [h]
        obtain ⟨k0, k1, k2, k3, k4⟩ := k
        exact ⟨hG k0, hG k1, hG k2, (by rw [bs_w (j := 3) (by first | exact Or.inl (by decide) | exact Or.inr (by rw [h]; decide))]; exact k3), (by rw [bs_w (j := 4) (by first | exact Or.inl (by decide) | exact Or.inr (by rw [h]; decide))]; exact k4)⟩
      · rw [h]; exact fun i hi => hG (st_6 n hn h i hi)
      · rw [h]; exact trivial
      · have k := st_8 n hn h
        rw [h]
        obtain ⟨k0, k1⟩ := k
        exact ⟨hG k0, hG k1⟩
      · have k := st_9 n hn h
        rw [h]
        obtain ⟨k0, k1, k2, k3⟩ := k
        exact ⟨(by rw [bs_w (j := 0) (by first | exact Or.inl (by decide) | exact Or.inr (by rw [h]; decide))]; exact k0), hG k1, hG k2, hG k3⟩
      · have k := st_10 n hn h
        rw [h]
        obtain ⟨k0, k1, k2, k3, k4, k5⟩ := k
        exact ⟨(by rw [bs_w (j := 0) (by first | exact Or.inl (by decide) | exact Or.inr (by rw [h]; decide))]; exact k0), hG k1, hG k2, hG k3, hG k4, hG k5⟩
      · have k := st_11 n hn h
        rw [h]
        obtain ⟨k0, k1, k2, k3⟩ := k
        exact ⟨hG k0, hG k1, (by rw [bs_w (j := 3) (by first | exact Or.inl (by decide) | exact Or.inr (by rw [h]; decide))]; exact k2), (by rw [bs_w (j := 4) (by first | exact Or.inl (by decide) | exact Or.inr (by rw [h]; decide))]; exact k3)⟩
      · rw [h]; exact fun i hi => hG (st_12 n hn h i hi)
      · have k := st_13 n hn h
        rw [h]
        have k0 := k
        exact (show 0 ≤ (bs w0 w1 w2 n 3).toInt ∧ (bs w0 w1 w2 n 3).toInt ≤ 12 from (by rw [bs_w (j := 3) (by first | exact Or.inl (by decide) | exact Or.inr (by rw [h]; decide))]; exact k0))
      · rw [h]; exact trivial
      · rw [h]; exact trivial
      · rw [h]; exact trivial
      · rw [h]; exact trivial
      · rw [h]; exact fun i hi => hG (st_30 n hn h i hi)
      · have k := st_31 n hn h
        rw [h]
        obtain ⟨k0, k1, k2⟩ := k
        exact ⟨(by rw [bs_w (j := 0) (by first | exact Or.inl (by decide) | exact Or.inr (by rw [h]; decide))]; exact k0), (by rw [bs_w (j := 3) (by first | exact Or.inl (by decide) | exact Or.inr (by rw [h]; decide))]; exact k1), hG k2⟩
      · rw [h]; exact trivial
theorem i32_01 : (0 : Int32).toInt = 0 := by decide
theorem sim_start (hw : 2 ≤ w0.toInt) : SIM x w0 w1 w2 (B0 x w0 w1 w2) (R0 x) (fun _ _ => 0) 0 := by
  have hr : ∀ {n a j v : Nat}, a = x + 1 + n → rs n j = v → R0 x a j = x + 1 + v := fun e1 e2 => by rw [R0_s e1]; exact congrArg (fun z => x + 1 + z) e2
  have hb : ∀ {n a j : Nat} {v : Int32}, a = x + 1 + n → bs w0 w1 w2 n j = v → B0 x w0 w1 w2 a j = v := fun e1 e2 => by rw [B0_s e1, e2]
  have hz : ¬ (0 : Int32).toInt = 1 := by decide
  have z0 := i32_01
  refine ⟨SHX.start, ⟨fun i => 2 + i, 0, ⟨(hr (n := 0) (v := 2) (by omega) rfl).trans (by omega), fun i hi => (hr (n := 1) (v := 6 + 2 * i) (by omega) rfl).trans (by show x + 1 + (6 + 2 * i) = x + 3 + 2 * (2 + i); omega), by decide, by decide, fun i hi => ⟨by show 2 + i < 26; omega, by show 2 + i ≠ 1; omega, by show 2 + i ≠ 0; omega⟩, fun i j _ _ e => by have e : 2 + i = 2 + j := e; omega⟩, hb (n := 0) (by omega) rfl, fun i hi => by rw [z0] at hi; omega⟩, fun n hn c hc => ?_, fun n hn j hj => ?_, fun n hn => ?_, fun q hq => ?_⟩
  · rcases (show n = 0 ∨ n = 1 by omega) with rfl | rfl
    · exact hb (n := 56) (by omega) rfl
    · exact hb (n := 66) (by omega) rfl
  · have k : ∀ n, n < 2 → ∀ j, j < 6 → gs (59 + 10 * n + j) = 7 := by decide
    have k1 : ∀ i, B0 x w0 w1 w2 (x + 60 + 10 * n + j) i = 0 := fun i => hb (n := 59 + 10 * n + j) (by omega) (by unfold bs; rw [k n hn j hj]; rfl)
    exact ⟨k1 0, k1 1, k1 2, by show 0 ≤ (0 : Int32).toInt; decide, by show (0 : Int32).toInt ≤ 7; decide⟩
  · refine ⟨0, by decide, ?_, ?_, fun i p hi hp => by have hi : (i : Int) < (0 : Int32).toInt := hi; omega⟩
    · rcases (show n = 0 ∨ n = 1 by omega) with rfl | rfl
      · rw [hb (n := 55) (v := 0) (by omega) rfl]; rfl
      · rw [hb (n := 65) (v := 0) (by omega) rfl]; rfl
    · rcases (show n = 0 ∨ n = 1 by omega) with rfl | rfl
      · exact hb (n := 55) (by omega) rfl
      · exact hb (n := 65) (by omega) rfl
  · have hT : 2 ≤ w0.toInt → TIM w0 0 0 := fun h => ⟨fun _ => by rw [z0]; omega, fun h9 => absurd h9 hz⟩
    rcases (show q = 0 ∨ q = 1 ∨ q = 2 ∨ q = 3 by omega) with rfl | rfl | rfl | rfl
    · exact ⟨⟨(by rw [hb (n := 76) (v := pr 0 ^^^ 1) (by omega) rfl]; decide), hb (n := 76) (v := w0) (by omega) rfl, hb (n := 76) (v := w1) (by omega) rfl, hb (n := 76) (v := w2) (by omega) rfl, (by rw [hb (n := 84) (v := pr 0 ^^^ 1) (by omega) rfl]; decide), (by rw [hb (n := 77) (v := pr 0) (by omega) rfl]; decide), (by rw [hb (n := 87) (v := pr 0) (by omega) rfl]; decide)⟩, ⟨hb (n := 83) (v := 0) (by omega) rfl, fun h9 => absurd h9 hz, ⟨hb (n := 76) (v := 0) (by omega) rfl, hb (n := 76) (v := 0) (by omega) rfl, hb (n := 76) (v := 0) (by omega) rfl⟩, fun _ => ⟨hb (n := 76) (v := 0) (by omega) rfl, hT hw⟩, ⟨hb (n := 84) (v := 0) (by omega) rfl, hb (n := 84) (v := 0) (by omega) rfl⟩, ⟨by show 0 ≤ (0 : Int32).toInt; decide, by show (0 : Int32).toInt ≤ 63; decide⟩, ⟨by show 0 ≤ (0 : Int32).toInt; decide, by show (0 : Int32).toInt ≤ 2; decide⟩, (Or.inl rfl), (Or.inl rfl), (Or.inl rfl)⟩, ⟨0, by decide, (by rw [hb (n := 77) (v := 0) (by omega) rfl]; rfl), hb (n := 77) (v := 0) (by omega) rfl, hb (n := 77) (v := 0) (by omega) rfl, fun i hi => by have hi : (i : Int) < (0 : Int32).toInt := hi; omega⟩, ⟨0, by decide, (by rw [hb (n := 87) (v := 0) (by omega) rfl]; rfl), hb (n := 87) (v := 0) (by omega) rfl, hb (n := 87) (v := 0) (by omega) rfl, fun i hi => by have hi : (i : Int) < (0 : Int32).toInt := hi; omega⟩, ⟨fun i hi h9 => by have h9 : (i : Int) < (0 : Int32).toInt := h9; omega, fun i hi _ => hb (n := 85) (by omega) rfl⟩⟩
    · exact ⟨⟨(by rw [hb (n := 93) (v := pr 1 ^^^ 1) (by omega) rfl]; decide), hb (n := 93) (v := w0) (by omega) rfl, hb (n := 93) (v := w1) (by omega) rfl, hb (n := 93) (v := w2) (by omega) rfl, (by rw [hb (n := 101) (v := pr 1 ^^^ 1) (by omega) rfl]; decide), (by rw [hb (n := 94) (v := pr 1) (by omega) rfl]; decide), (by rw [hb (n := 104) (v := pr 1) (by omega) rfl]; decide)⟩, ⟨hb (n := 100) (v := 0) (by omega) rfl, fun h9 => absurd h9 hz, ⟨hb (n := 93) (v := 0) (by omega) rfl, hb (n := 93) (v := 0) (by omega) rfl, hb (n := 93) (v := 0) (by omega) rfl⟩, fun _ => ⟨hb (n := 93) (v := 0) (by omega) rfl, hT hw⟩, ⟨hb (n := 101) (v := 0) (by omega) rfl, hb (n := 101) (v := 0) (by omega) rfl⟩, ⟨by show 0 ≤ (0 : Int32).toInt; decide, by show (0 : Int32).toInt ≤ 63; decide⟩, ⟨by show 0 ≤ (0 : Int32).toInt; decide, by show (0 : Int32).toInt ≤ 2; decide⟩, (Or.inl rfl), (Or.inl rfl), (Or.inl rfl)⟩, ⟨0, by decide, (by rw [hb (n := 94) (v := 0) (by omega) rfl]; rfl), hb (n := 94) (v := 0) (by omega) rfl, hb (n := 94) (v := 0) (by omega) rfl, fun i hi => by have hi : (i : Int) < (0 : Int32).toInt := hi; omega⟩, ⟨0, by decide, (by rw [hb (n := 104) (v := 0) (by omega) rfl]; rfl), hb (n := 104) (v := 0) (by omega) rfl, hb (n := 104) (v := 0) (by omega) rfl, fun i hi => by have hi : (i : Int) < (0 : Int32).toInt := hi; omega⟩, ⟨fun i hi h9 => by have h9 : (i : Int) < (0 : Int32).toInt := h9; omega, fun i hi _ => hb (n := 102) (by omega) rfl⟩⟩
    · exact ⟨⟨(by rw [hb (n := 110) (v := pr 2 ^^^ 1) (by omega) rfl]; decide), hb (n := 110) (v := w0) (by omega) rfl, hb (n := 110) (v := w1) (by omega) rfl, hb (n := 110) (v := w2) (by omega) rfl, (by rw [hb (n := 118) (v := pr 2 ^^^ 1) (by omega) rfl]; decide), (by rw [hb (n := 111) (v := pr 2) (by omega) rfl]; decide), (by rw [hb (n := 121) (v := pr 2) (by omega) rfl]; decide)⟩, ⟨hb (n := 117) (v := 0) (by omega) rfl, fun h9 => absurd h9 hz, ⟨hb (n := 110) (v := 0) (by omega) rfl, hb (n := 110) (v := 0) (by omega) rfl, hb (n := 110) (v := 0) (by omega) rfl⟩, fun _ => ⟨hb (n := 110) (v := 0) (by omega) rfl, hT hw⟩, ⟨hb (n := 118) (v := 0) (by omega) rfl, hb (n := 118) (v := 0) (by omega) rfl⟩, ⟨by show 0 ≤ (0 : Int32).toInt; decide, by show (0 : Int32).toInt ≤ 63; decide⟩, ⟨by show 0 ≤ (0 : Int32).toInt; decide, by show (0 : Int32).toInt ≤ 2; decide⟩, (Or.inl rfl), (Or.inl rfl), (Or.inl rfl)⟩, ⟨0, by decide, (by rw [hb (n := 111) (v := 0) (by omega) rfl]; rfl), hb (n := 111) (v := 0) (by omega) rfl, hb (n := 111) (v := 0) (by omega) rfl, fun i hi => by have hi : (i : Int) < (0 : Int32).toInt := hi; omega⟩, ⟨0, by decide, (by rw [hb (n := 121) (v := 0) (by omega) rfl]; rfl), hb (n := 121) (v := 0) (by omega) rfl, hb (n := 121) (v := 0) (by omega) rfl, fun i hi => by have hi : (i : Int) < (0 : Int32).toInt := hi; omega⟩, ⟨fun i hi h9 => by have h9 : (i : Int) < (0 : Int32).toInt := h9; omega, fun i hi _ => hb (n := 119) (by omega) rfl⟩⟩
    · exact ⟨⟨(by rw [hb (n := 127) (v := pr 3 ^^^ 1) (by omega) rfl]; decide), hb (n := 127) (v := w0) (by omega) rfl, hb (n := 127) (v := w1) (by omega) rfl, hb (n := 127) (v := w2) (by omega) rfl, (by rw [hb (n := 135) (v := pr 3 ^^^ 1) (by omega) rfl]; decide), (by rw [hb (n := 128) (v := pr 3) (by omega) rfl]; decide), (by rw [hb (n := 138) (v := pr 3) (by omega) rfl]; decide)⟩, ⟨hb (n := 134) (v := 0) (by omega) rfl, fun h9 => absurd h9 hz, ⟨hb (n := 127) (v := 0) (by omega) rfl, hb (n := 127) (v := 0) (by omega) rfl, hb (n := 127) (v := 0) (by omega) rfl⟩, fun _ => ⟨hb (n := 127) (v := 0) (by omega) rfl, hT hw⟩, ⟨hb (n := 135) (v := 0) (by omega) rfl, hb (n := 135) (v := 0) (by omega) rfl⟩, ⟨by show 0 ≤ (0 : Int32).toInt; decide, by show (0 : Int32).toInt ≤ 63; decide⟩, ⟨by show 0 ≤ (0 : Int32).toInt; decide, by show (0 : Int32).toInt ≤ 2; decide⟩, (Or.inl rfl), (Or.inl rfl), (Or.inl rfl)⟩, ⟨0, by decide, (by rw [hb (n := 128) (v := 0) (by omega) rfl]; rfl), hb (n := 128) (v := 0) (by omega) rfl, hb (n := 128) (v := 0) (by omega) rfl, fun i hi => by have hi : (i : Int) < (0 : Int32).toInt := hi; omega⟩, ⟨0, by decide, (by rw [hb (n := 138) (v := 0) (by omega) rfl]; rfl), hb (n := 138) (v := 0) (by omega) rfl, hb (n := 138) (v := 0) (by omega) rfl, fun i hi => by have hi : (i : Int) < (0 : Int32).toInt := hi; omega⟩, ⟨fun i hi h9 => by have h9 : (i : Int) < (0 : Int32).toInt := h9; omega, fun i hi _ => hb (n := 136) (by omega) rfl⟩⟩
end ST1
theorem riv_start : RIV (fun _ _ => 0) 0 := by
  have z1 : ¬ (0 : Int32).toInt = 1 := by decide
  exact ⟨⟨fun n _ => by simp [i32_01], fun n _ => by simp [i32_01], fun q _ => ⟨fun h => absurd h z1, Or.inr i32_01⟩, fun n _ => by simp [i32_01], fun n _ => by simp [i32_01], fun n _ => by simp [i32_01], fun n _ => by simp [i32_01]⟩, by decide, by decide⟩
