theorem EMC.cgc {x : Nat} {pm : Nat → Nat} {B Z : AA} {to kd nm sz mk pl va : Int32} {c c' : Nat → Int32} (h : EMC x pm B Z to kd nm sz mk pl va c) (hc : (kd.toInt = 0 ∨ kd.toInt = 1 ∨ kd.toInt = 4) → ∀ k : Nat, k < 4 → (k : Int) < sz.toInt → c k = c' k) : EMC x pm B Z to kd nm sz mk pl va c' := by
  rcases h with h | ⟨n, h1, h2, d, h3, h4, h5, h6, h7, h8⟩
  · exact Or.inl h
  · exact Or.inr ⟨n, h1, h2, d, h3, h4, h5, h6, fun e k k1 k2 => (h7 e k k1 k2).trans (hc e k k1 k2), h8⟩
theorem EMR.pk {A A' : AA} {pk pk' to kd nm sz mk pl va : Int32} {c : Nat → Int32} (h : EMR A A' pk pk' to kd nm sz mk pl va c) (hp : 0 ≤ pk.toInt ∧ pk.toInt ≤ 24) : 0 ≤ pk'.toInt ∧ pk'.toInt ≤ 24 := by
  rcases h with ⟨-, -, rfl⟩ | ⟨n, h1, h2, -, h4, -⟩
  · exact hp
  · omega
/-- the fabric's arrays of one state, all else of another -/
def mixF (A A2 : AA) : AA := fun j => if 41 ≤ j ∧ j ≤ 48 then A2 j else A j
theorem mixF_o {A A2 : AA} {j : Nat} (h : ¬ (41 ≤ j ∧ j ≤ 48)) : mixF A A2 j = A j := if_neg h
theorem mixF_i {A A2 : AA} {j : Nat} (h : 41 ≤ j ∧ j ≤ 48) : mixF A A2 j = A2 j := if_pos h
/-- a packet is sent on both sides -/
theorem SIM.emit {x : Nat} {t0 t1 t2 : Int32} {B U : AA} {R : RR} {A A0 A2 : AA} {pk pk' : Int32} (h : SIM x t0 t1 t2 B R A pk) (hV : RW A pk) {to kd nm sz mk pl va : Int32} {c : Nat → Int32} (h0 : ∀ j, 41 ≤ j → j ≤ 48 → A0 j = A j) (hE : ∀ (pm : Nat → Nat) (tk : Nat), DYN x R pm tk → EMC x pm B U to kd nm sz mk pl va c) (hR : EMR A0 A2 pk pk' to kd nm sz mk pl va c) (hv : PKV kd nm sz mk) : SIM x t0 t1 t2 U R (mixF A A2) pk' ∧ RW (mixF A A2) pk' ∧ (∀ tk, R (x + 1) 2 = x + 3 + 2 * tk → TKP x tk B A → TKP x tk U (mixF A A2)) ∧ ∀ a, ¬ (x + 1 ≤ a ∧ a < x + 55) → U a = B a := by
  have hh := h
  obtain ⟨hS, ⟨pm, tk, hD, hF⟩, -⟩ := hh
  have hpm := hD.2.2.2.2.1
  have hF0 : FB x pm B A0 pk := hF.cg (fun _ _ _ => rfl) h0 hV.2.2.2 (fun i hi => (hpm i hi).1)
  obtain ⟨f1, f2, f3, f4⟩ := hF0.emit hD (hE pm tk hD) hR hv
  have hp := EMR.pk hR hV.2.2
  have hF1 : FB x pm U (mixF A A2) pk' := f1.cg (fun _ _ _ => rfl) (fun j a b => mixF_i ⟨a, b⟩) hp.2 (fun i hi => (hpm i hi).1)
  refine ⟨h.fbw hV hS ⟨pm, tk, hD, hF1⟩ f3 (fun j hj => mixF_o (by omega)), ⟨?_, ?_, hp⟩, fun tk2 e ht => ?_, f3⟩
  · rw [mixF_o (by omega)]; exact hV.1
  · rw [mixF_o (by omega), mixF_o (by omega)]; exact hV.2.1
  · obtain rfl : tk2 = tk := by have := hD.1; omega
    have ht0 : TKP x tk2 B A0 := ht.cg hD.2.2.1 (fun _ _ _ => rfl) h0
    exact (f2 ht0).cg hD.2.2.1 (fun _ _ _ => rfl) (fun j a b => mixF_i ⟨a, b⟩)
