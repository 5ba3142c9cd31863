theorem upd_u {f : Nat → Int32} {n : Nat} {a b : Int32} : upd (upd f n a) n b = upd f n b := by
  funext k
  by_cases e : k = n
  · subst e; rw [upd_s, upd_s]
  · rw [upd_n e, upd_n e, upd_n e]
/-- what the steps need of the reference's arrays -/
def RW (A : AA) (pk : Int32) : Prop := I3 (A 8) ∧ (∀ q, q < 4 → (0 ≤ (A 20 q).toInt ∧ (A 20 q).toInt ≤ 4) ∧ (0 ≤ (A 30 q).toInt ∧ (A 30 q).toInt ≤ 4)) ∧ 0 ≤ pk.toInt ∧ pk.toInt ≤ 24
theorem RIV.w {A : AA} {pk : Int32} (h : RIV A pk) : RW A pk := ⟨h.1.2.1, fun _ hq => h.c4 hq, h.2⟩
theorem RW.of {A : AA} {pk : Int32} {a b : Nat → Int32} (h3 : I3 (A 8)) (h8 : I8 (A 20) (A 30) a b) (hp : 0 ≤ pk.toInt ∧ pk.toInt ≤ 24) : RW A pk := ⟨h3, fun q hq => by
  have k := h8 q hq
  omega, hp⟩
theorem RW.cg {A A' : AA} {pk : Int32} (h : RW A pk) (h8 : A' 8 = A 8) (h20 : A' 20 = A 20) (h30 : A' 30 = A 30) : RW A' pk := by
  unfold RW
  rw [h8, h20, h30]
  exact h
theorem TKP.cg {x tk : Nat} {B Z A A' : AA} (h : TKP x tk B A) (htk : tk < 26) (hZ : ∀ a, x + 1 ≤ a → a < x + 55 → Z a = B a) (hA : ∀ j, 41 ≤ j → j ≤ 48 → A' j = A j) : TKP x tk Z A' :=
  PKT.cg h (hZ _ (by omega) (by omega)) (hZ _ (by omega) (by omega)) (fun j a b => by rw [hA j a (by omega)]) (fun k _ => by rw [hA 48 (by omega) (by omega)])
/-- a change within a pair and a node's completions -/
theorem SIM.prw {x q n : Nat} {t0 t1 t2 : Int32} {B Z : AA} {R : RR} {A A' : AA} {pk : Int32} (h : SIM x t0 t1 t2 B R A pk) (hV : RW A pk) (hq : q < 4) (hn : n < 2) (hZ : ∀ a, a ≠ x + 56 + 10 * n → a ≠ x + 59 + 10 * n → ¬ (x + 77 + 17 * q ≤ a ∧ a < x + 94 + 17 * q) → Z a = B a) (hN : ∀ m, m < 2 → NS x m Z (A' 8) (A' 9)) (hP : PQ x q t0 t1 t2 Z A') (hA : ∀ q', q' ≠ q → AGR q' A A') (hj : ∀ j, j ≠ 8 → j ≠ 9 → (j < 10 ∨ 39 < j) → A' j = A j) : SIM x t0 t1 t2 Z R A' pk := by
  obtain ⟨h1, ⟨pm, tk, h2, h3⟩, h4, h5, h6, h7⟩ := h
  refine ⟨h1, ⟨pm, tk, h2, h3.cg (fun a k1 k2 => hZ a (by omega) (by omega) (by omega)) (fun j k1 k2 => hj j (by omega) (by omega) (by omega)) hV.2.2.2 (fun i hi => (h2.2.2.2.2.1 i hi).1)⟩, fun m hm c hc => ?_, fun m hm j hj2 => ?_, hN, fun q' hq' => ?_⟩
  · rw [hZ _ (by omega) (by omega) (by omega), hj 4 (by omega) (by omega) (by omega)]
    exact h4 m hm c hc
  · rw [hZ _ (by omega) (by omega) (by omega), hj 5 (by omega) (by omega) (by omega), hj 6 (by omega) (by omega) (by omega), hj 7 (by omega) (by omega) (by omega)]
    exact h5 m hm j hj2
  · by_cases e : q' = q
    · subst e; exact hP
    · exact (h7 q' hq').cg (fun a k1 k2 => hZ a (by omega) (by omega) (by omega)) (hA q' e) (hV.2.1 q' hq').1.2 (hV.2.1 q' hq').2.2
/-- a change of a pair's numbers, clock and marks alone -/
theorem SIM.sc {x q : Nat} {t0 t1 t2 : Int32} {B Z : AA} {R : RR} {A A' : AA} {pk : Int32} (h : SIM x t0 t1 t2 B R A pk) (hV : RW A pk) (hq : q < 4) (hZ : ∀ a, a ≠ x + 77 + 17 * q → a ≠ x + 84 + 17 * q → a ≠ x + 85 + 17 * q → Z a = B a) (hf : ∀ j, j < 7 → Z (x + 77 + 17 * q) j = B (x + 77 + 17 * q) j) (hg : Z (x + 85 + 17 * q) 0 = B (x + 85 + 17 * q) 0) (hA : ∀ j, ¬ (10 ≤ j ∧ j ≤ 19 ∨ j = 36) → A' j = A j) (hk : ∀ j k, k ≠ q → A' j k = A j k) (hP : PS x q t0 Z A') : SIM x t0 t1 t2 Z R A' pk := by
  obtain ⟨h1, ⟨pm, tk, h2, h3⟩, h4, h5, h6, h7⟩ := h
  refine ⟨h1, ⟨pm, tk, h2, h3.cg (fun a k1 k2 => hZ a (by omega) (by omega) (by omega)) (fun j k1 k2 => hA j (by omega)) hV.2.2.2 (fun i hi => (h2.2.2.2.2.1 i hi).1)⟩, ?_, ?_, fun m hm => ?_, fun q' hq' => ?_⟩
  · rw [hA 4 (by omega)]; exact h4.cg (fun n hn => hZ _ (by omega) (by omega) (by omega))
  · rw [hA 5 (by omega), hA 6 (by omega), hA 7 (by omega)]; exact h5.cg (fun n hn j hj => hZ _ (by omega) (by omega) (by omega))
  · exact (h6 m hm).cg (hZ _ (by omega) (by omega) (by omega)) (hZ _ (by omega) (by omega) (by omega)) (by rw [hA 8 (by omega)]) (fun k _ _ => by rw [hA 9 (by omega)]) (hV.1 m hm).2
  · by_cases e : q' = q
    · subst e
      obtain ⟨c1, c2, c3, c4, c5⟩ := h7 q' hq'
      exact ⟨c1.cg (fun j hj => hf j (by omega)) hg (by rw [hZ _ (by omega) (by omega) (by omega)]) (by rw [hZ _ (by omega) (by omega) (by omega)]), hP, c3.cg (hZ _ (by omega) (by omega) (by omega)) (fun i _ => hZ _ (by omega) (by omega) (by omega)) (by rw [hA 20 (by omega)]) (by rw [hA 21 (by omega)]) (fun j k1 k2 i hi => by rw [hA j (by omega)]) (hV.2.1 q' hq').1.2, c4.cg (hZ _ (by omega) (by omega) (by omega)) (fun i _ => hZ _ (by omega) (by omega) (by omega)) (by rw [hA 30 (by omega)]) (by rw [hA 31 (by omega)]) (fun j k1 k2 i hi => by rw [hA j (by omega)]) (hV.2.1 q' hq').2.2, c5.cg (hZ _ (by omega) (by omega) (by omega)) (hZ _ (by omega) (by omega) (by omega)) (by rw [hA 37 (by omega)]) (fun i hi => by rw [hA 38 (by omega)]) (fun i hi => by rw [hA 39 (by omega)])⟩
    · exact (h7 q' hq').cg (fun a k1 k2 => hZ a (by omega) (by omega) (by omega)) ⟨fun j _ _ => Or.inl (hk j q' e), fun j hj i _ => by rw [hA j (by omega)], fun j hj i _ => by rw [hA j (by omega)]⟩ (hV.2.1 q' hq').1.2 (hV.2.1 q' hq').2.2
/-- a pair fails -/
theorem SIM.fail {x q : Nat} {G : Nat → Nat} {B : AA} {R : RR} {A : AA} {t0 t1 t2 pk : Int32} (h : SIM x t0 t1 t2 B R A pk) (hV : RW A pk) (hq : q < 4) {p c1 c2 st rs cd cdz pkz : Int32} {Z A' : AA} (hp : (q : Int) = p.toInt) (e1 : c1 = if 0 < st.toInt then st else 5) (e2 : c2 = if 0 < rs.toInt then rs else 5) (hc : C_X3_fail G B R (x + 84 + 17 * q) c1 c2 Z) (hd : D_X10_failPair A cd pk p st rs A' cdz pkz) : cdz = cd ∧ pkz = pk ∧ SIM x t0 t1 t2 Z R A' pk ∧ (∀ a, x + 1 ≤ a → a < x + 55 → Z a = B a) ∧ (∀ j, 40 ≤ j → A' j = A j) := by
  obtain ⟨a1, a2, a3, a4, a5, a6, a7, a8⟩ := s_fail h.1 hq h.2.2.2.2.1 hV.1 (h.2.2.2.2.2 q hq) (hV.2.1 q hq) hp e1 e2 hc hd
  exact ⟨a1, a2, h.prw hV hq (n := q % 2) (by omega) a6 a3 a5 a7 (fun j k1 k2 k3 => a8 j k1 k2 (by omega) (by omega) (by omega) (by omega) (by omega)), fun a k1 k2 => a6 a (by omega) (by omega) (by omega), fun j k => a8 j (by omega) (by omega) (by omega) (by omega) (by omega) (by omega) (by omega)⟩
theorem e_wait {G : Nat → Nat} {B : AA} {R : RR} {H : Nat} {Z : AA} {r : Int32} (h : C_X7_waitsTooLong G B R H Z r) : ((B H 9).toInt = (B H 8).toInt ∧ (B H 13).toInt = 0 ∧ Z = B ∧ r.toInt = 0) ∨ (¬ ((B H 9).toInt = (B H 8).toInt ∧ (B H 13).toInt = 0) ∧ (((B H 13).toInt = 0 ∧ ¬ (B H 3).toInt ≤ (B H 10 + 1).toInt ∧ Z = uA B H (upd (B H) 10 (B H 10 + 1)) ∧ r.toInt = 0) ∨ ((B H 13).toInt = 0 ∧ (B H 3).toInt ≤ (B H 10 + 1).toInt ∧ (B H 11 + 1).toInt ≤ (B H 4).toInt ∧ Z = uA B H (upd (upd (upd (B H) 10 0) 11 (B H 11 + 1)) 9 (B H 8)) ∧ r.toInt = 0) ∨ ((B H 13).toInt = 0 ∧ (B H 3).toInt ≤ (B H 10 + 1).toInt ∧ ¬ (B H 11 + 1).toInt ≤ (B H 4).toInt ∧ Z = uA B H (upd (upd (B H) 10 0) 11 (B H 11 + 1)) ∧ r.toInt = 1) ∨ (¬ (B H 13).toInt = 0 ∧ ¬ 3 ≤ (B H 10 + 1).toInt ∧ Z = uA B H (upd (B H) 10 (B H 10 + 1)) ∧ r.toInt = 0) ∨ (¬ (B H 13).toInt = 0 ∧ 3 ≤ (B H 10 + 1).toInt ∧ Z = uA B H (upd (upd (B H) 10 0) 13 0) ∧ r.toInt = 0))) := by
  rcases h with ⟨c1, x_3, ex_3, B_4, rfl, c2, c3, B_11, rfl, c4, x_16, ex_16, B_17, rfl, c5, B_23, rfl, rfl, rfl⟩ | ⟨c1, x_3, ex_3, B_4, rfl, c2, c3, B_11, rfl, c4, x_16, ex_16, B_17, rfl, c5, rfl, rfl⟩ | ⟨c1, x_3, ex_3, B_4, rfl, c2, c3, B_11, rfl, c4, B_24, rfl, rfl, rfl⟩ | ⟨c1, x_3, ex_3, B_4, rfl, c2, c3, rfl, rfl⟩ | ⟨c1, x_3, ex_3, B_4, rfl, c2, c3, B_26, rfl, c4, x_31, ex_31, B_32, rfl, c5, B_38, rfl, rfl, rfl⟩ | ⟨c1, x_3, ex_3, B_4, rfl, c2, c3, B_26, rfl, c4, x_31, ex_31, B_32, rfl, c5, rfl, rfl⟩ | ⟨c1, x_3, ex_3, B_4, rfl, c2, c3, B_26, rfl, c4, B_39, rfl, rfl, rfl⟩ | ⟨c1, x_3, ex_3, B_4, rfl, c2, c3, rfl, rfl⟩ | ⟨c1, c2, x_41, ex_41, B_42, rfl, c3, c4, B_49, rfl, c5, x_54, ex_54, B_55, rfl, c6, B_61, rfl, rfl, rfl⟩ | ⟨c1, c2, x_41, ex_41, B_42, rfl, c3, c4, B_49, rfl, c5, x_54, ex_54, B_55, rfl, c6, rfl, rfl⟩ | ⟨c1, c2, x_41, ex_41, B_42, rfl, c3, c4, B_49, rfl, c5, B_62, rfl, rfl, rfl⟩ | ⟨c1, c2, x_41, ex_41, B_42, rfl, c3, c4, rfl, rfl⟩ | ⟨c1, c2, x_41, ex_41, B_42, rfl, c3, c4, B_64, rfl, c5, x_69, ex_69, B_70, rfl, c6, B_76, rfl, rfl, rfl⟩ | ⟨c1, c2, x_41, ex_41, B_42, rfl, c3, c4, B_64, rfl, c5, x_69, ex_69, B_70, rfl, c6, rfl, rfl⟩ | ⟨c1, c2, x_41, ex_41, B_42, rfl, c3, c4, B_64, rfl, c5, B_77, rfl, rfl, rfl⟩ | ⟨c1, c2, x_41, ex_41, B_42, rfl, c3, c4, rfl, rfl⟩ | ⟨c1, c2, rfl, rfl⟩
  all_goals first
    | exact Or.inl ⟨c1, c2, rfl, by decide⟩
    | (exfalso; omega)
    | (refine Or.inr ⟨by omega, ?_⟩
       first | subst ex_3 | subst ex_41
       first | subst ex_16 | subst ex_31 | subst ex_54 | subst ex_69 | skip
       first
         | exact Or.inl ⟨by assumption, by assumption, by first | rfl | simp only [uA_s, uA_u, upd_u], by decide⟩
         | exact Or.inr (Or.inl ⟨by assumption, by assumption, by assumption, by first | rfl | simp only [uA_s, uA_u, upd_u], by decide⟩)
         | exact Or.inr (Or.inr (Or.inl ⟨by assumption, by assumption, by assumption, by first | rfl | simp only [uA_s, uA_u, upd_u], by decide⟩))
         | exact Or.inr (Or.inr (Or.inr (Or.inl ⟨by assumption, by assumption, by first | rfl | simp only [uA_s, uA_u, upd_u], by decide⟩)))
         | exact Or.inr (Or.inr (Or.inr (Or.inr ⟨by assumption, by assumption, by first | rfl | simp only [uA_s, uA_u, upd_u], by decide⟩))))
/-- the numbers, clock and marks of a pair that stays ready -/
theorem PS.mk1 {x q : Nat} {t0 : Int32} {B Z A A' : AA} (h : PS x q t0 B A) (hst : (A 10 q).toInt = 1) {f : Nat → Int32} (e10 : A' 10 q = A 10 q) (z84 : Z (x + 84 + 17 * q) = B (x + 84 + 17 * q)) (z85 : Z (x + 85 + 17 * q) = B (x + 85 + 17 * q)) (z77 : Z (x + 77 + 17 * q) = f) (n7 : f 7 = A' 11 q) (n8 : f 8 = A' 12 q) (n9 : f 9 = A' 13 q) (n10 : f 10 = A' 15 q) (n11 : f 11 = A' 16 q) (n12 : f 12 = A' 17 q) (n13 : f 13 = A' 18 q) (tim : TIM t0 (A' 18 q) (A' 15 q)) (b18 : B01 (A' 18 q)) (e14 : A' 14 q = A 14 q) (e19 : A' 19 q = A 19 q) (e36 : A' 36 q = A 36 q) : PS x q t0 Z A' := by
  obtain ⟨p1, p2, p3, p4, p5, p6, p7, p8, p9, p10⟩ := h
  unfold PS
  rw [z84, z85, z77, e10, e14, e19, e36]
  exact ⟨p1, fun _ => ⟨n7, n8, n9, (p2 hst).2.2.2⟩, ⟨n10, n11, n12⟩, fun _ => ⟨n13, tim⟩, p5, p6, p7, b18, p9, p10⟩
theorem inc_t {a t : Int32} (h : 0 ≤ a.toInt) (h2 : a.toInt < t.toInt) : (a + 1).toInt = a.toInt + 1 := by
  have hb := s_bd t
  rw [add_t (by rw [i_1t]; omega) (by rw [i_1t]; omega), i_1t]
/-- the requester's numbers, clock and marks are changed -/
theorem SIM.rq {x q : Nat} {t0 t1 t2 : Int32} {B : AA} {R : RR} {A A' : AA} {pk : Int32} (h : SIM x t0 t1 t2 B R A pk) (hV : RW A pk) (hq : q < 4) (hst : (A 10 q).toInt = 1) {f : Nat → Int32} (hf : ∀ j, j < 7 → f j = B (x + 77 + 17 * q) j) (hA : ∀ j, ¬ (j = 12 ∨ j = 13 ∨ 15 ≤ j ∧ j ≤ 18) → A' j = A j) (hk : ∀ j k, k ≠ q → A' j k = A j k) (n7 : f 7 = A 11 q) (n8 : f 8 = A' 12 q) (n9 : f 9 = A' 13 q) (n10 : f 10 = A' 15 q) (n11 : f 11 = A' 16 q) (n12 : f 12 = A' 17 q) (n13 : f 13 = A' 18 q) (tim : TIM t0 (A' 18 q) (A' 15 q)) (b18 : B01 (A' 18 q)) : SIM x t0 t1 t2 (uA B (x + 77 + 17 * q) f) R A' pk :=
  h.sc hV hq (fun a k1 k2 k3 => uA_n k1) (fun j hj => by rw [uA_s]; exact hf j hj) (by rw [uA_n (by omega)]) (fun j hj => hA j (by omega)) hk (PS.mk1 (h.2.2.2.2.2 q hq).2.1 hst (by rw [hA 10 (by omega)]) (uA_n (by omega)) (uA_n (by omega)) uA_s (by rw [hA 11 (by omega)]; exact n7) n8 n9 n10 n11 n12 n13 tim b18 (by rw [hA 14 (by omega)]) (by rw [hA 19 (by omega)]) (by rw [hA 36 (by omega)]))
def TPD (t0 t1 : Int32) (A : AA) (n : Nat) (cd pk p : Int32) (A' : AA) (r : Int32) : Prop := ((A 13 n).toInt = (A 12 n).toInt ∧ (A 18 n).toInt = 0 ∧ A' = A ∧ r = 0) ∨ (¬ ((A 13 n).toInt = (A 12 n).toInt ∧ (A 18 n).toInt = 0) ∧ (((A 18 n).toInt = 0 ∧ ¬ (A 15 n + 1).toInt = t0.toInt ∧ A' = uA A 15 (upd (A 15) n (A 15 n + 1)) ∧ r = 0) ∨ ((A 18 n).toInt = 0 ∧ (A 15 n + 1).toInt = t0.toInt ∧ (A 16 n + 1).toInt ≤ t1.toInt ∧ A' = uA (uA (uA A 13 (upd (A 13) n (A 12 n))) 15 (upd (A 15) n 0)) 16 (upd (A 16) n (A 16 n + 1)) ∧ r = 0) ∨ ((A 18 n).toInt = 0 ∧ (A 15 n + 1).toInt = t0.toInt ∧ ¬ (A 16 n + 1).toInt ≤ t1.toInt ∧ (∃ A1, D_X10_failPair (uA (uA A 15 (upd (A 15) n 0)) 16 (upd (A 16) n (A 16 n + 1))) cd pk p 1 0 A1 cd pk ∧ A1 = A') ∧ r = 1) ∨ (¬ (A 18 n).toInt = 0 ∧ ¬ 3 ≤ (A 15 n + 1).toInt ∧ A' = uA A 15 (upd (A 15) n (A 15 n + 1)) ∧ r = 0) ∨ (¬ (A 18 n).toInt = 0 ∧ 3 ≤ (A 15 n + 1).toInt ∧ A' = uA (uA A 15 (upd (A 15) n 0)) 18 (upd (A 18) n 0) ∧ r = 0)))
theorem r_tickPair {t0 t1 t2 : Int32} {A : AA} {cd pk p : Int32} {A' : AA} {cdz pkz r : Int32} {n : Nat} (h : D_X10_tickPair t0 t1 t2 A cd pk p A' cdz pkz r) (hn : (n : Int) = p.toInt) : cdz = cd ∧ pkz = pk ∧ ((¬ (A 10 n).toInt = 1 ∧ A' = A ∧ r = 0) ∨ ((A 10 n).toInt = 1 ∧ TPD t0 t1 A n cd pk p A' r)) := by
  rcases h with ⟨n_1, hn_1, c1, rfl, rfl, rfl, rfl⟩ | ⟨n_1, hn_1, c1, c2, x_9, ex_9, g_10, rfl, c3, fx_9, g_15, rfl, x_17, ex_17, g_18, rfl, c4, g_22, rfl, rfl, rfl, rfl, rfl⟩ | ⟨n_1, hn_1, c1, c2, x_9, ex_9, g_10, rfl, c3, fx_9, g_15, rfl, x_17, ex_17, g_18, rfl, c4, ur_24, hfailPair, c5, c6, c7, rfl, rfl, rfl, rfl⟩ | ⟨n_1, hn_1, c1, c2, x_9, ex_9, g_10, rfl, c3, c4, rfl, rfl, rfl, rfl⟩ | ⟨n_1, hn_1, c1, c2, x_9, ex_9, g_10, rfl, c3, c4, g_27, rfl, g_28, rfl, rfl, rfl, rfl, rfl⟩ | ⟨n_1, hn_1, c1, c2, x_9, ex_9, g_10, rfl, c3, c4, rfl, rfl, rfl, rfl⟩ | ⟨n_1, hn_1, c1, c2, c3, x_32, ex_32, g_33, rfl, c4, fx_32, g_38, rfl, x_40, ex_40, g_41, rfl, c5, g_45, rfl, rfl, rfl, rfl, rfl⟩ | ⟨n_1, hn_1, c1, c2, c3, x_32, ex_32, g_33, rfl, c4, fx_32, g_38, rfl, x_40, ex_40, g_41, rfl, c5, ur_47, hfailPair, c6, c7, c8, rfl, rfl, rfl, rfl⟩ | ⟨n_1, hn_1, c1, c2, c3, x_32, ex_32, g_33, rfl, c4, c5, rfl, rfl, rfl, rfl⟩ | ⟨n_1, hn_1, c1, c2, c3, x_32, ex_32, g_33, rfl, c4, c5, g_50, rfl, g_51, rfl, rfl, rfl, rfl, rfl⟩ | ⟨n_1, hn_1, c1, c2, c3, x_32, ex_32, g_33, rfl, c4, c5, rfl, rfl, rfl, rfl⟩ | ⟨n_1, hn_1, c1, c2, c3, rfl, rfl, rfl, rfl⟩
  all_goals
    obtain rfl : n_1 = n := by omega
    refine ⟨rfl, rfl, ?_⟩
  · exact Or.inl ⟨c1, by simp only [uA_ii], rfl⟩
  · subst ex_9 ex_17
    refine Or.inr ⟨c1, Or.inr ⟨fun k => c2 k.1, Or.inr (Or.inl ⟨c3, fx_9, c4, ?_, rfl⟩)⟩⟩
    rw [upd_u]
    funext j
    by_cases a0 : j = 36
    · subst a0; rfl
    by_cases a1 : j = 30
    · subst a1; rfl
    by_cases a2 : j = 20
    · subst a2; rfl
    by_cases a3 : j = 18
    · subst a3; rfl
    by_cases a4 : j = 16
    · subst a4; rfl
    by_cases a5 : j = 15
    · subst a5; rfl
    by_cases a6 : j = 13
    · subst a6; rfl
    by_cases a7 : j = 10
    · subst a7; rfl
    by_cases a8 : j = 9
    · subst a8; rfl
    by_cases a9 : j = 8
    · subst a9; rfl
    simp only [uA_n a0, uA_n a1, uA_n a2, uA_n a3, uA_n a4, uA_n a5, uA_n a6, uA_n a7, uA_n a8, uA_n a9]
  · subst ex_9 ex_17
    rw [upd_u] at hfailPair
    simp only [uA_u] at hfailPair
    refine Or.inr ⟨c1, Or.inr ⟨fun k => c2 k.1, Or.inr (Or.inr (Or.inl ⟨c3, fx_9, c4, ⟨_, hfailPair, ?_⟩, rfl⟩))⟩⟩
    rw [upd_u]
    funext j
    by_cases a0 : j = 36
    · subst a0; rfl
    by_cases a1 : j = 30
    · subst a1; rfl
    by_cases a2 : j = 20
    · subst a2; rfl
    by_cases a3 : j = 18
    · subst a3; rfl
    by_cases a4 : j = 16
    · subst a4; rfl
    by_cases a5 : j = 15
    · subst a5; rfl
    by_cases a6 : j = 13
    · subst a6; rfl
    by_cases a7 : j = 10
    · subst a7; rfl
    by_cases a8 : j = 9
    · subst a8; rfl
    by_cases a9 : j = 8
    · subst a9; rfl
    simp only [uA_n a0, uA_n a1, uA_n a2, uA_n a3, uA_n a4, uA_n a5, uA_n a6, uA_n a7, uA_n a8, uA_n a9]
  · subst ex_9
    refine Or.inr ⟨c1, Or.inr ⟨fun k => c2 k.1, Or.inl ⟨c3, c4, ?_, rfl⟩⟩⟩
    funext j
    by_cases a0 : j = 36
    · subst a0; rfl
    by_cases a1 : j = 30
    · subst a1; rfl
    by_cases a2 : j = 20
    · subst a2; rfl
    by_cases a3 : j = 18
    · subst a3; rfl
    by_cases a4 : j = 16
    · subst a4; rfl
    by_cases a5 : j = 15
    · subst a5; rfl
    by_cases a6 : j = 13
    · subst a6; rfl
    by_cases a7 : j = 10
    · subst a7; rfl
    by_cases a8 : j = 9
    · subst a8; rfl
    by_cases a9 : j = 8
    · subst a9; rfl
    simp only [uA_n a0, uA_n a1, uA_n a2, uA_n a3, uA_n a4, uA_n a5, uA_n a6, uA_n a7, uA_n a8, uA_n a9]
  · subst ex_9
    refine Or.inr ⟨c1, Or.inr ⟨fun k => c2 k.1, Or.inr (Or.inr (Or.inr (Or.inr ⟨c3, c4, ?_, rfl⟩)))⟩⟩
    rw [upd_u]
    funext j
    by_cases a0 : j = 36
    · subst a0; rfl
    by_cases a1 : j = 30
    · subst a1; rfl
    by_cases a2 : j = 20
    · subst a2; rfl
    by_cases a3 : j = 18
    · subst a3; rfl
    by_cases a4 : j = 16
    · subst a4; rfl
    by_cases a5 : j = 15
    · subst a5; rfl
    by_cases a6 : j = 13
    · subst a6; rfl
    by_cases a7 : j = 10
    · subst a7; rfl
    by_cases a8 : j = 9
    · subst a8; rfl
    by_cases a9 : j = 8
    · subst a9; rfl
    simp only [uA_n a0, uA_n a1, uA_n a2, uA_n a3, uA_n a4, uA_n a5, uA_n a6, uA_n a7, uA_n a8, uA_n a9]
  · subst ex_9
    refine Or.inr ⟨c1, Or.inr ⟨fun k => c2 k.1, Or.inr (Or.inr (Or.inr (Or.inl ⟨c3, c4, ?_, rfl⟩)))⟩⟩
    funext j
    by_cases a0 : j = 36
    · subst a0; rfl
    by_cases a1 : j = 30
    · subst a1; rfl
    by_cases a2 : j = 20
    · subst a2; rfl
    by_cases a3 : j = 18
    · subst a3; rfl
    by_cases a4 : j = 16
    · subst a4; rfl
    by_cases a5 : j = 15
    · subst a5; rfl
    by_cases a6 : j = 13
    · subst a6; rfl
    by_cases a7 : j = 10
    · subst a7; rfl
    by_cases a8 : j = 9
    · subst a8; rfl
    by_cases a9 : j = 8
    · subst a9; rfl
    simp only [uA_n a0, uA_n a1, uA_n a2, uA_n a3, uA_n a4, uA_n a5, uA_n a6, uA_n a7, uA_n a8, uA_n a9]
  · exact absurd c4 c3
  · exact absurd c4 c3
  · exact absurd c4 c3
  · subst ex_32
    refine Or.inr ⟨c1, Or.inr ⟨fun k => c3 k.2, Or.inr (Or.inr (Or.inr (Or.inr ⟨c4, c5, ?_, rfl⟩)))⟩⟩
    rw [upd_u]
    funext j
    by_cases a0 : j = 36
    · subst a0; rfl
    by_cases a1 : j = 30
    · subst a1; rfl
    by_cases a2 : j = 20
    · subst a2; rfl
    by_cases a3 : j = 18
    · subst a3; rfl
    by_cases a4 : j = 16
    · subst a4; rfl
    by_cases a5 : j = 15
    · subst a5; rfl
    by_cases a6 : j = 13
    · subst a6; rfl
    by_cases a7 : j = 10
    · subst a7; rfl
    by_cases a8 : j = 9
    · subst a8; rfl
    by_cases a9 : j = 8
    · subst a9; rfl
    simp only [uA_n a0, uA_n a1, uA_n a2, uA_n a3, uA_n a4, uA_n a5, uA_n a6, uA_n a7, uA_n a8, uA_n a9]
  · subst ex_32
    refine Or.inr ⟨c1, Or.inr ⟨fun k => c3 k.2, Or.inr (Or.inr (Or.inr (Or.inl ⟨c4, c5, ?_, rfl⟩)))⟩⟩
    funext j
    by_cases a0 : j = 36
    · subst a0; rfl
    by_cases a1 : j = 30
    · subst a1; rfl
    by_cases a2 : j = 20
    · subst a2; rfl
    by_cases a3 : j = 18
    · subst a3; rfl
    by_cases a4 : j = 16
    · subst a4; rfl
    by_cases a5 : j = 15
    · subst a5; rfl
    by_cases a6 : j = 13
    · subst a6; rfl
    by_cases a7 : j = 10
    · subst a7; rfl
    by_cases a8 : j = 9
    · subst a8; rfl
    by_cases a9 : j = 8
    · subst a9; rfl
    simp only [uA_n a0, uA_n a1, uA_n a2, uA_n a3, uA_n a4, uA_n a5, uA_n a6, uA_n a7, uA_n a8, uA_n a9]
  · exact Or.inr ⟨c1, Or.inl ⟨c2, c3, by simp only [uA_ii], rfl⟩⟩
