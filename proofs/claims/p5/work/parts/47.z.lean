def PB (G : Nat → Nat) (pb : Nat → Nat) : Prop := (∀ q, q < 4 → G (pb q) = 8) ∧ ∀ q r, q < 4 → r < 4 → pb q = pb r → q = r
/-- the pairs' states: zero or not -/
def ZS (E : EE) (G : Nat → Nat) (pb : Nat → Nat) (z : Nat → Prop) (H : Heap) : Prop := ∀ q, q < 4 → ∃ (a b : Nat) (s : Int32), va_at (DG E) vwCl (pb q, .inr (3, [.ref a, .ref b, .int s])) H ∧ G a = 9 ∧ G b = 10 ∧ (s.toInt = 0 ↔ z q)
def PA (E : EE) (G : Nat → Nat) (x0 : Nat) (pb : Nat → Nat) (H : Heap) : Prop := ∃ (n p f : Nat) (g : Nat → Option Nat), va_at (DG E) vwCl (x0, .inr (9, [.ref n, .ref p, .ref f])) H ∧ G n = 2 ∧ G p = 3 ∧ G f = 4 ∧ va_at (DG E) vwCl (p, .inl (E.2.2 5, 4, .inr (.inr (.inr (.inr g))))) H ∧ ∀ i, i < 4 → g i = some (pb i)
section ZSS
variable {E : EE} {G pb : Nat → Nat} {z z' : Nat → Prop} {H H1 : Heap} {L : List Nat} {x0 : Nat}
theorem ZS.kept (hB : PB G pb) (h : ZS E G pb z H) (h8 : 8 ∉ L) (hk : ∀ q : Nat, q < H.size → ¬ G q ∈ L → H1[q]? = H[q]?) : ZS E G pb z H1 := fun q hq => by
  obtain ⟨a, b, s, h1, h2⟩ := h q hq
  exact ⟨a, b, s, h1.kept (hk _ h1.lt (nL (hB.1 q hq) h8)), h2⟩
theorem ZS.kept0 (h : ZS E G pb z H) (hk : ∀ q : Nat, q < H.size → H1[q]? = H[q]?) : ZS E G pb z H1 := fun q hq => by
  obtain ⟨a, b, s, h1, h2⟩ := h q hq
  exact ⟨a, b, s, h1.kept (hk _ h1.lt), h2⟩
theorem ZS.cg (h : ZS E G pb z H) (hz : ∀ q, q < 4 → (z' q ↔ z q)) : ZS E G pb z' H := fun q hq => by
  obtain ⟨a, b, s, h1, h2, h3, h4⟩ := h q hq
  exact ⟨a, b, s, h1, h2, h3, h4.trans (hz q hq).symm⟩
theorem ZS.upd (hB : PB G pb) (h : ZS E G pb z H) {j : Nat} (hj : j < 4) (h8 : 8 ∉ L) (hk : ∀ q : Nat, q < H.size → ¬ (q = pb j ∨ G q ∈ L) → H1[q]? = H[q]?) (hn : ∃ (a b : Nat) (s : Int32), va_at (DG E) vwCl (pb j, .inr (3, [.ref a, .ref b, .int s])) H1 ∧ G a = 9 ∧ G b = 10 ∧ (s.toInt = 0 ↔ z' j)) (hz : ∀ q, q < 4 → q ≠ j → (z' q ↔ z q)) : ZS E G pb z' H1 := fun q hq => by
  by_cases e : q = j
  · subst e
    exact hn
  · obtain ⟨a, b, s, h1, h2, h3, h4⟩ := h q hq
    exact ⟨a, b, s, h1.kept (hk _ h1.lt (fun r => r.elim (fun r => e (hB.2 q j hq hj r)) (nL (hB.1 q hq) h8))), h2, h3, h4.trans (hz q hq e).symm⟩
theorem PA.kept (h : PA E G x0 pb H) (hx : G x0 = 1) (h1 : 1 ∉ L) (h3 : 3 ∉ L) (hk : ∀ q : Nat, q < H.size → ¬ G q ∈ L → H1[q]? = H[q]?) : PA E G x0 pb H1 := by
  obtain ⟨n, p, f, g, a1, a2, a3, a4, a5, a6⟩ := h
  exact ⟨n, p, f, g, a1.kept (hk _ a1.lt (nL hx h1)), a2, a3, a4, a5.kept (hk _ a5.lt (nL a3 h3)), a6⟩
end ZSS
section ZSK
variable {E : EE} {G pb : Nat → Nat} {z : Nat → Prop} {H H1 : Heap} {x0 : Nat}
theorem PA.kP (h : PA E G x0 pb H) (hx : G x0 = 1) (hk : ∀ q : Nat, q < H.size → (G q = 1 ∨ G q = 3 ∨ G q = 8) → H1[q]? = H[q]?) : PA E G x0 pb H1 := by
  obtain ⟨n, p, f, g, a1, a2, a3, a4, a5, a6⟩ := h
  exact ⟨n, p, f, g, a1.kept (hk _ a1.lt (Or.inl hx)), a2, a3, a4, a5.kept (hk _ a5.lt (Or.inr (Or.inl a3))), a6⟩
theorem ZS.kP (hB : PB G pb) (h : ZS E G pb z H) (hk : ∀ q : Nat, q < H.size → (G q = 1 ∨ G q = 3 ∨ G q = 8) → H1[q]? = H[q]?) : ZS E G pb z H1 := fun q hq => by
  obtain ⟨a, b, s, h1, h2⟩ := h q hq
  exact ⟨a, b, s, h1.kept (hk _ h1.lt (Or.inr (Or.inr (hB.1 q hq)))), h2⟩
theorem g138 {q : Nat} {L : List Nat} (h : G q = 1 ∨ G q = 3 ∨ G q = 8) (h1 : 1 ∉ L) (h3 : 3 ∉ L) (h8 : 8 ∉ L) : ¬ G q ∈ L := fun c => by
  rcases h with e | e | e
  · rw [e] at c; exact h1 c
  · rw [e] at c; exact h3 c
  · rw [e] at c; exact h8 c
theorem g138n {q : Nat} (h : G q = 1 ∨ G q = 3 ∨ G q = 8) : G q ≠ 0 := by omega
end ZSK

set_option maxHeartbeats 8000000 in
set_option maxRecDepth 100000 in
theorem s_X3_fail (l : Launch) (E : EE) (z0 : Nat) (G : Nat → Nat) (hGz : ∀ q, G q ≠ 0 → z0 ≤ q) (h0 : Nat) (p0 : Int32) (p1 : Int32) (hG : G h0 = 8) (e0 e1 : Nat) (e2 : Int32) (ge0 : G e0 = 9) (ge1 : G e1 = 10) (hy0 : ¬ e2.toInt = 0) : Met l yX3_fail [Cond.code yX3_fail cX3_fail 3 none] ({ frames := 4, cells := 0, slots := 0, locals := 89 } : Room) (va_Pc [.ref h0, .int p0, .int p1] (fun U => (TH E (T1 E) G [] U.heap ∧ va_at (DG E) vwCl (h0, .inr (3, [.ref e0, .ref e1, .int e2])) U.heap) ∧ KS E z0 U)) (va_Qv (fun (_ : Unit) => True) (fun _ t => TH E (T1 E) G [] t.heap ∧ ∃ s9 : Int32, va_at (DG E) vwCl (h0, .inr (3, [.ref e0, .ref e1, .int s9])) t.heap ∧ (s9.toInt = 0 ↔ e2.toInt = 0)) (fun q : Nat => q = h0 ∨ G q ∈ ([5, 15, 11, 10] : List Nat))) 0 0 (fun q : Nat => q = h0 ∨ G q ∈ ([5, 15, 11, 10] : List Nat)) := by
  refine Met.ofW (cc := cX3_fail) (maxL := 3) (ret := none) (by decide) rfl ?_
  intro p e s m args below meth c s₁ B hml hv
  obtain ⟨rfl, ⟨hT, hr0⟩, hK⟩ := hv
  have hx := B.exec
  have hb := B.bytes
  have hr := B.returns
  have hts : ∀ w ∈ TS, w.before ([.ref h0, .int p0, .int p1] : List Value).toArray s = true := fun w hw => hK.2.1 w hw _
  have hown : s.vm.findClass RX3 = some m.cls := findClass_of_methodNamed B.named
  have hlocks := B.notSynchronized
  have hS : va_S (fun q : Nat => q = h0 ∨ G q ∈ ([5, 15, 11, 10] : List Nat)) s.heap s.heap [] := va_S.rf
  have hAz : ∀ q, (fun q : Nat => q = h0 ∨ G q ∈ ([5, 15, 11, 10] : List Nat)) q → z0 ≤ q := fun q h => h.elim (fun e => by rw [e]; exact hGz _ (by rw [hG]; decide)) (zL hGz (by decide) q)
  have hl := lv_entry ([.ref h0, .int p0, .int p1]) (n := 3) (Nat.le_of_ble_eq_true rfl)
  rw [lg_entry_eq]
  generalize (lg_sl ([.ref h0, .int p0, .int p1]) ++ List.replicate (3 - (lg_sl ([.ref h0, .int p0, .int p1])).length) Slot.unset).toArray = ls at hl ⊢
  have hl : lv_has ls 3 [(0, .ref h0), (1, .int p0), (2, .int p1)] := hl
  refine lv_aload_n hx hb dX3_fail_0 rfl (lv_at hl 0 rfl) ?_
  refine lv_iconst (v := 2) hx hb dX3_fail_1 (by decide) ?_
  refine rr_put (D := DG E) (ci := 3) (v := .int 2) (ty := .int) (C := RX3) (T := TX3) (N := 3) hx hb hts iw_X3 tyX3 tyX3_ok nmX3 hown hK.1 hr0 hS (Or.inl rfl) rfl 2 (by decide) (hts _ fl_X3_19) (fun _ h9 => h9) rfl (by decide +kernel) rfl rfl (Nat.le_of_ble_eq_true rfl) dX3_fail_2 (fun H locs hn ho hz hS => ?_)
  have hr_1 : va_at (DG E) vwCl (h0, .inr (3, [.ref e0, .ref e1, .int 2])) H := hn
  have hT : TH E (T1 E) G [] H := hT.set hG (show T1 E G 8 _ from ⟨e0, e1, 2, rfl, ge0, ge1⟩) hr_1 ho
  refine lv_aload_n hx hb dX3_fail_5 rfl (lv_at hl 0 rfl) ?_
  refine va_get (D := DG E) (ci := 3) (v := .ref e0) (C := RX3) (T := TX3) (N := 3) hx hb hts iw_X3 hown hK.1 (va_one hr_1) 0 rfl rfl 0 (by decide) (hts _ fl_X3_9) (fun _ h9 => h9) rfl dX3_fail_6 ?_
  obtain ⟨v0_2, v1_2, v2_2, v3_2, v4_2, v5_2, v6_2, v7_2, v8_2, v9_2, v10_2, v11_2, v12_2, v13_2, ha_2, hb0_2, hg1_2, hg2_2, hg6_2⟩ := tr_9 hT ge0
  refine va_get (D := DG E) (ci := 7) (v := .ref v6_2) (C := RX7) (T := TX7) (N := 14) hx hb hts iw_X7 hown hK.1 (va_one ha_2) 0 rfl rfl 6 (by decide) (hts _ fl_X3_38) (fun _ h9 => h9) rfl dX3_fail_9 ?_
  refine lv_iload_n hx hb dX3_fail_12 rfl (lv_at hl 1 rfl) ?_
  obtain ⟨v0_3, v1_3, v2_3, v3_3, v4_3, v5_3, ha_3, hg1_3, hg2_3, hb3_3, hb4_3⟩ := tr_11 hT hg6_2
  refine va_callv (rnV (fun H => TH E (T1 E) G [] H) (As := [.int p0]) (rest := []) ⟨hx, hb, hml, hown, hts⟩ (t_X5_completeAll l E z0 G hGz v6_2 p0 hg6_2) (cwV 1 hts (gdV ml_X3_84 im_X5_completeAll se_X5_X5_completeAll in_X5 co_X5_completeAll rfl) rfl rfl rfl (by decide +kernel) ⟨Nat.le_of_ble_eq_true rfl, Nat.le_of_ble_eq_true rfl⟩) hT (fun U hU hW => hK.go hW hS hAz hU) (va_recv hK.1 (va_one ha_3) (ci := 5) (q0 := 0) rfl rfl) rfl rfl hl.1 rfl (lv_room (Nat.le_of_ble_eq_true rfl)) dX3_fail_13 ⟨Nat.le_of_ble_eq_true rfl, Nat.le_of_ble_eq_true rfl⟩) hS (fun q _ h => Or.inr (mL (L' := [5, 15, 11]) (L := [5, 15, 11, 10]) (by decide) h)) (fun q h => Or.inr (mL (L' := [5, 15, 11]) (L := [5, 15, 11, 10]) (by decide) h)) (fun _ t H locs ht hvm hwr_4 hB hz hk hS => ?_)
  have hT : TH E (T1 E) G [] H := by rw [ht] at hB; exact hB
  have hr_1 := hr_1.kept (hk _ hr_1.lt (nL hG (by decide)))
  have ha_2 := ha_2.kept (hk _ ha_2.lt (nL ge0 (by decide)))
  refine lv_aload_n hx hb dX3_fail_16 rfl (lv_at hl 0 rfl) ?_
  refine va_get (D := DG E) (ci := 3) (v := .ref e1) (C := RX3) (T := TX3) (N := 3) hx hb hts iw_X3 hown hK.1 (va_one hr_1) 0 rfl rfl 1 (by decide) (hts _ fl_X3_15) (fun _ h9 => h9) rfl dX3_fail_17 ?_
  refine lv_iload_n hx hb dX3_fail_20 rfl (lv_at hl 2 rfl) ?_
  obtain ⟨v0_5, v1_5, v2_5, v3_5, v4_5, v5_5, v6_5, v7_5, v8_5, ha_5, hb0_5, hg1_5, hg2_5, hg3_5, hg7_5, hg8_5⟩ := tr_10 hT ge1
  refine va_callv (rnV (fun H => TH E (T1 E) G [] H) (As := [.int p1]) (rest := []) ⟨hx, hb, hml, hown, hts⟩ (t_X8_completeAll l E z0 G hGz e1 p1 ge1) (cwV 1 hts (gdV ml_X3_87 im_X8_completeAll se_X8_X8_completeAll in_X8 co_X8_completeAll rfl) rfl rfl rfl (by decide +kernel) ⟨Nat.le_of_ble_eq_true rfl, Nat.le_of_ble_eq_true rfl⟩) hT (fun U hU hW => hK.go hW hS hAz hU) (va_recv hK.1 (va_one ha_5) (ci := 8) (q0 := 0) rfl rfl) rfl rfl hl.1 rfl (lv_room (Nat.le_of_ble_eq_true rfl)) dX3_fail_21 ⟨Nat.le_of_ble_eq_true rfl, Nat.le_of_ble_eq_true rfl⟩) hS (fun q _ h => Or.inr (mL (L' := [5, 15, 11, 10]) (L := [5, 15, 11, 10]) (by decide) h)) (fun q h => Or.inr (mL (L' := [5, 15, 11, 10]) (L := [5, 15, 11, 10]) (by decide) h)) (fun _ t H locs ht hvm hwr_6 hB hz hk hS => ?_)
  have hT : TH E (T1 E) G [] H := by rw [ht] at hB; exact hB
  have hr_1 := hr_1.kept (hk _ hr_1.lt (nL hG (by decide)))
  have ha_2 := ha_2.kept (hk _ ha_2.lt (nL ge0 (by decide)))
  exact W.vret hx hb hr (fun t ht hW => ⟨⟨(), rfl, trivial, ⟨(by show TH E (T1 E) G [] t.heap; rw [ht]; exact hT), 2, (by rw [ht]; exact hr_1), ⟨fun h => absurd h (by decide), fun h => absurd h (by omega)⟩⟩⟩, hS.F ht⟩) hS.2.2 dX3_fail_24
set_option maxHeartbeats 8000000 in
set_option maxRecDepth 100000 in
theorem s_X3_failsByTime (l : Launch) (E : EE) (z0 : Nat) (G : Nat → Nat) (hGz : ∀ q, G q ≠ 0 → z0 ≤ q) (h0 : Nat) (hG : G h0 = 8) (e0 e1 : Nat) (e2 : Int32) (ge0 : G e0 = 9) (ge1 : G e1 = 10) : Met l yX3_failsByTime [Cond.code yX3_failsByTime cX3_failsByTime 1 (some .boolean)] ({ frames := 5, cells := 0, slots := 0, locals := 111 } : Room) (va_Pc [.ref h0] (fun U => (TH E (T1 E) G [] U.heap ∧ va_at (DG E) vwCl (h0, .inr (3, [.ref e0, .ref e1, .int e2])) U.heap) ∧ KS E z0 U)) (va_Qi (fun (r : Int32) (_ : Unit) => r = 0 ∨ r = 1) (fun _ t => TH E (T1 E) G [] t.heap ∧ ∃ s9 : Int32, va_at (DG E) vwCl (h0, .inr (3, [.ref e0, .ref e1, .int s9])) t.heap ∧ (s9.toInt = 0 ↔ e2.toInt = 0)) (fun q : Nat => q = h0 ∨ G q ∈ ([5, 15, 11, 10, 9] : List Nat))) 0 0 (fun q : Nat => q = h0 ∨ G q ∈ ([5, 15, 11, 10, 9] : List Nat)) := by
  refine Met.ofW (cc := cX3_failsByTime) (maxL := 1) (ret := (some .boolean)) (by decide) rfl ?_
  intro p e s m args below meth c s₁ B hml hv
  obtain ⟨rfl, ⟨hT, hr0⟩, hK⟩ := hv
  have hx := B.exec
  have hb := B.bytes
  have hr := B.returns
  have hts : ∀ w ∈ TS, w.before ([.ref h0] : List Value).toArray s = true := fun w hw => hK.2.1 w hw _
  have hown : s.vm.findClass RX3 = some m.cls := findClass_of_methodNamed B.named
  have hlocks := B.notSynchronized
  have hS : va_S (fun q : Nat => q = h0 ∨ G q ∈ ([5, 15, 11, 10, 9] : List Nat)) s.heap s.heap [] := va_S.rf
  have hAz : ∀ q, (fun q : Nat => q = h0 ∨ G q ∈ ([5, 15, 11, 10, 9] : List Nat)) q → z0 ≤ q := fun q h => h.elim (fun e => by rw [e]; exact hGz _ (by rw [hG]; decide)) (zL hGz (by decide) q)
  have hl := lv_entry ([.ref h0]) (n := 1) (Nat.le_of_ble_eq_true rfl)
  rw [lg_entry_eq]
  generalize (lg_sl ([.ref h0]) ++ List.replicate (1 - (lg_sl ([.ref h0])).length) Slot.unset).toArray = ls at hl ⊢
  have hl : lv_has ls 1 [(0, .ref h0)] := hl
  refine lv_aload_n hx hb dX3_failsByTime_0 rfl (lv_at hl 0 rfl) ?_
  refine va_get (D := DG E) (ci := 3) (v := .int e2) (C := RX3) (T := TX3) (N := 3) hx hb hts iw_X3 hown hK.1 (va_one hr0) 0 rfl rfl 2 (by decide) (hts _ fl_X3_19) (fun _ h9 => h9) rfl dX3_failsByTime_1 ?_
  refine lv_iconst (v := 1) hx hb dX3_failsByTime_4 (by decide) ?_
  refine lv_icmp_ne (tgt := 18) hx hb dX3_failsByTime_5 (by decide) (fun c_1 => ?_) (fun c_1 => ?_)
  · simp only [lt_I, le_I, eq_I, i_0, i_1, i_2, i_3, i_4, i_5, i_6, i_7, i_8, i_10, i_12, i_16, i_20, i_23, i_24, i_31, i_32, i_63, i_64, i_m1] at c_1
    refine lv_iconst (v := 0) hx hb dX3_failsByTime_18 (by decide) ?_
    exact W.zret (v := 0) (ty := .boolean) hx hb hr rfl (fun t ht hW => ⟨⟨0, (), rfl, (by decide), ⟨(by show TH E (T1 E) G [] t.heap; rw [ht]; exact hT), e2, (by rw [ht]; exact hr0), Iff.rfl⟩⟩, hS.F ht⟩) hS.2.2 dX3_failsByTime_19
  · simp only [lt_I, le_I, eq_I, i_0, i_1, i_2, i_3, i_4, i_5, i_6, i_7, i_8, i_10, i_12, i_16, i_20, i_23, i_24, i_31, i_32, i_63, i_64, i_m1] at c_1
    refine lv_aload_n hx hb dX3_failsByTime_8 rfl (lv_at hl 0 rfl) ?_
    refine va_get (D := DG E) (ci := 3) (v := .ref e0) (C := RX3) (T := TX3) (N := 3) hx hb hts iw_X3 hown hK.1 (va_one hr0) 0 rfl rfl 0 (by decide) (hts _ fl_X3_9) (fun _ h9 => h9) rfl dX3_failsByTime_9 ?_
    obtain ⟨v0_2, v1_2, v2_2, v3_2, v4_2, v5_2, v6_2, v7_2, v8_2, v9_2, v10_2, v11_2, v12_2, v13_2, ha_2, hb0_2, hg1_2, hg2_2, hg6_2⟩ := tr_9 hT ge0
    refine va_calli (rnV (fun H => TH E (T1 E) G [] H) (As := []) (rest := []) ⟨hx, hb, hml, hown, hts⟩ (t_X7_waitsTooLong l E z0 G hGz e0 ge0) (cwV 0 hts (gdV ml_X3_81 im_X7_waitsTooLong se_X7_X7_waitsTooLong in_X7 co_X7_waitsTooLong rfl) rfl rfl rfl (by decide +kernel) ⟨Nat.le_of_ble_eq_true rfl, Nat.le_of_ble_eq_true rfl⟩) hT (fun U hU hW => hK.go hW hS hAz hU) (va_recv hK.1 (va_one ha_2) (ci := 7) (q0 := 0) rfl rfl) rfl rfl hl.1 rfl (lv_room (Nat.le_of_ble_eq_true rfl)) dX3_failsByTime_12 ⟨Nat.le_of_ble_eq_true rfl, Nat.le_of_ble_eq_true rfl⟩) hS (fun q _ h => Or.inr (mL (L' := [9]) (L := [5, 15, 11, 10, 9]) (by decide) h)) (fun q h => Or.inr (mL (L' := [9]) (L := [5, 15, 11, 10, 9]) (by decide) h)) (fun r_3 _ t H locs ht hvm hwr_3 hB hz hk hS => ?_)
    have hT : TH E (T1 E) G [] H := by rw [ht] at hB; exact hB
    have hr0 := hr0.kept (hk _ hr0.lt (nL hG (by decide)))
    have hzr_3 := s_rng hwr_3
    refine lv_if_ne (tgt := 20) hx hb dX3_failsByTime_15 (by decide) (fun c_4 => ?_) (fun c_4 => ?_)
    · simp only [lt_I, le_I, eq_I, i_0, i_1, i_2, i_3, i_4, i_5, i_6, i_7, i_8, i_10, i_12, i_16, i_20, i_23, i_24, i_31, i_32, i_63, i_64, i_m1] at c_4
      refine lv_aload_n hx hb dX3_failsByTime_20 rfl (lv_at hl 0 rfl) ?_
      refine lv_iconst (v := 1) hx hb dX3_failsByTime_21 (by decide) ?_
      refine lv_iconst (v := 5) hx hb dX3_failsByTime_22 (by decide) ?_
      refine va_callv (rnV (fun H => TH E (T1 E) G [] H ∧ va_at (DG E) vwCl (h0, .inr (3, [.ref e0, .ref e1, .int e2])) H) (As := [.int 1, .int 5]) (rest := []) ⟨hx, hb, hml, hown, hts⟩ (s_X3_fail l E z0 G hGz h0 1 5 hG e0 e1 e2 ge0 ge1 (by have := i_1; have := i_5; first | omega | decide)) (cwV 2 hts (gdV ml_X3_60 im_X3_fail se_X3_X3_fail in_X3 co_X3_fail rfl) rfl rfl rfl (by decide +kernel) ⟨Nat.le_of_ble_eq_true rfl, Nat.le_of_ble_eq_true rfl⟩) ⟨hT, hr0⟩ (fun U hU hW => hK.go hW hS hAz hU) (va_recv hK.1 (va_one hr0) (ci := 3) (q0 := 0) rfl rfl) rfl rfl hl.1 rfl (lv_room (Nat.le_of_ble_eq_true rfl)) dX3_failsByTime_23 ⟨Nat.le_of_ble_eq_true rfl, Nat.le_of_ble_eq_true rfl⟩) hS (fun q _ h => h.elim Or.inl (fun h => Or.inr (mL (L' := [5, 15, 11, 10]) (L := [5, 15, 11, 10, 9]) (by decide) h))) (fun q h => h.elim Or.inl (fun h => Or.inr (mL (L' := [5, 15, 11, 10]) (L := [5, 15, 11, 10, 9]) (by decide) h))) (fun _ t H locs ht hvm hwr_5 hB hz hk hS => ?_)
      rw [ht] at hB
      obtain ⟨hT, s_5, hs_5, hi_5⟩ := hB
      refine lv_iconst (v := 1) hx hb dX3_failsByTime_26 (by decide) ?_
      exact W.zret (v := 1) (ty := .boolean) hx hb hr rfl (fun t ht hW => ⟨⟨1, (), rfl, (by decide), ⟨(by show TH E (T1 E) G [] t.heap; rw [ht]; exact hT), s_5, (by rw [ht]; exact hs_5), hi_5⟩⟩, hS.F ht⟩) hS.2.2 dX3_failsByTime_27
    · simp only [lt_I, le_I, eq_I, i_0, i_1, i_2, i_3, i_4, i_5, i_6, i_7, i_8, i_10, i_12, i_16, i_20, i_23, i_24, i_31, i_32, i_63, i_64, i_m1] at c_4
      refine lv_iconst (v := 0) hx hb dX3_failsByTime_18 (by decide) ?_
      exact W.zret (v := 0) (ty := .boolean) hx hb hr rfl (fun t ht hW => ⟨⟨0, (), rfl, (by decide), ⟨(by show TH E (T1 E) G [] t.heap; rw [ht]; exact hT), e2, (by rw [ht]; exact hr0), Iff.rfl⟩⟩, hS.F ht⟩) hS.2.2 dX3_failsByTime_19
set_option maxHeartbeats 8000000 in
set_option maxRecDepth 100000 in
theorem s_X3_takeIn (l : Launch) (E : EE) (z0 : Nat) (G : Nat → Nat) (hGz : ∀ q, G q ≠ 0 → z0 ≤ q) (h0 : Nat) (p0 : Nat) (hG : G h0 = 8) (hG0 : G p0 = 31) (e0 e1 : Nat) (e2 : Int32) (ge0 : G e0 = 9) (ge1 : G e1 = 10) : Met l yX3_takeIn [Cond.code yX3_takeIn cX3_takeIn 3 none] ({ frames := 6, cells := 0, slots := 0, locals := 132 } : Room) (va_Pc [.ref h0, .ref p0] (fun U => (TH E (T1 E) G [] U.heap ∧ va_at (DG E) vwCl (h0, .inr (3, [.ref e0, .ref e1, .int e2])) U.heap) ∧ KS E z0 U)) (va_Qv (fun (_ : Unit) => True) (fun _ t => TH E (T1 E) G [] t.heap ∧ ∃ s9 : Int32, va_at (DG E) vwCl (h0, .inr (3, [.ref e0, .ref e1, .int s9])) t.heap ∧ (s9.toInt = 0 ↔ e2.toInt = 0)) (fun q : Nat => q = h0 ∨ G q ∈ ([9, 10, 4, 31, 32, 14, 13, 5, 15, 11, 16, 17] : List Nat))) 0 0 (fun q : Nat => q = h0 ∨ G q ∈ ([9, 10, 4, 31, 32, 14, 13, 5, 15, 11, 16, 17] : List Nat)) := by
  refine Met.ofW (cc := cX3_takeIn) (maxL := 3) (ret := none) (by decide) rfl ?_
  intro p e s m args below meth c s₁ B hml hv
  obtain ⟨rfl, ⟨hT, hr0⟩, hK⟩ := hv
  have hx := B.exec
  have hb := B.bytes
  have hr := B.returns
  have hts : ∀ w ∈ TS, w.before ([.ref h0, .ref p0] : List Value).toArray s = true := fun w hw => hK.2.1 w hw _
  have hown : s.vm.findClass RX3 = some m.cls := findClass_of_methodNamed B.named
  have hlocks := B.notSynchronized
  have hS : va_S (fun q : Nat => q = h0 ∨ G q ∈ ([9, 10, 4, 31, 32, 14, 13, 5, 15, 11, 16, 17] : List Nat)) s.heap s.heap [] := va_S.rf
  have hAz : ∀ q, (fun q : Nat => q = h0 ∨ G q ∈ ([9, 10, 4, 31, 32, 14, 13, 5, 15, 11, 16, 17] : List Nat)) q → z0 ≤ q := fun q h => h.elim (fun e => by rw [e]; exact hGz _ (by rw [hG]; decide)) (zL hGz (by decide) q)
  have hl := lv_entry ([.ref h0, .ref p0]) (n := 3) (Nat.le_of_ble_eq_true rfl)
  rw [lg_entry_eq]
  generalize (lg_sl ([.ref h0, .ref p0]) ++ List.replicate (3 - (lg_sl ([.ref h0, .ref p0])).length) Slot.unset).toArray = ls at hl ⊢
  have hl : lv_has ls 3 [(0, .ref h0), (1, .ref p0)] := hl
  refine lv_aload_n hx hb dX3_takeIn_0 rfl (lv_at hl 0 rfl) ?_
  refine va_get (D := DG E) (ci := 3) (v := .int e2) (C := RX3) (T := TX3) (N := 3) hx hb hts iw_X3 hown hK.1 (va_one hr0) 0 rfl rfl 2 (by decide) (hts _ fl_X3_19) (fun _ h9 => h9) rfl dX3_takeIn_1 ?_
  refine lv_iconst (v := 1) hx hb dX3_takeIn_4 (by decide) ?_
  refine lv_icmp_eq (tgt := 9) hx hb dX3_takeIn_5 (by decide) (fun c_1 => ?_) (fun c_1 => ?_)
  · simp only [lt_I, le_I, eq_I, i_0, i_1, i_2, i_3, i_4, i_5, i_6, i_7, i_8, i_10, i_12, i_16, i_20, i_23, i_24, i_31, i_32, i_63, i_64, i_m1] at c_1
    refine lv_aload_n hx hb dX3_takeIn_9 rfl (lv_at hl 1 rfl) ?_
    obtain ⟨v0_2, v1_2, v2_2, v3_2, v4_2, v5_2, v6_2, v7_2, ha_2, hb0_2, hb3_2, hg7_2⟩ := tr_31 hT hG0
    refine va_get (D := DG E) (ci := 2) (v := .int v1_2) (C := RX2) (T := TX2) (N := 8) hx hb hts iw_X2 hown hK.1 (va_one ha_2) 0 rfl rfl 1 (by decide) (hts _ fl_X3_51) (fun _ h9 => h9) rfl dX3_takeIn_10 ?_
    refine lv_iconst (v := 3) hx hb dX3_takeIn_13 (by decide) ?_
    refine lv_icmp_gt (tgt := 39) hx hb dX3_takeIn_14 (by decide) (fun c_3 => ?_) (fun c_3 => ?_)
    · simp only [lt_I, le_I, eq_I, i_0, i_1, i_2, i_3, i_4, i_5, i_6, i_7, i_8, i_10, i_12, i_16, i_20, i_23, i_24, i_31, i_32, i_63, i_64, i_m1] at c_3
      refine lv_aload_n hx hb dX3_takeIn_39 rfl (lv_at hl 1 rfl) ?_
      refine va_get (D := DG E) (ci := 2) (v := .int v1_2) (C := RX2) (T := TX2) (N := 8) hx hb hts iw_X2 hown hK.1 (va_one ha_2) 0 rfl rfl 1 (by decide) (hts _ fl_X3_51) (fun _ h9 => h9) rfl dX3_takeIn_40 ?_
      refine lv_bipush (v := 6) hx hb dX3_takeIn_43 (by decide) ?_
      refine lv_icmp_ne (tgt := 77) hx hb dX3_takeIn_45 (by decide) (fun c_4 => ?_) (fun c_4 => ?_)
      · simp only [lt_I, le_I, eq_I, i_0, i_1, i_2, i_3, i_4, i_5, i_6, i_7, i_8, i_10, i_12, i_16, i_20, i_23, i_24, i_31, i_32, i_63, i_64, i_m1] at c_4
        refine lv_aload_n hx hb dX3_takeIn_77 rfl (lv_at hl 1 rfl) ?_
        refine va_get (D := DG E) (ci := 2) (v := .int v1_2) (C := RX2) (T := TX2) (N := 8) hx hb hts iw_X2 hown hK.1 (va_one ha_2) 0 rfl rfl 1 (by decide) (hts _ fl_X3_51) (fun _ h9 => h9) rfl dX3_takeIn_78 ?_
        refine lv_iconst (v := 5) hx hb dX3_takeIn_81 (by decide) ?_
        refine lv_icmp_ne (tgt := 99) hx hb dX3_takeIn_82 (by decide) (fun c_5 => ?_) (fun c_5 => ?_)
        · simp only [lt_I, le_I, eq_I, i_0, i_1, i_2, i_3, i_4, i_5, i_6, i_7, i_8, i_10, i_12, i_16, i_20, i_23, i_24, i_31, i_32, i_63, i_64, i_m1] at c_5
          refine lv_aload_n hx hb dX3_takeIn_99 rfl (lv_at hl 0 rfl) ?_
          refine va_get (D := DG E) (ci := 3) (v := .ref e0) (C := RX3) (T := TX3) (N := 3) hx hb hts iw_X3 hown hK.1 (va_one hr0) 0 rfl rfl 0 (by decide) (hts _ fl_X3_9) (fun _ h9 => h9) rfl dX3_takeIn_100 ?_
          refine lv_aload_n hx hb dX3_takeIn_103 rfl (lv_at hl 1 rfl) ?_
          obtain ⟨v0_6, v1_6, v2_6, v3_6, v4_6, v5_6, v6_6, v7_6, v8_6, v9_6, v10_6, v11_6, v12_6, v13_6, ha_6, hb0_6, hg1_6, hg2_6, hg6_6⟩ := tr_9 hT ge0
          refine va_callv (rnV (fun H => TH E (T1 E) G [] H) (As := [.ref p0]) (rest := []) ⟨hx, hb, hml, hown, hts⟩ (t_X7_takeReply l E z0 G hGz e0 p0 ge0 hG0) (cwV 1 hts (gdV ml_X3_77 im_X7_takeReply se_X7_X7_takeReply in_X7 co_X7_takeReply rfl) rfl rfl rfl (by decide +kernel) ⟨Nat.le_of_ble_eq_true rfl, Nat.le_of_ble_eq_true rfl⟩) hT (fun U hU hW => hK.go hW hS hAz hU) (va_recv hK.1 (va_one ha_6) (ci := 7) (q0 := 0) rfl rfl) rfl rfl hl.1 rfl (lv_room (Nat.le_of_ble_eq_true rfl)) dX3_takeIn_104 ⟨Nat.le_of_ble_eq_true rfl, Nat.le_of_ble_eq_true rfl⟩) hS (fun q _ h => Or.inr (mL (L' := [14, 9, 11, 5, 15]) (L := [9, 10, 4, 31, 32, 14, 13, 5, 15, 11, 16, 17]) (by decide) h)) (fun q h => Or.inr (mL (L' := [14, 9, 11, 5, 15]) (L := [9, 10, 4, 31, 32, 14, 13, 5, 15, 11, 16, 17]) (by decide) h)) (fun _ t H locs ht hvm hwr_7 hB hz hk hS => ?_)
          have hT : TH E (T1 E) G [] H := by rw [ht] at hB; exact hB
          have hr0 := hr0.kept (hk _ hr0.lt (nL hG (by decide)))
          have ha_2 := ha_2.kept (hk _ ha_2.lt (nL hG0 (by decide)))
          exact W.vret hx hb hr (fun t ht hW => ⟨⟨(), rfl, trivial, ⟨(by show TH E (T1 E) G [] t.heap; rw [ht]; exact hT), e2, (by rw [ht]; exact hr0), Iff.rfl⟩⟩, hS.F ht⟩) hS.2.2 dX3_takeIn_107
        · simp only [lt_I, le_I, eq_I, i_0, i_1, i_2, i_3, i_4, i_5, i_6, i_7, i_8, i_10, i_12, i_16, i_20, i_23, i_24, i_31, i_32, i_63, i_64, i_m1] at c_5
          refine lv_aload_n hx hb dX3_takeIn_85 rfl (lv_at hl 0 rfl) ?_
          refine va_get (D := DG E) (ci := 3) (v := .ref e0) (C := RX3) (T := TX3) (N := 3) hx hb hts iw_X3 hown hK.1 (va_one hr0) 0 rfl rfl 0 (by decide) (hts _ fl_X3_9) (fun _ h9 => h9) rfl dX3_takeIn_86 ?_
          refine lv_aload_n hx hb dX3_takeIn_89 rfl (lv_at hl 1 rfl) ?_
          refine va_get (D := DG E) (ci := 2) (v := .int v2_2) (C := RX2) (T := TX2) (N := 8) hx hb hts iw_X2 hown hK.1 (va_one ha_2) 0 rfl rfl 2 (by decide) (hts _ fl_X3_64) (fun _ h9 => h9) rfl dX3_takeIn_90 ?_
          obtain ⟨v0_8, v1_8, v2_8, v3_8, v4_8, v5_8, v6_8, v7_8, v8_8, v9_8, v10_8, v11_8, v12_8, v13_8, ha_8, hb0_8, hg1_8, hg2_8, hg6_8⟩ := tr_9 hT ge0
          refine va_callv (rnV (fun H => TH E (T1 E) G [] H) (As := [.int v2_2]) (rest := []) ⟨hx, hb, hml, hown, hts⟩ (t_X7_takeAck l E z0 G hGz e0 v2_2 ge0) (cwV 1 hts (gdV ml_X3_74 im_X7_takeAck se_X7_X7_takeAck in_X7 co_X7_takeAck rfl) rfl rfl rfl (by decide +kernel) ⟨Nat.le_of_ble_eq_true rfl, Nat.le_of_ble_eq_true rfl⟩) hT (fun U hU hW => hK.go hW hS hAz hU) (va_recv hK.1 (va_one ha_8) (ci := 7) (q0 := 0) rfl rfl) rfl rfl hl.1 rfl (lv_room (Nat.le_of_ble_eq_true rfl)) dX3_takeIn_93 ⟨Nat.le_of_ble_eq_true rfl, Nat.le_of_ble_eq_true rfl⟩) hS (fun q _ h => Or.inr (mL (L' := [9, 11, 5, 15]) (L := [9, 10, 4, 31, 32, 14, 13, 5, 15, 11, 16, 17]) (by decide) h)) (fun q h => Or.inr (mL (L' := [9, 11, 5, 15]) (L := [9, 10, 4, 31, 32, 14, 13, 5, 15, 11, 16, 17]) (by decide) h)) (fun _ t H locs ht hvm hwr_9 hB hz hk hS => ?_)
          have hT : TH E (T1 E) G [] H := by rw [ht] at hB; exact hB
          have hr0 := hr0.kept (hk _ hr0.lt (nL hG (by decide)))
          have ha_2 := ha_2.kept (hk _ ha_2.lt (nL hG0 (by decide)))
          refine lv_goto (tgt := 107) hx hb dX3_takeIn_96 (by decide) ?_
          exact W.vret hx hb hr (fun t ht hW => ⟨⟨(), rfl, trivial, ⟨(by show TH E (T1 E) G [] t.heap; rw [ht]; exact hT), e2, (by rw [ht]; exact hr0), Iff.rfl⟩⟩, hS.F ht⟩) hS.2.2 dX3_takeIn_107
      · simp only [lt_I, le_I, eq_I, i_0, i_1, i_2, i_3, i_4, i_5, i_6, i_7, i_8, i_10, i_12, i_16, i_20, i_23, i_24, i_31, i_32, i_63, i_64, i_m1] at c_4
        refine lv_aload_n hx hb dX3_takeIn_48 rfl (lv_at hl 0 rfl) ?_
        refine va_get (D := DG E) (ci := 3) (v := .ref e0) (C := RX3) (T := TX3) (N := 3) hx hb hts iw_X3 hown hK.1 (va_one hr0) 0 rfl rfl 0 (by decide) (hts _ fl_X3_9) (fun _ h9 => h9) rfl dX3_takeIn_49 ?_
        refine lv_aload_n hx hb dX3_takeIn_52 rfl (lv_at hl 1 rfl) ?_
        refine va_get (D := DG E) (ci := 2) (v := .int v2_2) (C := RX2) (T := TX2) (N := 8) hx hb hts iw_X2 hown hK.1 (va_one ha_2) 0 rfl rfl 2 (by decide) (hts _ fl_X3_64) (fun _ h9 => h9) rfl dX3_takeIn_53 ?_
        refine lv_aload_n hx hb dX3_takeIn_56 rfl (lv_at hl 1 rfl) ?_
        refine va_get (D := DG E) (ci := 2) (v := .int v4_2) (C := RX2) (T := TX2) (N := 8) hx hb hts iw_X2 hown hK.1 (va_one ha_2) 0 rfl rfl 4 (by decide) (hts _ fl_X3_67) (fun _ h9 => h9) rfl dX3_takeIn_57 ?_
        obtain ⟨v0_10, v1_10, v2_10, v3_10, v4_10, v5_10, v6_10, v7_10, v8_10, v9_10, v10_10, v11_10, v12_10, v13_10, ha_10, hb0_10, hg1_10, hg2_10, hg6_10⟩ := tr_9 hT ge0
        refine va_calli (rnV (fun H => TH E (T1 E) G [] H) (As := [.int v2_2, .int v4_2]) (rest := []) ⟨hx, hb, hml, hown, hts⟩ (t_X7_takeNak l E z0 G hGz e0 v2_2 v4_2 ge0) (cwV 2 hts (gdV ml_X3_70 im_X7_takeNak se_X7_X7_takeNak in_X7 co_X7_takeNak rfl) rfl rfl rfl (by decide +kernel) ⟨Nat.le_of_ble_eq_true rfl, Nat.le_of_ble_eq_true rfl⟩) hT (fun U hU hW => hK.go hW hS hAz hU) (va_recv hK.1 (va_one ha_10) (ci := 7) (q0 := 0) rfl rfl) rfl rfl hl.1 rfl (lv_room (Nat.le_of_ble_eq_true rfl)) dX3_takeIn_60 ⟨Nat.le_of_ble_eq_true rfl, Nat.le_of_ble_eq_true rfl⟩) hS (fun q _ h => Or.inr (mL (L' := [9, 11, 5, 15]) (L := [9, 10, 4, 31, 32, 14, 13, 5, 15, 11, 16, 17]) (by decide) h)) (fun q h => Or.inr (mL (L' := [9, 11, 5, 15]) (L := [9, 10, 4, 31, 32, 14, 13, 5, 15, 11, 16, 17]) (by decide) h)) (fun r_11 _ t H locs ht hvm hwr_11 hB hz hk hS => ?_)
        have hT : TH E (T1 E) G [] H := by rw [ht] at hB; exact hB
        have hr0 := hr0.kept (hk _ hr0.lt (nL hG (by decide)))
        have ha_2 := ha_2.kept (hk _ ha_2.lt (nL hG0 (by decide)))
        refine lv_istore_n (lv' := [(2, .int r_11), (0, .ref h0), (1, .ref p0)]) hx hb dX3_takeIn_63 rfl hl (by decide) rfl (fun ls hl => ?_)
        refine lv_iload_n hx hb dX3_takeIn_64 rfl (lv_at hl 0 rfl) ?_
        refine lv_if_eq (tgt := 74) hx hb dX3_takeIn_65 (by decide) (fun c_12 => ?_) (fun c_12 => ?_)
        · simp only [lt_I, le_I, eq_I, i_0, i_1, i_2, i_3, i_4, i_5, i_6, i_7, i_8, i_10, i_12, i_16, i_20, i_23, i_24, i_31, i_32, i_63, i_64, i_m1] at c_12
          refine lv_goto (tgt := 107) hx hb dX3_takeIn_74 (by decide) ?_
          exact W.vret hx hb hr (fun t ht hW => ⟨⟨(), rfl, trivial, ⟨(by show TH E (T1 E) G [] t.heap; rw [ht]; exact hT), e2, (by rw [ht]; exact hr0), Iff.rfl⟩⟩, hS.F ht⟩) hS.2.2 dX3_takeIn_107
        · simp only [lt_I, le_I, eq_I, i_0, i_1, i_2, i_3, i_4, i_5, i_6, i_7, i_8, i_10, i_12, i_16, i_20, i_23, i_24, i_31, i_32, i_63, i_64, i_m1] at c_12
          refine lv_aload_n hx hb dX3_takeIn_68 rfl (lv_at hl 1 rfl) ?_
          refine lv_iload_n hx hb dX3_takeIn_69 rfl (lv_at hl 0 rfl) ?_
          refine lv_iconst (v := 5) hx hb dX3_takeIn_70 (by decide) ?_
          refine va_callv (rnV (fun H => TH E (T1 E) G [] H ∧ va_at (DG E) vwCl (h0, .inr (3, [.ref e0, .ref e1, .int e2])) H) (As := [.int r_11, .int 5]) (rest := []) ⟨hx, hb, hml, hown, hts⟩ (s_X3_fail l E z0 G hGz h0 r_11 5 hG e0 e1 e2 ge0 ge1 (by have := i_5; first | omega | decide)) (cwV 2 hts (gdV ml_X3_60 im_X3_fail se_X3_X3_fail in_X3 co_X3_fail rfl) rfl rfl rfl (by decide +kernel) ⟨Nat.le_of_ble_eq_true rfl, Nat.le_of_ble_eq_true rfl⟩) ⟨hT, hr0⟩ (fun U hU hW => hK.go hW hS hAz hU) (va_recv hK.1 (va_one hr0) (ci := 3) (q0 := 0) rfl rfl) rfl rfl hl.1 rfl (lv_room (Nat.le_of_ble_eq_true rfl)) dX3_takeIn_71 ⟨Nat.le_of_ble_eq_true rfl, Nat.le_of_ble_eq_true rfl⟩) hS (fun q _ h => h.elim Or.inl (fun h => Or.inr (mL (L' := [5, 15, 11, 10]) (L := [9, 10, 4, 31, 32, 14, 13, 5, 15, 11, 16, 17]) (by decide) h))) (fun q h => h.elim Or.inl (fun h => Or.inr (mL (L' := [5, 15, 11, 10]) (L := [9, 10, 4, 31, 32, 14, 13, 5, 15, 11, 16, 17]) (by decide) h))) (fun _ t H locs ht hvm hwr_13 hB hz hk hS => ?_)
          rw [ht] at hB
          obtain ⟨hT, s_13, hs_13, hi_13⟩ := hB
          refine lv_goto (tgt := 107) hx hb dX3_takeIn_74 (by decide) ?_
          exact W.vret hx hb hr (fun t ht hW => ⟨⟨(), rfl, trivial, ⟨(by show TH E (T1 E) G [] t.heap; rw [ht]; exact hT), s_13, (by rw [ht]; exact hs_13), hi_13⟩⟩, hS.F ht⟩) hS.2.2 dX3_takeIn_107
    · simp only [lt_I, le_I, eq_I, i_0, i_1, i_2, i_3, i_4, i_5, i_6, i_7, i_8, i_10, i_12, i_16, i_20, i_23, i_24, i_31, i_32, i_63, i_64, i_m1] at c_3
      refine lv_aload_n hx hb dX3_takeIn_17 rfl (lv_at hl 0 rfl) ?_
      refine va_get (D := DG E) (ci := 3) (v := .ref e1) (C := RX3) (T := TX3) (N := 3) hx hb hts iw_X3 hown hK.1 (va_one hr0) 0 rfl rfl 1 (by decide) (hts _ fl_X3_15) (fun _ h9 => h9) rfl dX3_takeIn_18 ?_
      refine lv_aload_n hx hb dX3_takeIn_21 rfl (lv_at hl 1 rfl) ?_
      obtain ⟨v0_14, v1_14, v2_14, v3_14, v4_14, v5_14, v6_14, v7_14, v8_14, ha_14, hb0_14, hg1_14, hg2_14, hg3_14, hg7_14, hg8_14⟩ := tr_10 hT ge1
      refine va_calli (rnV (fun H => TH E (T1 E) G [] H) (As := [.ref p0]) (rest := []) ⟨hx, hb, hml, hown, hts⟩ (t_X8_takeIn l E z0 G hGz e1 p0 ge1 hG0) (cwV 1 hts (gdV ml_X3_56 im_X8_takeIn se_X8_X8_takeIn in_X8 co_X8_takeIn rfl) rfl rfl rfl (by decide +kernel) ⟨Nat.le_of_ble_eq_true rfl, Nat.le_of_ble_eq_true rfl⟩) hT (fun U hU hW => hK.go hW hS hAz hU) (va_recv hK.1 (va_one ha_14) (ci := 8) (q0 := 0) rfl rfl) rfl rfl hl.1 rfl (lv_room (Nat.le_of_ble_eq_true rfl)) dX3_takeIn_22 ⟨Nat.le_of_ble_eq_true rfl, Nat.le_of_ble_eq_true rfl⟩) hS (fun q _ h => Or.inr (mL (L' := [10, 4, 31, 32, 14, 13, 5, 15, 11, 16, 17]) (L := [9, 10, 4, 31, 32, 14, 13, 5, 15, 11, 16, 17]) (by decide) h)) (fun q h => Or.inr (mL (L' := [10, 4, 31, 32, 14, 13, 5, 15, 11, 16, 17]) (L := [9, 10, 4, 31, 32, 14, 13, 5, 15, 11, 16, 17]) (by decide) h)) (fun r_15 _ t H locs ht hvm hwr_15 hB hz hk hS => ?_)
      have hT : TH E (T1 E) G [] H := by rw [ht] at hB; exact hB
      have hr0 := hr0.kept (hk _ hr0.lt (nL hG (by decide)))
      refine lv_istore_n (lv' := [(2, .int r_15), (0, .ref h0), (1, .ref p0)]) hx hb dX3_takeIn_25 rfl hl (by decide) rfl (fun ls hl => ?_)
      refine lv_iload_n hx hb dX3_takeIn_26 rfl (lv_at hl 0 rfl) ?_
      refine lv_if_eq (tgt := 36) hx hb dX3_takeIn_27 (by decide) (fun c_16 => ?_) (fun c_16 => ?_)
      · simp only [lt_I, le_I, eq_I, i_0, i_1, i_2, i_3, i_4, i_5, i_6, i_7, i_8, i_10, i_12, i_16, i_20, i_23, i_24, i_31, i_32, i_63, i_64, i_m1] at c_16
        refine lv_goto (tgt := 107) hx hb dX3_takeIn_36 (by decide) ?_
        exact W.vret hx hb hr (fun t ht hW => ⟨⟨(), rfl, trivial, ⟨(by show TH E (T1 E) G [] t.heap; rw [ht]; exact hT), e2, (by rw [ht]; exact hr0), Iff.rfl⟩⟩, hS.F ht⟩) hS.2.2 dX3_takeIn_107
      · simp only [lt_I, le_I, eq_I, i_0, i_1, i_2, i_3, i_4, i_5, i_6, i_7, i_8, i_10, i_12, i_16, i_20, i_23, i_24, i_31, i_32, i_63, i_64, i_m1] at c_16
        refine lv_aload_n hx hb dX3_takeIn_30 rfl (lv_at hl 1 rfl) ?_
        refine lv_iconst (v := 5) hx hb dX3_takeIn_31 (by decide) ?_
        refine lv_iload_n hx hb dX3_takeIn_32 rfl (lv_at hl 0 rfl) ?_
        refine va_callv (rnV (fun H => TH E (T1 E) G [] H ∧ va_at (DG E) vwCl (h0, .inr (3, [.ref e0, .ref e1, .int e2])) H) (As := [.int 5, .int r_15]) (rest := []) ⟨hx, hb, hml, hown, hts⟩ (s_X3_fail l E z0 G hGz h0 5 r_15 hG e0 e1 e2 ge0 ge1 (by have := i_5; first | omega | decide)) (cwV 2 hts (gdV ml_X3_60 im_X3_fail se_X3_X3_fail in_X3 co_X3_fail rfl) rfl rfl rfl (by decide +kernel) ⟨Nat.le_of_ble_eq_true rfl, Nat.le_of_ble_eq_true rfl⟩) ⟨hT, hr0⟩ (fun U hU hW => hK.go hW hS hAz hU) (va_recv hK.1 (va_one hr0) (ci := 3) (q0 := 0) rfl rfl) rfl rfl hl.1 rfl (lv_room (Nat.le_of_ble_eq_true rfl)) dX3_takeIn_33 ⟨Nat.le_of_ble_eq_true rfl, Nat.le_of_ble_eq_true rfl⟩) hS (fun q _ h => h.elim Or.inl (fun h => Or.inr (mL (L' := [5, 15, 11, 10]) (L := [9, 10, 4, 31, 32, 14, 13, 5, 15, 11, 16, 17]) (by decide) h))) (fun q h => h.elim Or.inl (fun h => Or.inr (mL (L' := [5, 15, 11, 10]) (L := [9, 10, 4, 31, 32, 14, 13, 5, 15, 11, 16, 17]) (by decide) h))) (fun _ t H locs ht hvm hwr_17 hB hz hk hS => ?_)
        rw [ht] at hB
        obtain ⟨hT, s_17, hs_17, hi_17⟩ := hB
        refine lv_goto (tgt := 107) hx hb dX3_takeIn_36 (by decide) ?_
        exact W.vret hx hb hr (fun t ht hW => ⟨⟨(), rfl, trivial, ⟨(by show TH E (T1 E) G [] t.heap; rw [ht]; exact hT), s_17, (by rw [ht]; exact hs_17), hi_17⟩⟩, hS.F ht⟩) hS.2.2 dX3_takeIn_107
  · simp only [lt_I, le_I, eq_I, i_0, i_1, i_2, i_3, i_4, i_5, i_6, i_7, i_8, i_10, i_12, i_16, i_20, i_23, i_24, i_31, i_32, i_63, i_64, i_m1] at c_1
    exact W.vret hx hb hr (fun t ht hW => ⟨⟨(), rfl, trivial, ⟨(by show TH E (T1 E) G [] t.heap; rw [ht]; exact hT), e2, (by rw [ht]; exact hr0), Iff.rfl⟩⟩, hS.F ht⟩) hS.2.2 dX3_takeIn_8
set_option maxHeartbeats 8000000 in
set_option maxRecDepth 100000 in
theorem s_X3_start (l : Launch) (E : EE) (z0 : Nat) (G : Nat → Nat) (hGz : ∀ q, G q ≠ 0 → z0 ≤ q) (h0 : Nat) (p0 : Int32) (p1 : Int32) (hG : G h0 = 8) (e0 e1 : Nat) (e2 : Int32) (ge0 : G e0 = 9) (ge1 : G e1 = 10) : Met l yX3_start [Cond.code yX3_start cX3_start 3 none] ({ frames := 1, cells := 0, slots := 0, locals := 21 } : Room) (va_Pc [.ref h0, .int p0, .int p1] (fun U => (TH E (T1 E) G [] U.heap ∧ va_at (DG E) vwCl (h0, .inr (3, [.ref e0, .ref e1, .int e2])) U.heap) ∧ KS E z0 U)) (va_Qv (fun (_ : Unit) => True) (fun _ t => TH E (T1 E) G [] t.heap ∧ ∃ s9 : Int32, va_at (DG E) vwCl (h0, .inr (3, [.ref e0, .ref e1, .int s9])) t.heap ∧ (¬ s9.toInt = 0)) (fun q : Nat => q = h0 ∨ G q ∈ ([9, 10] : List Nat))) 0 0 (fun q : Nat => q = h0 ∨ G q ∈ ([9, 10] : List Nat)) := by
  refine Met.ofW (cc := cX3_start) (maxL := 3) (ret := none) (by decide) rfl ?_
  intro p e s m args below meth c s₁ B hml hv
  obtain ⟨rfl, ⟨hT, hr0⟩, hK⟩ := hv
  have hx := B.exec
  have hb := B.bytes
  have hr := B.returns
  have hts : ∀ w ∈ TS, w.before ([.ref h0, .int p0, .int p1] : List Value).toArray s = true := fun w hw => hK.2.1 w hw _
  have hown : s.vm.findClass RX3 = some m.cls := findClass_of_methodNamed B.named
  have hlocks := B.notSynchronized
  have hS : va_S (fun q : Nat => q = h0 ∨ G q ∈ ([9, 10] : List Nat)) s.heap s.heap [] := va_S.rf
  have hAz : ∀ q, (fun q : Nat => q = h0 ∨ G q ∈ ([9, 10] : List Nat)) q → z0 ≤ q := fun q h => h.elim (fun e => by rw [e]; exact hGz _ (by rw [hG]; decide)) (zL hGz (by decide) q)
  have hl := lv_entry ([.ref h0, .int p0, .int p1]) (n := 3) (Nat.le_of_ble_eq_true rfl)
  rw [lg_entry_eq]
  generalize (lg_sl ([.ref h0, .int p0, .int p1]) ++ List.replicate (3 - (lg_sl ([.ref h0, .int p0, .int p1])).length) Slot.unset).toArray = ls at hl ⊢
  have hl : lv_has ls 3 [(0, .ref h0), (1, .int p0), (2, .int p1)] := hl
  refine lv_aload_n hx hb dX3_start_0 rfl (lv_at hl 0 rfl) ?_
  refine lv_iconst (v := 1) hx hb dX3_start_1 (by decide) ?_
  refine rr_put (D := DG E) (ci := 3) (v := .int 1) (ty := .int) (C := RX3) (T := TX3) (N := 3) hx hb hts iw_X3 tyX3 tyX3_ok nmX3 hown hK.1 hr0 hS (Or.inl rfl) rfl 2 (by decide) (hts _ fl_X3_19) (fun _ h9 => h9) rfl (by decide +kernel) rfl rfl (Nat.le_of_ble_eq_true rfl) dX3_start_2 (fun H locs hn ho hz hS => ?_)
  have hr_1 : va_at (DG E) vwCl (h0, .inr (3, [.ref e0, .ref e1, .int 1])) H := hn
  have hT : TH E (T1 E) G [] H := hT.set hG (show T1 E G 8 _ from ⟨e0, e1, 1, rfl, ge0, ge1⟩) hr_1 ho
  refine lv_aload_n hx hb dX3_start_5 rfl (lv_at hl 0 rfl) ?_
  refine va_get (D := DG E) (ci := 3) (v := .ref e0) (C := RX3) (T := TX3) (N := 3) hx hb hts iw_X3 hown hK.1 (va_one hr_1) 0 rfl rfl 0 (by decide) (hts _ fl_X3_9) (fun _ h9 => h9) rfl dX3_start_6 ?_
  refine lv_iload_n hx hb dX3_start_9 rfl (lv_at hl 1 rfl) ?_
  obtain ⟨v0_2, v1_2, v2_2, v3_2, v4_2, v5_2, v6_2, v7_2, v8_2, v9_2, v10_2, v11_2, v12_2, v13_2, ha_2, hb0_2, hg1_2, hg2_2, hg6_2⟩ := tr_9 hT ge0
  refine va_callv (rnV (fun H => TH E (T1 E) G [] H) (As := [.int p0]) (rest := []) ⟨hx, hb, hml, hown, hts⟩ (t_X7_start l E z0 G hGz e0 p0 ge0) (cwV 1 hts (gdV ml_X3_31 im_X7_start se_X7_X7_start in_X7 co_X7_start rfl) rfl rfl rfl (by decide +kernel) ⟨Nat.le_of_ble_eq_true rfl, Nat.le_of_ble_eq_true rfl⟩) hT (fun U hU hW => hK.go hW hS hAz hU) (va_recv hK.1 (va_one ha_2) (ci := 7) (q0 := 0) rfl rfl) rfl rfl hl.1 rfl (lv_room (Nat.le_of_ble_eq_true rfl)) dX3_start_10 ⟨Nat.le_of_ble_eq_true rfl, Nat.le_of_ble_eq_true rfl⟩) hS (fun q _ h => Or.inr (mL (L' := [9]) (L := [9, 10]) (by decide) h)) (fun q h => Or.inr (mL (L' := [9]) (L := [9, 10]) (by decide) h)) (fun _ t H locs ht hvm hwr_3 hB hz hk hS => ?_)
  have hT : TH E (T1 E) G [] H := by rw [ht] at hB; exact hB
  have hr_1 := hr_1.kept (hk _ hr_1.lt (nL hG (by decide)))
  refine lv_aload_n hx hb dX3_start_13 rfl (lv_at hl 0 rfl) ?_
  refine va_get (D := DG E) (ci := 3) (v := .ref e1) (C := RX3) (T := TX3) (N := 3) hx hb hts iw_X3 hown hK.1 (va_one hr_1) 0 rfl rfl 1 (by decide) (hts _ fl_X3_15) (fun _ h9 => h9) rfl dX3_start_14 ?_
  refine lv_iload_n hx hb dX3_start_17 rfl (lv_at hl 2 rfl) ?_
  obtain ⟨v0_4, v1_4, v2_4, v3_4, v4_4, v5_4, v6_4, v7_4, v8_4, ha_4, hb0_4, hg1_4, hg2_4, hg3_4, hg7_4, hg8_4⟩ := tr_10 hT ge1
  refine rr_put (D := DG E) (ci := 8) (v := .int p1) (ty := .int) (C := RX8) (T := TX8) (N := 9) hx hb hts iw_X8 tyX8 tyX8_ok nmX8 hown hK.1 ha_4 hS (Or.inr (by show G e1 ∈ ([9, 10] : List Nat); rw [ge1]; decide)) rfl 4 (by decide) (hts _ fl_X3_35) (fun _ h9 => h9) rfl (by decide +kernel) rfl rfl (Nat.le_of_ble_eq_true rfl) dX3_start_18 (fun H locs hn ho hz hS => ?_)
  have hr_5 : va_at (DG E) vwCl (e1, .inr (8, [.int v0_4, .ref v1_4, .ref v2_4, .ref v3_4, .int p1, .int v5_4, .int v6_4, .ref v7_4, .ref v8_4])) H := hn
  have hT : TH E (T1 E) G [] H := hT.set ge1 (show T1 E G 10 _ from ⟨v0_4, v1_4, v2_4, v3_4, p1, v5_4, v6_4, v7_4, v8_4, rfl, (by omega), hg1_4, hg2_4, hg3_4, hg7_4, hg8_4⟩) hr_5 ho
  have hr_1 := hr_1.kept (ho _ (ne_G hG ge1 (by decide)))
  exact W.vret hx hb hr (fun t ht hW => ⟨⟨(), rfl, trivial, ⟨(by show TH E (T1 E) G [] t.heap; rw [ht]; exact hT), 1, (by rw [ht]; exact hr_1), (by decide)⟩⟩, hS.F ht⟩) hS.2.2 dX3_start_21
set_option maxHeartbeats 8000000 in
set_option maxRecDepth 100000 in
theorem s_X3_clear (l : Launch) (E : EE) (z0 : Nat) (G : Nat → Nat) (hGz : ∀ q, G q ≠ 0 → z0 ≤ q) (h0 : Nat) (hG : G h0 = 8) (e0 e1 : Nat) (e2 : Int32) (ge0 : G e0 = 9) (ge1 : G e1 = 10) : Met l yX3_clear [Cond.code yX3_clear cX3_clear 1 none] ({ frames := 2, cells := 0, slots := 0, locals := 41 } : Room) (va_Pc [.ref h0] (fun U => (TH E (T1 E) G [] U.heap ∧ va_at (DG E) vwCl (h0, .inr (3, [.ref e0, .ref e1, .int e2])) U.heap) ∧ KS E z0 U)) (va_Qv (fun (_ : Unit) => True) (fun _ t => TH E (T1 E) G [] t.heap ∧ ∃ s9 : Int32, va_at (DG E) vwCl (h0, .inr (3, [.ref e0, .ref e1, .int s9])) t.heap ∧ (s9.toInt = 0)) (fun q : Nat => q = h0 ∨ G q ∈ ([9, 10, 11, 16, 17] : List Nat))) 0 0 (fun q : Nat => q = h0 ∨ G q ∈ ([9, 10, 11, 16, 17] : List Nat)) := by
  refine Met.ofW (cc := cX3_clear) (maxL := 1) (ret := none) (by decide) rfl ?_
  intro p e s m args below meth c s₁ B hml hv
  obtain ⟨rfl, ⟨hT, hr0⟩, hK⟩ := hv
  have hx := B.exec
  have hb := B.bytes
  have hr := B.returns
  have hts : ∀ w ∈ TS, w.before ([.ref h0] : List Value).toArray s = true := fun w hw => hK.2.1 w hw _
  have hown : s.vm.findClass RX3 = some m.cls := findClass_of_methodNamed B.named
  have hlocks := B.notSynchronized
  have hS : va_S (fun q : Nat => q = h0 ∨ G q ∈ ([9, 10, 11, 16, 17] : List Nat)) s.heap s.heap [] := va_S.rf
  have hAz : ∀ q, (fun q : Nat => q = h0 ∨ G q ∈ ([9, 10, 11, 16, 17] : List Nat)) q → z0 ≤ q := fun q h => h.elim (fun e => by rw [e]; exact hGz _ (by rw [hG]; decide)) (zL hGz (by decide) q)
  have hl := lv_entry ([.ref h0]) (n := 1) (Nat.le_of_ble_eq_true rfl)
  rw [lg_entry_eq]
  generalize (lg_sl ([.ref h0]) ++ List.replicate (1 - (lg_sl ([.ref h0])).length) Slot.unset).toArray = ls at hl ⊢
  have hl : lv_has ls 1 [(0, .ref h0)] := hl
  refine lv_aload_n hx hb dX3_clear_0 rfl (lv_at hl 0 rfl) ?_
  refine lv_iconst (v := 0) hx hb dX3_clear_1 (by decide) ?_
  refine rr_put (D := DG E) (ci := 3) (v := .int 0) (ty := .int) (C := RX3) (T := TX3) (N := 3) hx hb hts iw_X3 tyX3 tyX3_ok nmX3 hown hK.1 hr0 hS (Or.inl rfl) rfl 2 (by decide) (hts _ fl_X3_19) (fun _ h9 => h9) rfl (by decide +kernel) rfl rfl (Nat.le_of_ble_eq_true rfl) dX3_clear_2 (fun H locs hn ho hz hS => ?_)
  have hr_1 : va_at (DG E) vwCl (h0, .inr (3, [.ref e0, .ref e1, .int 0])) H := hn
  have hT : TH E (T1 E) G [] H := hT.set hG (show T1 E G 8 _ from ⟨e0, e1, 0, rfl, ge0, ge1⟩) hr_1 ho
  refine lv_aload_n hx hb dX3_clear_5 rfl (lv_at hl 0 rfl) ?_
  refine va_get (D := DG E) (ci := 3) (v := .ref e0) (C := RX3) (T := TX3) (N := 3) hx hb hts iw_X3 hown hK.1 (va_one hr_1) 0 rfl rfl 0 (by decide) (hts _ fl_X3_9) (fun _ h9 => h9) rfl dX3_clear_6 ?_
  obtain ⟨v0_2, v1_2, v2_2, v3_2, v4_2, v5_2, v6_2, v7_2, v8_2, v9_2, v10_2, v11_2, v12_2, v13_2, ha_2, hb0_2, hg1_2, hg2_2, hg6_2⟩ := tr_9 hT ge0
  refine va_callv (rnV (fun H => TH E (T1 E) G [] H) (As := []) (rest := []) ⟨hx, hb, hml, hown, hts⟩ (t_X7_clear l E z0 G hGz e0 ge0) (cwV 0 hts (gdV ml_X3_23 im_X7_clear se_X7_X7_clear in_X7 co_X7_clear rfl) rfl rfl rfl (by decide +kernel) ⟨Nat.le_of_ble_eq_true rfl, Nat.le_of_ble_eq_true rfl⟩) hT (fun U hU hW => hK.go hW hS hAz hU) (va_recv hK.1 (va_one ha_2) (ci := 7) (q0 := 0) rfl rfl) rfl rfl hl.1 rfl (lv_room (Nat.le_of_ble_eq_true rfl)) dX3_clear_9 ⟨Nat.le_of_ble_eq_true rfl, Nat.le_of_ble_eq_true rfl⟩) hS (fun q _ h => Or.inr (mL (L' := [9, 11]) (L := [9, 10, 11, 16, 17]) (by decide) h)) (fun q h => Or.inr (mL (L' := [9, 11]) (L := [9, 10, 11, 16, 17]) (by decide) h)) (fun _ t H locs ht hvm hwr_3 hB hz hk hS => ?_)
  have hT : TH E (T1 E) G [] H := by rw [ht] at hB; exact hB
  have hr_1 := hr_1.kept (hk _ hr_1.lt (nL hG (by decide)))
  refine lv_aload_n hx hb dX3_clear_12 rfl (lv_at hl 0 rfl) ?_
  refine va_get (D := DG E) (ci := 3) (v := .ref e1) (C := RX3) (T := TX3) (N := 3) hx hb hts iw_X3 hown hK.1 (va_one hr_1) 0 rfl rfl 1 (by decide) (hts _ fl_X3_15) (fun _ h9 => h9) rfl dX3_clear_13 ?_
  obtain ⟨v0_4, v1_4, v2_4, v3_4, v4_4, v5_4, v6_4, v7_4, v8_4, ha_4, hb0_4, hg1_4, hg2_4, hg3_4, hg7_4, hg8_4⟩ := tr_10 hT ge1
  refine va_callv (rnV (fun H => TH E (T1 E) G [] H) (As := []) (rest := []) ⟨hx, hb, hml, hown, hts⟩ (t_X8_clear l E z0 G hGz e1 ge1) (cwV 0 hts (gdV ml_X3_28 im_X8_clear se_X8_X8_clear in_X8 co_X8_clear rfl) rfl rfl rfl (by decide +kernel) ⟨Nat.le_of_ble_eq_true rfl, Nat.le_of_ble_eq_true rfl⟩) hT (fun U hU hW => hK.go hW hS hAz hU) (va_recv hK.1 (va_one ha_4) (ci := 8) (q0 := 0) rfl rfl) rfl rfl hl.1 rfl (lv_room (Nat.le_of_ble_eq_true rfl)) dX3_clear_16 ⟨Nat.le_of_ble_eq_true rfl, Nat.le_of_ble_eq_true rfl⟩) hS (fun q _ h => Or.inr (mL (L' := [10, 11, 16, 17]) (L := [9, 10, 11, 16, 17]) (by decide) h)) (fun q h => Or.inr (mL (L' := [10, 11, 16, 17]) (L := [9, 10, 11, 16, 17]) (by decide) h)) (fun _ t H locs ht hvm hwr_5 hB hz hk hS => ?_)
  have hT : TH E (T1 E) G [] H := by rw [ht] at hB; exact hB
  have hr_1 := hr_1.kept (hk _ hr_1.lt (nL hG (by decide)))
  exact W.vret hx hb hr (fun t ht hW => ⟨⟨(), rfl, trivial, ⟨(by show TH E (T1 E) G [] t.heap; rw [ht]; exact hT), 0, (by rw [ht]; exact hr_1), (by decide)⟩⟩, hS.F ht⟩) hS.2.2 dX3_clear_19
set_option maxHeartbeats 8000000 in
set_option maxRecDepth 100000 in
theorem s_X9_deliver (l : Launch) (E : EE) (z0 : Nat) (G : Nat → Nat) (hGz : ∀ q, G q ≠ 0 → z0 ≤ q) (h0 : Nat) (p0 : Int32) (hG : G h0 = 1) (pb : Nat → Nat) (hPB : PB G pb) (z : Nat → Prop) : Met l yX9_deliver [Cond.code yX9_deliver cX9_deliver 3 (some .boolean)] ({ frames := 7, cells := 0, slots := 0, locals := 154 } : Room) (va_Pc [.ref h0, .int p0] (fun U => (TH E (T1 E) G [] U.heap ∧ PA E G h0 pb U.heap ∧ ZS E G pb z U.heap) ∧ KS E z0 U)) (va_Qi (fun (r : Int32) (_ : Unit) => r = 0 ∨ r = 1) (fun _ t => TH E (T1 E) G [] t.heap ∧ PA E G h0 pb t.heap ∧ ZS E G pb (z) t.heap) (fun q : Nat => G q ∈ ([8, 9, 10, 4, 31, 32, 14, 13, 5, 15, 11, 16, 17, 30] : List Nat))) 0 0 (fun q : Nat => G q ∈ ([8, 9, 10, 4, 31, 32, 14, 13, 5, 15, 11, 16, 17, 30] : List Nat)) := by
  refine Met.ofW (cc := cX9_deliver) (maxL := 3) (ret := (some .boolean)) (by decide) rfl ?_
  intro p e s m args below meth c s₁ B hml hv
  obtain ⟨rfl, ⟨hT, ⟨n9, p9, f9, a9, hr0, gn9, gp9, gf9, hp9, hf9⟩, hZ⟩, hK⟩ := hv
  have hx := B.exec
  have hb := B.bytes
  have hr := B.returns
  have hts : ∀ w ∈ TS, w.before ([.ref h0, .int p0] : List Value).toArray s = true := fun w hw => hK.2.1 w hw _
  have hown : s.vm.findClass RX9 = some m.cls := findClass_of_methodNamed B.named
  have hlocks := B.notSynchronized
  have hS : va_S (fun q : Nat => G q ∈ ([8, 9, 10, 4, 31, 32, 14, 13, 5, 15, 11, 16, 17, 30] : List Nat)) s.heap s.heap [] := va_S.rf
  have hAz : ∀ q, (fun q : Nat => G q ∈ ([8, 9, 10, 4, 31, 32, 14, 13, 5, 15, 11, 16, 17, 30] : List Nat)) q → z0 ≤ q := zL hGz (by decide)
  have he9 : ∀ i, i < 4 → ∃ b, a9 i = some b ∧ G b = 8 := fun i hi => ⟨pb i, hf9 i hi, hPB.1 i hi⟩
  have hl := lv_entry ([.ref h0, .int p0]) (n := 3) (Nat.le_of_ble_eq_true rfl)
  rw [lg_entry_eq]
  generalize (lg_sl ([.ref h0, .int p0]) ++ List.replicate (3 - (lg_sl ([.ref h0, .int p0])).length) Slot.unset).toArray = ls at hl ⊢
  have hl : lv_has ls 3 [(0, .ref h0), (1, .int p0)] := hl
  refine lv_aload_n hx hb dX9_deliver_0 rfl (lv_at hl 0 rfl) ?_
  refine va_get (D := DG E) (ci := 9) (v := .ref f9) (C := RX9) (T := TX9) (N := 3) hx hb hts iw_X9 hown hK.1 (va_one hr0) 0 rfl rfl 2 (by decide) (hts _ fl_X9_16) (fun _ h9 => h9) rfl dX9_deliver_1 ?_
  refine lv_iload_n hx hb dX9_deliver_4 rfl (lv_at hl 1 rfl) ?_
  obtain ⟨v0_1, v1_1, v2_1, v3_1, ha_1, hg0_1, hb1_1, hg2_1, hg3_1⟩ := tr_4 hT gf9
  refine va_calli (rnV (fun H => TH E (T1 E) G [] H ∧ va_at (DG E) vwCl (f9, .inr (0, [.ref v0_1, .int v1_1, .ref v2_1, .ref v3_1])) H) (As := [.int p0]) (rest := []) ⟨hx, hb, hml, hown, hts⟩ (t_X0_has l E z0 G hGz f9 p0 gf9 v0_1 v1_1 v2_1 v3_1 hg0_1 hg2_1 hg3_1 (by omega)) (cwV 1 hts (gdV ml_X9_139 im_X0_has se_X0_X0_has in_X0 co_X0_has rfl) rfl rfl rfl (by decide +kernel) ⟨Nat.le_of_ble_eq_true rfl, Nat.le_of_ble_eq_true rfl⟩) ⟨hT, ha_1⟩ (fun U hU hW => hK.go hW hS hAz hU) (va_recv hK.1 (va_one ha_1) (ci := 0) (q0 := 0) rfl rfl) rfl rfl hl.1 rfl (lv_room (Nat.le_of_ble_eq_true rfl)) dX9_deliver_5 ⟨Nat.le_of_ble_eq_true rfl, Nat.le_of_ble_eq_true rfl⟩) hS (fun q _ h => h.elim) (fun q h => h.elim) (fun r_2 _ t H locs ht hvm hwr_2 hB hz hk hS => ?_)
  have hT : TH E (T1 E) G [] H := hT.kept (fun q hq => hk q hq (fun h => h))
  have hr0 := hr0.kept (hk _ hr0.lt (fun h => h))
  have hp9 := hp9.kept (hk _ hp9.lt (fun h => h))
  have ha_1 := ha_1.kept (hk _ ha_1.lt (fun h => h))
  have hzr_2 := s_rng hwr_2.1
  have hZ := hZ.kept0 (fun q hq => hk q hq (fun h => h))
  refine lv_if_ne (tgt := 13) hx hb dX9_deliver_8 (by decide) (fun c_3 => ?_) (fun c_3 => ?_)
  · simp only [lt_I, le_I, eq_I, i_0, i_1, i_2, i_3, i_4, i_5, i_6, i_7, i_8, i_10, i_12, i_16, i_20, i_23, i_24, i_31, i_32, i_63, i_64, i_m1] at c_3
    refine lv_aload_n hx hb dX9_deliver_13 rfl (lv_at hl 0 rfl) ?_
    refine va_get (D := DG E) (ci := 9) (v := .ref f9) (C := RX9) (T := TX9) (N := 3) hx hb hts iw_X9 hown hK.1 (va_one hr0) 0 rfl rfl 2 (by decide) (hts _ fl_X9_16) (fun _ h9 => h9) rfl dX9_deliver_14 ?_
    refine lv_iload_n hx hb dX9_deliver_17 rfl (lv_at hl 1 rfl) ?_
    refine va_callr (rnV (fun H => TH E (T1 E) G [] H ∧ va_at (DG E) vwCl (f9, .inr (0, [.ref v0_1, .int v1_1, .ref v2_1, .ref v3_1])) H) (As := [.int p0]) (rest := []) ⟨hx, hb, hml, hown, hts⟩ (t_X0_takeOut l E z0 G hGz f9 p0 gf9 v0_1 v1_1 v2_1 v3_1 hg0_1 hg2_1 hg3_1 (by omega) (by first | omega | decide) (by first | omega | decide)) (cwV 1 hts (gdV ml_X9_142 im_X0_takeOut se_X0_X0_takeOut in_X0 co_X0_takeOut rfl) rfl rfl rfl (by decide +kernel) ⟨Nat.le_of_ble_eq_true rfl, Nat.le_of_ble_eq_true rfl⟩) ⟨hT, ha_1⟩ (fun U hU hW => hK.go hW hS hAz hU) (va_recv hK.1 (va_one ha_1) (ci := 0) (q0 := 0) rfl rfl) rfl rfl hl.1 rfl (lv_room (Nat.le_of_ble_eq_true rfl)) dX9_deliver_18 ⟨Nat.le_of_ble_eq_true rfl, Nat.le_of_ble_eq_true rfl⟩) hS (fun q _ h => mL (L' := [4, 30]) (L := [8, 9, 10, 4, 31, 32, 14, 13, 5, 15, 11, 16, 17, 30]) (by decide) h) (fun q h => mL (L' := [4, 30]) (L := [8, 9, 10, 4, 31, 32, 14, 13, 5, 15, 11, 16, 17, 30]) (by decide) h) (fun _ r_4 t H locs ht hvm hwr_4 hB hz hk hS => ?_)
    have hT : TH E (T1 E) G [] H := by have hB := hB.2; rw [ht] at hB; exact hB
    have grr_4 : G r_4 = 31 := hB.1
    have hr0 := hr0.kept (hk _ hr0.lt (nL hG (by decide)))
    have hp9 := hp9.kept (hk _ hp9.lt (nL gp9 (by decide)))
    have hZ := hZ.kept hPB (L := [4, 30]) (by decide) hk
    refine lv_astore_n (lv' := [(2, .ref r_4), (0, .ref h0), (1, .int p0)]) hx hb dX9_deliver_21 rfl hl (by decide) rfl (fun ls hl => ?_)
    refine lv_aload_n hx hb dX9_deliver_22 rfl (lv_at hl 1 rfl) ?_
    refine va_get (D := DG E) (ci := 9) (v := .ref p9) (C := RX9) (T := TX9) (N := 3) hx hb hts iw_X9 hown hK.1 (va_one hr0) 0 rfl rfl 1 (by decide) (hts _ fl_X9_29) (fun _ h9 => h9) rfl dX9_deliver_23 ?_
    refine lv_aload_n hx hb dX9_deliver_26 rfl (lv_at hl 0 rfl) ?_
    obtain ⟨v0_5, v1_5, v2_5, v3_5, v4_5, v5_5, v6_5, v7_5, ha_5, hb0_5, hb3_5, hg7_5⟩ := tr_31 hT grr_4
    refine va_get (D := DG E) (ci := 2) (v := .int v0_5) (C := RX2) (T := TX2) (N := 8) hx hb hts iw_X2 hown hK.1 (va_one ha_5) 0 rfl rfl 0 (by decide) (hts _ fl_X9_146) (fun _ h9 => h9) rfl dX9_deliver_27 ?_
    obtain ⟨j_6, hj_6, ej_6⟩ := vp_in_of (show vp_in v0_5 4 from vp_in_iff.mpr (by omega)) (by decide)
    obtain ⟨b_6, eb_6, gb_6⟩ := he9 j_6 hj_6
    have cj_6 : a9 (v0_5 : Int32).toNatClampNeg = some b_6 := by rw [ej_6, nI_clamp (by omega)]; exact eb_6
    refine va_aldq (D := DG E) hx hb hK.1 (va_one hp9) 0 5 rfl rfl (show vp_in v0_5 4 from vp_in_iff.mpr (by omega)) dX9_deliver_30 ?_
    rw [cj_6]
    refine W.eq (g2 := F0 m 31 ls [.ref b_6]) (by rfl) ?_
    have hb_6 : b_6 = pb j_6 := (Option.some.inj ((hf9 j_6 hj_6).symm.trans eb_6)).symm
    obtain ⟨a_6, c_6, s_6, hat_6, ga_6, gc_6, hi_6⟩ := hZ j_6 hj_6
    rw [← hb_6] at hat_6
    have hjI_6 : (j_6 : Int) = v0_5.toInt := by rw [ej_6, nI_toInt (by omega)]
    refine lv_aload_n hx hb dX9_deliver_31 rfl (lv_at hl 0 rfl) ?_
    refine va_callv (rnV (fun H => TH E (T1 E) G [] H ∧ va_at (DG E) vwCl (b_6, .inr (3, [.ref a_6, .ref c_6, .int s_6])) H) (As := [.ref r_4]) (rest := []) ⟨hx, hb, hml, hown, hts⟩ (s_X3_takeIn l E z0 G hGz b_6 r_4 gb_6 grr_4 a_6 c_6 s_6 ga_6 gc_6) (cwV 1 hts (gdV ml_X9_151 im_X3_takeIn se_X3_X3_takeIn in_X3 co_X3_takeIn rfl) rfl rfl rfl (by decide +kernel) ⟨Nat.le_of_ble_eq_true rfl, Nat.le_of_ble_eq_true rfl⟩) ⟨hT, hat_6⟩ (fun U hU hW => hK.go hW hS hAz hU) (va_recv hK.1 (va_one hat_6) (ci := 3) (q0 := 0) rfl rfl) rfl rfl hl.1 rfl (lv_room (Nat.le_of_ble_eq_true rfl)) dX9_deliver_32 ⟨Nat.le_of_ble_eq_true rfl, Nat.le_of_ble_eq_true rfl⟩) hS (fun q _ h => h.elim (fun e => by show G q ∈ ([8, 9, 10, 4, 31, 32, 14, 13, 5, 15, 11, 16, 17, 30] : List Nat); rw [e, gb_6]; decide) (fun h => mL (L' := [9, 10, 4, 31, 32, 14, 13, 5, 15, 11, 16, 17]) (L := [8, 9, 10, 4, 31, 32, 14, 13, 5, 15, 11, 16, 17, 30]) (by decide) h)) (fun q h => h.elim (fun e => by show G q ∈ ([8, 9, 10, 4, 31, 32, 14, 13, 5, 15, 11, 16, 17, 30] : List Nat); rw [e, gb_6]; decide) (fun h => mL (L' := [9, 10, 4, 31, 32, 14, 13, 5, 15, 11, 16, 17]) (L := [8, 9, 10, 4, 31, 32, 14, 13, 5, 15, 11, 16, 17, 30]) (by decide) h)) (fun _ t H locs ht hvm hwr_7 hB hz hk hS => ?_)
    rw [ht] at hB
    obtain ⟨hT, s_7, hs_7, hi_7⟩ := hB
    have hr0 := hr0.kept (hk _ hr0.lt (fun h => h.elim (ne_G hG gb_6 (by decide)) (nL hG (by decide))))
    have hp9 := hp9.kept (hk _ hp9.lt (fun h => h.elim (ne_G gp9 gb_6 (by decide)) (nL gp9 (by decide))))
    have hZ : ZS E G pb z H := hZ.upd hPB hj_6 (L := [9, 10, 4, 31, 32, 14, 13, 5, 15, 11, 16, 17]) (by decide) (by rw [← hb_6]; exact hk) ⟨_, _, _, (by rw [← hb_6]; exact hs_7), ga_6, gc_6, hi_7.trans hi_6⟩ (fun _ _ _ => Iff.rfl)
    refine lv_iconst (v := 1) hx hb dX9_deliver_35 (by decide) ?_
    exact W.zret (v := 1) (ty := .boolean) hx hb hr rfl (fun t ht hW => ⟨⟨1, (), rfl, (by decide), (by show TH E (T1 E) G [] t.heap ∧ PA E G h0 pb t.heap ∧ ZS E G pb (z) t.heap; rw [ht]; exact ⟨hT, ⟨_, _, _, _, hr0, gn9, gp9, gf9, hp9, hf9⟩, hZ⟩)⟩, hS.F ht⟩) hS.2.2 dX9_deliver_36
  · simp only [lt_I, le_I, eq_I, i_0, i_1, i_2, i_3, i_4, i_5, i_6, i_7, i_8, i_10, i_12, i_16, i_20, i_23, i_24, i_31, i_32, i_63, i_64, i_m1] at c_3
    refine lv_iconst (v := 0) hx hb dX9_deliver_11 (by decide) ?_
    exact W.zret (v := 0) (ty := .boolean) hx hb hr rfl (fun t ht hW => ⟨⟨0, (), rfl, (by decide), (by show TH E (T1 E) G [] t.heap ∧ PA E G h0 pb t.heap ∧ ZS E G pb (z) t.heap; rw [ht]; exact ⟨hT, ⟨_, _, _, _, hr0, gn9, gp9, gf9, hp9, hf9⟩, hZ⟩)⟩, hS.F ht⟩) hS.2.2 dX9_deliver_12
set_option maxHeartbeats 8000000 in
set_option maxRecDepth 100000 in
theorem s_X9_tick (l : Launch) (E : EE) (z0 : Nat) (G : Nat → Nat) (hGz : ∀ q, G q ≠ 0 → z0 ≤ q) (h0 : Nat) (hG : G h0 = 1) (pb : Nat → Nat) (hPB : PB G pb) (z : Nat → Prop) : Met l yX9_tick [Cond.code yX9_tick cX9_tick 3 (some .int)] ({ frames := 6, cells := 0, slots := 0, locals := 131 } : Room) (va_Pc [.ref h0] (fun U => (TH E (T1 E) G [] U.heap ∧ PA E G h0 pb U.heap ∧ ZS E G pb z U.heap) ∧ KS E z0 U)) (va_Qi (fun (r : Int32) (_ : Unit) => True) (fun _ t => TH E (T1 E) G [] t.heap ∧ PA E G h0 pb t.heap ∧ ZS E G pb (z) t.heap) (fun q : Nat => G q ∈ ([8, 5, 15, 11, 10, 9] : List Nat))) 0 0 (fun q : Nat => G q ∈ ([8, 5, 15, 11, 10, 9] : List Nat)) := by
  refine Met.ofW (cc := cX9_tick) (maxL := 3) (ret := (some .int)) (by decide) rfl ?_
  intro p e s m args below meth c s₁ B hml hv
  obtain ⟨rfl, ⟨hT, ⟨n9, p9, f9, a9, hr0, gn9, gp9, gf9, hp9, hf9⟩, hZ⟩, hK⟩ := hv
  have hx := B.exec
  have hb := B.bytes
  have hr := B.returns
  have hts : ∀ w ∈ TS, w.before ([.ref h0] : List Value).toArray s = true := fun w hw => hK.2.1 w hw _
  have hown : s.vm.findClass RX9 = some m.cls := findClass_of_methodNamed B.named
  have hlocks := B.notSynchronized
  have hS : va_S (fun q : Nat => G q ∈ ([8, 5, 15, 11, 10, 9] : List Nat)) s.heap s.heap [] := va_S.rf
  have hAz : ∀ q, (fun q : Nat => G q ∈ ([8, 5, 15, 11, 10, 9] : List Nat)) q → z0 ≤ q := zL hGz (by decide)
  have he9 : ∀ i, i < 4 → ∃ b, a9 i = some b ∧ G b = 8 := fun i hi => ⟨pb i, hf9 i hi, hPB.1 i hi⟩
  have hl := lv_entry ([.ref h0]) (n := 3) (Nat.le_of_ble_eq_true rfl)
  rw [lg_entry_eq]
  generalize (lg_sl ([.ref h0]) ++ List.replicate (3 - (lg_sl ([.ref h0])).length) Slot.unset).toArray = ls at hl ⊢
  have hl : lv_has ls 3 [(0, .ref h0)] := hl
  refine lv_iconst (v := 0) hx hb dX9_tick_0 (by decide) ?_
  refine lv_istore_n (lv' := [(1, .int 0), (0, .ref h0)]) hx hb dX9_tick_1 rfl hl (by decide) rfl (fun ls hl => ?_)
  refine lv_iconst (v := 0) hx hb dX9_tick_2 (by decide) ?_
  refine lv_istore_n (lv' := [(2, .int 0), (1, .int 0), (0, .ref h0)]) hx hb dX9_tick_3 rfl hl (by decide) rfl (fun ls hl => ?_)
  refine lv_iload_n hx hb dX9_tick_4 rfl (lv_at hl 0 rfl) ?_
  refine lv_iconst (v := 4) hx hb dX9_tick_5 (by decide) ?_
  refine lv_icmp_ge (tgt := 30) hx hb dX9_tick_6 (by decide) (fun c_1 => absurd c_1 (by decide)) (fun c_1 => ?_)
  refine lv_aload_n hx hb dX9_tick_9 rfl (lv_at hl 2 rfl) ?_
  refine va_get (D := DG E) (ci := 9) (v := .ref p9) (C := RX9) (T := TX9) (N := 3) hx hb hts iw_X9 hown hK.1 (va_one hr0) 0 rfl rfl 1 (by decide) (hts _ fl_X9_29) (fun _ h9 => h9) rfl dX9_tick_10 ?_
  refine lv_iload_n hx hb dX9_tick_13 rfl (lv_at hl 0 rfl) ?_
  obtain ⟨j_2, hj_2, ej_2⟩ := vp_in_of (show vp_in (0) 4 from vp_in_iff.mpr ⟨by decide, by decide⟩) (by decide)
  obtain ⟨b_2, eb_2, gb_2⟩ := he9 j_2 hj_2
  have cj_2 : a9 (0 : Int32).toNatClampNeg = some b_2 := by rw [ej_2, nI_clamp (by omega)]; exact eb_2
  refine va_aldq (D := DG E) hx hb hK.1 (va_one hp9) 0 5 rfl rfl (show vp_in (0) 4 from vp_in_iff.mpr ⟨by decide, by decide⟩) dX9_tick_14 ?_
  rw [cj_2]
  refine W.eq (g2 := F0 m 15 ls [.ref b_2]) (by rfl) ?_
  have hb_2 : b_2 = pb j_2 := (Option.some.inj ((hf9 j_2 hj_2).symm.trans eb_2)).symm
  obtain ⟨a_2, c_2, s_2, hat_2, ga_2, gc_2, hi_2⟩ := hZ j_2 hj_2
  rw [← hb_2] at hat_2
  refine va_calli (rnV (fun H => TH E (T1 E) G [] H ∧ va_at (DG E) vwCl (b_2, .inr (3, [.ref a_2, .ref c_2, .int s_2])) H) (As := []) (rest := []) ⟨hx, hb, hml, hown, hts⟩ (s_X3_failsByTime l E z0 G hGz b_2 gb_2 a_2 c_2 s_2 ga_2 gc_2) (cwV 0 hts (gdV ml_X9_162 im_X3_failsByTime se_X3_X3_failsByTime in_X3 co_X3_failsByTime rfl) rfl rfl rfl (by decide +kernel) ⟨Nat.le_of_ble_eq_true rfl, Nat.le_of_ble_eq_true rfl⟩) ⟨hT, hat_2⟩ (fun U hU hW => hK.go hW hS hAz hU) (va_recv hK.1 (va_one hat_2) (ci := 3) (q0 := 0) rfl rfl) rfl rfl hl.1 rfl (lv_room (Nat.le_of_ble_eq_true rfl)) dX9_tick_15 ⟨Nat.le_of_ble_eq_true rfl, Nat.le_of_ble_eq_true rfl⟩) hS (fun q _ h => h.elim (fun e => by show G q ∈ ([8, 5, 15, 11, 10, 9] : List Nat); rw [e, gb_2]; decide) (fun h => mL (L' := [5, 15, 11, 10, 9]) (L := [8, 5, 15, 11, 10, 9]) (by decide) h)) (fun q h => h.elim (fun e => by show G q ∈ ([8, 5, 15, 11, 10, 9] : List Nat); rw [e, gb_2]; decide) (fun h => mL (L' := [5, 15, 11, 10, 9]) (L := [8, 5, 15, 11, 10, 9]) (by decide) h)) (fun r_3 _ t H locs ht hvm hwr_3 hB hz hk hS => ?_)
  rw [ht] at hB
  obtain ⟨hT, s_3, hs_3, hi_3⟩ := hB
  have hr0 := hr0.kept (hk _ hr0.lt (fun h => h.elim (ne_G hG gb_2 (by decide)) (nL hG (by decide))))
  have hp9 := hp9.kept (hk _ hp9.lt (fun h => h.elim (ne_G gp9 gb_2 (by decide)) (nL gp9 (by decide))))
  have hZ : ZS E G pb z H := hZ.upd hPB hj_2 (L := [5, 15, 11, 10, 9]) (by decide) (by rw [← hb_2]; exact hk) ⟨_, _, _, (by rw [← hb_2]; exact hs_3), ga_2, gc_2, hi_3.trans hi_2⟩ (fun _ _ _ => Iff.rfl)
  have hzr_3 := s_rng hwr_3
  refine lv_if_eq (tgt := 24) hx hb dX9_tick_18 (by decide) (fun c_4 => ?_) (fun c_4 => ?_)
  · simp only [lt_I, le_I, eq_I, i_0, i_1, i_2, i_3, i_4, i_5, i_6, i_7, i_8, i_10, i_12, i_16, i_20, i_23, i_24, i_31, i_32, i_63, i_64, i_m1] at c_4
    refine lv_iinc (v := 1) (lv' := [(2, .int 1), (1, .int 0), (0, .ref h0)]) hx hb dX9_tick_24 hl (k := 0) rfl (by decide) (by decide) rfl (fun ls hl => ?_)
    refine lv_goto (tgt := 4) hx hb dX9_tick_27 (by decide) ?_
    refine lv_iload_n hx hb dX9_tick_4 rfl (lv_at hl 0 rfl) ?_
    refine lv_iconst (v := 4) hx hb dX9_tick_5 (by decide) ?_
    refine lv_icmp_ge (tgt := 30) hx hb dX9_tick_6 (by decide) (fun c_5 => absurd c_5 (by decide)) (fun c_5 => ?_)
    refine lv_aload_n hx hb dX9_tick_9 rfl (lv_at hl 2 rfl) ?_
    refine va_get (D := DG E) (ci := 9) (v := .ref p9) (C := RX9) (T := TX9) (N := 3) hx hb hts iw_X9 hown hK.1 (va_one hr0) 0 rfl rfl 1 (by decide) (hts _ fl_X9_29) (fun _ h9 => h9) rfl dX9_tick_10 ?_
    refine lv_iload_n hx hb dX9_tick_13 rfl (lv_at hl 0 rfl) ?_
    obtain ⟨j_6, hj_6, ej_6⟩ := vp_in_of (show vp_in (1) 4 from vp_in_iff.mpr ⟨by decide, by decide⟩) (by decide)
    obtain ⟨b_6, eb_6, gb_6⟩ := he9 j_6 hj_6
    have cj_6 : a9 (1 : Int32).toNatClampNeg = some b_6 := by rw [ej_6, nI_clamp (by omega)]; exact eb_6
    refine va_aldq (D := DG E) hx hb hK.1 (va_one hp9) 0 5 rfl rfl (show vp_in (1) 4 from vp_in_iff.mpr ⟨by decide, by decide⟩) dX9_tick_14 ?_
    rw [cj_6]
    refine W.eq (g2 := F0 m 15 ls [.ref b_6]) (by rfl) ?_
    have hb_6 : b_6 = pb j_6 := (Option.some.inj ((hf9 j_6 hj_6).symm.trans eb_6)).symm
    obtain ⟨a_6, c_6, s_6, hat_6, ga_6, gc_6, hi_6⟩ := hZ j_6 hj_6
    rw [← hb_6] at hat_6
    refine va_calli (rnV (fun H => TH E (T1 E) G [] H ∧ va_at (DG E) vwCl (b_6, .inr (3, [.ref a_6, .ref c_6, .int s_6])) H) (As := []) (rest := []) ⟨hx, hb, hml, hown, hts⟩ (s_X3_failsByTime l E z0 G hGz b_6 gb_6 a_6 c_6 s_6 ga_6 gc_6) (cwV 0 hts (gdV ml_X9_162 im_X3_failsByTime se_X3_X3_failsByTime in_X3 co_X3_failsByTime rfl) rfl rfl rfl (by decide +kernel) ⟨Nat.le_of_ble_eq_true rfl, Nat.le_of_ble_eq_true rfl⟩) ⟨hT, hat_6⟩ (fun U hU hW => hK.go hW hS hAz hU) (va_recv hK.1 (va_one hat_6) (ci := 3) (q0 := 0) rfl rfl) rfl rfl hl.1 rfl (lv_room (Nat.le_of_ble_eq_true rfl)) dX9_tick_15 ⟨Nat.le_of_ble_eq_true rfl, Nat.le_of_ble_eq_true rfl⟩) hS (fun q _ h => h.elim (fun e => by show G q ∈ ([8, 5, 15, 11, 10, 9] : List Nat); rw [e, gb_6]; decide) (fun h => mL (L' := [5, 15, 11, 10, 9]) (L := [8, 5, 15, 11, 10, 9]) (by decide) h)) (fun q h => h.elim (fun e => by show G q ∈ ([8, 5, 15, 11, 10, 9] : List Nat); rw [e, gb_6]; decide) (fun h => mL (L' := [5, 15, 11, 10, 9]) (L := [8, 5, 15, 11, 10, 9]) (by decide) h)) (fun r_7 _ t H locs ht hvm hwr_7 hB hz hk hS => ?_)
    rw [ht] at hB
    obtain ⟨hT, s_7, hs_7, hi_7⟩ := hB
    have hr0 := hr0.kept (hk _ hr0.lt (fun h => h.elim (ne_G hG gb_6 (by decide)) (nL hG (by decide))))
    have hp9 := hp9.kept (hk _ hp9.lt (fun h => h.elim (ne_G gp9 gb_6 (by decide)) (nL gp9 (by decide))))
    have hZ : ZS E G pb z H := hZ.upd hPB hj_6 (L := [5, 15, 11, 10, 9]) (by decide) (by rw [← hb_6]; exact hk) ⟨_, _, _, (by rw [← hb_6]; exact hs_7), ga_6, gc_6, hi_7.trans hi_6⟩ (fun _ _ _ => Iff.rfl)
    have hzr_7 := s_rng hwr_7
    refine lv_if_eq (tgt := 24) hx hb dX9_tick_18 (by decide) (fun c_8 => ?_) (fun c_8 => ?_)
    · simp only [lt_I, le_I, eq_I, i_0, i_1, i_2, i_3, i_4, i_5, i_6, i_7, i_8, i_10, i_12, i_16, i_20, i_23, i_24, i_31, i_32, i_63, i_64, i_m1] at c_8
      refine lv_iinc (v := 2) (lv' := [(2, .int 2), (1, .int 0), (0, .ref h0)]) hx hb dX9_tick_24 hl (k := 0) rfl (by decide) (by decide) rfl (fun ls hl => ?_)
      refine lv_goto (tgt := 4) hx hb dX9_tick_27 (by decide) ?_
      refine lv_iload_n hx hb dX9_tick_4 rfl (lv_at hl 0 rfl) ?_
      refine lv_iconst (v := 4) hx hb dX9_tick_5 (by decide) ?_
      refine lv_icmp_ge (tgt := 30) hx hb dX9_tick_6 (by decide) (fun c_9 => absurd c_9 (by decide)) (fun c_9 => ?_)
      refine lv_aload_n hx hb dX9_tick_9 rfl (lv_at hl 2 rfl) ?_
      refine va_get (D := DG E) (ci := 9) (v := .ref p9) (C := RX9) (T := TX9) (N := 3) hx hb hts iw_X9 hown hK.1 (va_one hr0) 0 rfl rfl 1 (by decide) (hts _ fl_X9_29) (fun _ h9 => h9) rfl dX9_tick_10 ?_
      refine lv_iload_n hx hb dX9_tick_13 rfl (lv_at hl 0 rfl) ?_
      obtain ⟨j_10, hj_10, ej_10⟩ := vp_in_of (show vp_in (2) 4 from vp_in_iff.mpr ⟨by decide, by decide⟩) (by decide)
      obtain ⟨b_10, eb_10, gb_10⟩ := he9 j_10 hj_10
      have cj_10 : a9 (2 : Int32).toNatClampNeg = some b_10 := by rw [ej_10, nI_clamp (by omega)]; exact eb_10
      refine va_aldq (D := DG E) hx hb hK.1 (va_one hp9) 0 5 rfl rfl (show vp_in (2) 4 from vp_in_iff.mpr ⟨by decide, by decide⟩) dX9_tick_14 ?_
      rw [cj_10]
      refine W.eq (g2 := F0 m 15 ls [.ref b_10]) (by rfl) ?_
      have hb_10 : b_10 = pb j_10 := (Option.some.inj ((hf9 j_10 hj_10).symm.trans eb_10)).symm
      obtain ⟨a_10, c_10, s_10, hat_10, ga_10, gc_10, hi_10⟩ := hZ j_10 hj_10
      rw [← hb_10] at hat_10
      refine va_calli (rnV (fun H => TH E (T1 E) G [] H ∧ va_at (DG E) vwCl (b_10, .inr (3, [.ref a_10, .ref c_10, .int s_10])) H) (As := []) (rest := []) ⟨hx, hb, hml, hown, hts⟩ (s_X3_failsByTime l E z0 G hGz b_10 gb_10 a_10 c_10 s_10 ga_10 gc_10) (cwV 0 hts (gdV ml_X9_162 im_X3_failsByTime se_X3_X3_failsByTime in_X3 co_X3_failsByTime rfl) rfl rfl rfl (by decide +kernel) ⟨Nat.le_of_ble_eq_true rfl, Nat.le_of_ble_eq_true rfl⟩) ⟨hT, hat_10⟩ (fun U hU hW => hK.go hW hS hAz hU) (va_recv hK.1 (va_one hat_10) (ci := 3) (q0 := 0) rfl rfl) rfl rfl hl.1 rfl (lv_room (Nat.le_of_ble_eq_true rfl)) dX9_tick_15 ⟨Nat.le_of_ble_eq_true rfl, Nat.le_of_ble_eq_true rfl⟩) hS (fun q _ h => h.elim (fun e => by show G q ∈ ([8, 5, 15, 11, 10, 9] : List Nat); rw [e, gb_10]; decide) (fun h => mL (L' := [5, 15, 11, 10, 9]) (L := [8, 5, 15, 11, 10, 9]) (by decide) h)) (fun q h => h.elim (fun e => by show G q ∈ ([8, 5, 15, 11, 10, 9] : List Nat); rw [e, gb_10]; decide) (fun h => mL (L' := [5, 15, 11, 10, 9]) (L := [8, 5, 15, 11, 10, 9]) (by decide) h)) (fun r_11 _ t H locs ht hvm hwr_11 hB hz hk hS => ?_)
      rw [ht] at hB
      obtain ⟨hT, s_11, hs_11, hi_11⟩ := hB
      have hr0 := hr0.kept (hk _ hr0.lt (fun h => h.elim (ne_G hG gb_10 (by decide)) (nL hG (by decide))))
      have hp9 := hp9.kept (hk _ hp9.lt (fun h => h.elim (ne_G gp9 gb_10 (by decide)) (nL gp9 (by decide))))
      have hZ : ZS E G pb z H := hZ.upd hPB hj_10 (L := [5, 15, 11, 10, 9]) (by decide) (by rw [← hb_10]; exact hk) ⟨_, _, _, (by rw [← hb_10]; exact hs_11), ga_10, gc_10, hi_11.trans hi_10⟩ (fun _ _ _ => Iff.rfl)
      have hzr_11 := s_rng hwr_11
      refine lv_if_eq (tgt := 24) hx hb dX9_tick_18 (by decide) (fun c_12 => ?_) (fun c_12 => ?_)
      · simp only [lt_I, le_I, eq_I, i_0, i_1, i_2, i_3, i_4, i_5, i_6, i_7, i_8, i_10, i_12, i_16, i_20, i_23, i_24, i_31, i_32, i_63, i_64, i_m1] at c_12
        refine lv_iinc (v := 3) (lv' := [(2, .int 3), (1, .int 0), (0, .ref h0)]) hx hb dX9_tick_24 hl (k := 0) rfl (by decide) (by decide) rfl (fun ls hl => ?_)
        refine lv_goto (tgt := 4) hx hb dX9_tick_27 (by decide) ?_
        refine lv_iload_n hx hb dX9_tick_4 rfl (lv_at hl 0 rfl) ?_
        refine lv_iconst (v := 4) hx hb dX9_tick_5 (by decide) ?_
        refine lv_icmp_ge (tgt := 30) hx hb dX9_tick_6 (by decide) (fun c_13 => absurd c_13 (by decide)) (fun c_13 => ?_)
        refine lv_aload_n hx hb dX9_tick_9 rfl (lv_at hl 2 rfl) ?_
        refine va_get (D := DG E) (ci := 9) (v := .ref p9) (C := RX9) (T := TX9) (N := 3) hx hb hts iw_X9 hown hK.1 (va_one hr0) 0 rfl rfl 1 (by decide) (hts _ fl_X9_29) (fun _ h9 => h9) rfl dX9_tick_10 ?_
        refine lv_iload_n hx hb dX9_tick_13 rfl (lv_at hl 0 rfl) ?_
        obtain ⟨j_14, hj_14, ej_14⟩ := vp_in_of (show vp_in (3) 4 from vp_in_iff.mpr ⟨by decide, by decide⟩) (by decide)
        obtain ⟨b_14, eb_14, gb_14⟩ := he9 j_14 hj_14
        have cj_14 : a9 (3 : Int32).toNatClampNeg = some b_14 := by rw [ej_14, nI_clamp (by omega)]; exact eb_14
        refine va_aldq (D := DG E) hx hb hK.1 (va_one hp9) 0 5 rfl rfl (show vp_in (3) 4 from vp_in_iff.mpr ⟨by decide, by decide⟩) dX9_tick_14 ?_
        rw [cj_14]
        refine W.eq (g2 := F0 m 15 ls [.ref b_14]) (by rfl) ?_
        have hb_14 : b_14 = pb j_14 := (Option.some.inj ((hf9 j_14 hj_14).symm.trans eb_14)).symm
        obtain ⟨a_14, c_14, s_14, hat_14, ga_14, gc_14, hi_14⟩ := hZ j_14 hj_14
        rw [← hb_14] at hat_14
        refine va_calli (rnV (fun H => TH E (T1 E) G [] H ∧ va_at (DG E) vwCl (b_14, .inr (3, [.ref a_14, .ref c_14, .int s_14])) H) (As := []) (rest := []) ⟨hx, hb, hml, hown, hts⟩ (s_X3_failsByTime l E z0 G hGz b_14 gb_14 a_14 c_14 s_14 ga_14 gc_14) (cwV 0 hts (gdV ml_X9_162 im_X3_failsByTime se_X3_X3_failsByTime in_X3 co_X3_failsByTime rfl) rfl rfl rfl (by decide +kernel) ⟨Nat.le_of_ble_eq_true rfl, Nat.le_of_ble_eq_true rfl⟩) ⟨hT, hat_14⟩ (fun U hU hW => hK.go hW hS hAz hU) (va_recv hK.1 (va_one hat_14) (ci := 3) (q0 := 0) rfl rfl) rfl rfl hl.1 rfl (lv_room (Nat.le_of_ble_eq_true rfl)) dX9_tick_15 ⟨Nat.le_of_ble_eq_true rfl, Nat.le_of_ble_eq_true rfl⟩) hS (fun q _ h => h.elim (fun e => by show G q ∈ ([8, 5, 15, 11, 10, 9] : List Nat); rw [e, gb_14]; decide) (fun h => mL (L' := [5, 15, 11, 10, 9]) (L := [8, 5, 15, 11, 10, 9]) (by decide) h)) (fun q h => h.elim (fun e => by show G q ∈ ([8, 5, 15, 11, 10, 9] : List Nat); rw [e, gb_14]; decide) (fun h => mL (L' := [5, 15, 11, 10, 9]) (L := [8, 5, 15, 11, 10, 9]) (by decide) h)) (fun r_15 _ t H locs ht hvm hwr_15 hB hz hk hS => ?_)
        rw [ht] at hB
        obtain ⟨hT, s_15, hs_15, hi_15⟩ := hB
        have hr0 := hr0.kept (hk _ hr0.lt (fun h => h.elim (ne_G hG gb_14 (by decide)) (nL hG (by decide))))
        have hp9 := hp9.kept (hk _ hp9.lt (fun h => h.elim (ne_G gp9 gb_14 (by decide)) (nL gp9 (by decide))))
        have hZ : ZS E G pb z H := hZ.upd hPB hj_14 (L := [5, 15, 11, 10, 9]) (by decide) (by rw [← hb_14]; exact hk) ⟨_, _, _, (by rw [← hb_14]; exact hs_15), ga_14, gc_14, hi_15.trans hi_14⟩ (fun _ _ _ => Iff.rfl)
        have hzr_15 := s_rng hwr_15
        refine lv_if_eq (tgt := 24) hx hb dX9_tick_18 (by decide) (fun c_16 => ?_) (fun c_16 => ?_)
        · simp only [lt_I, le_I, eq_I, i_0, i_1, i_2, i_3, i_4, i_5, i_6, i_7, i_8, i_10, i_12, i_16, i_20, i_23, i_24, i_31, i_32, i_63, i_64, i_m1] at c_16
          refine lv_iinc (v := 4) (lv' := [(2, .int 4), (1, .int 0), (0, .ref h0)]) hx hb dX9_tick_24 hl (k := 0) rfl (by decide) (by decide) rfl (fun ls hl => ?_)
          refine lv_goto (tgt := 4) hx hb dX9_tick_27 (by decide) ?_
          refine lv_iload_n hx hb dX9_tick_4 rfl (lv_at hl 0 rfl) ?_
          refine lv_iconst (v := 4) hx hb dX9_tick_5 (by decide) ?_
          refine lv_icmp_ge (tgt := 30) hx hb dX9_tick_6 (by decide) (fun c_17 => ?_) (fun c_17 => absurd c_17 (by decide))
          refine lv_iload_n hx hb dX9_tick_30 rfl (lv_at hl 1 rfl) ?_
          exact W.iret (v := 0) hx hb hr (fun t ht hW => ⟨⟨0, (), rfl, trivial, (by show TH E (T1 E) G [] t.heap ∧ PA E G h0 pb t.heap ∧ ZS E G pb (z) t.heap; rw [ht]; exact ⟨hT, ⟨_, _, _, _, hr0, gn9, gp9, gf9, hp9, hf9⟩, hZ⟩)⟩, hS.F ht⟩) hS.2.2 dX9_tick_31
        · simp only [lt_I, le_I, eq_I, i_0, i_1, i_2, i_3, i_4, i_5, i_6, i_7, i_8, i_10, i_12, i_16, i_20, i_23, i_24, i_31, i_32, i_63, i_64, i_m1] at c_16
          refine lv_iinc (v := 1) (lv' := [(1, .int 1), (2, .int 3), (0, .ref h0)]) hx hb dX9_tick_21 hl (k := 1) rfl (by decide) (by decide) rfl (fun ls hl => ?_)
          refine lv_iinc (v := 4) (lv' := [(2, .int 4), (1, .int 1), (0, .ref h0)]) hx hb dX9_tick_24 hl (k := 1) rfl (by decide) (by decide) rfl (fun ls hl => ?_)
          refine lv_goto (tgt := 4) hx hb dX9_tick_27 (by decide) ?_
          refine lv_iload_n hx hb dX9_tick_4 rfl (lv_at hl 0 rfl) ?_
          refine lv_iconst (v := 4) hx hb dX9_tick_5 (by decide) ?_
          refine lv_icmp_ge (tgt := 30) hx hb dX9_tick_6 (by decide) (fun c_18 => ?_) (fun c_18 => absurd c_18 (by decide))
          refine lv_iload_n hx hb dX9_tick_30 rfl (lv_at hl 1 rfl) ?_
          exact W.iret (v := 1) hx hb hr (fun t ht hW => ⟨⟨1, (), rfl, trivial, (by show TH E (T1 E) G [] t.heap ∧ PA E G h0 pb t.heap ∧ ZS E G pb (z) t.heap; rw [ht]; exact ⟨hT, ⟨_, _, _, _, hr0, gn9, gp9, gf9, hp9, hf9⟩, hZ⟩)⟩, hS.F ht⟩) hS.2.2 dX9_tick_31
      · simp only [lt_I, le_I, eq_I, i_0, i_1, i_2, i_3, i_4, i_5, i_6, i_7, i_8, i_10, i_12, i_16, i_20, i_23, i_24, i_31, i_32, i_63, i_64, i_m1] at c_12
        refine lv_iinc (v := 1) (lv' := [(1, .int 1), (2, .int 2), (0, .ref h0)]) hx hb dX9_tick_21 hl (k := 1) rfl (by decide) (by decide) rfl (fun ls hl => ?_)
        refine lv_iinc (v := 3) (lv' := [(2, .int 3), (1, .int 1), (0, .ref h0)]) hx hb dX9_tick_24 hl (k := 1) rfl (by decide) (by decide) rfl (fun ls hl => ?_)
        refine lv_goto (tgt := 4) hx hb dX9_tick_27 (by decide) ?_
        refine lv_iload_n hx hb dX9_tick_4 rfl (lv_at hl 0 rfl) ?_
        refine lv_iconst (v := 4) hx hb dX9_tick_5 (by decide) ?_
        refine lv_icmp_ge (tgt := 30) hx hb dX9_tick_6 (by decide) (fun c_19 => absurd c_19 (by decide)) (fun c_19 => ?_)
        refine lv_aload_n hx hb dX9_tick_9 rfl (lv_at hl 2 rfl) ?_
        refine va_get (D := DG E) (ci := 9) (v := .ref p9) (C := RX9) (T := TX9) (N := 3) hx hb hts iw_X9 hown hK.1 (va_one hr0) 0 rfl rfl 1 (by decide) (hts _ fl_X9_29) (fun _ h9 => h9) rfl dX9_tick_10 ?_
        refine lv_iload_n hx hb dX9_tick_13 rfl (lv_at hl 0 rfl) ?_
        obtain ⟨j_20, hj_20, ej_20⟩ := vp_in_of (show vp_in (3) 4 from vp_in_iff.mpr ⟨by decide, by decide⟩) (by decide)
        obtain ⟨b_20, eb_20, gb_20⟩ := he9 j_20 hj_20
        have cj_20 : a9 (3 : Int32).toNatClampNeg = some b_20 := by rw [ej_20, nI_clamp (by omega)]; exact eb_20
        refine va_aldq (D := DG E) hx hb hK.1 (va_one hp9) 0 5 rfl rfl (show vp_in (3) 4 from vp_in_iff.mpr ⟨by decide, by decide⟩) dX9_tick_14 ?_
        rw [cj_20]
        refine W.eq (g2 := F0 m 15 ls [.ref b_20]) (by rfl) ?_
        have hb_20 : b_20 = pb j_20 := (Option.some.inj ((hf9 j_20 hj_20).symm.trans eb_20)).symm
        obtain ⟨a_20, c_20, s_20, hat_20, ga_20, gc_20, hi_20⟩ := hZ j_20 hj_20
        rw [← hb_20] at hat_20
        refine va_calli (rnV (fun H => TH E (T1 E) G [] H ∧ va_at (DG E) vwCl (b_20, .inr (3, [.ref a_20, .ref c_20, .int s_20])) H) (As := []) (rest := []) ⟨hx, hb, hml, hown, hts⟩ (s_X3_failsByTime l E z0 G hGz b_20 gb_20 a_20 c_20 s_20 ga_20 gc_20) (cwV 0 hts (gdV ml_X9_162 im_X3_failsByTime se_X3_X3_failsByTime in_X3 co_X3_failsByTime rfl) rfl rfl rfl (by decide +kernel) ⟨Nat.le_of_ble_eq_true rfl, Nat.le_of_ble_eq_true rfl⟩) ⟨hT, hat_20⟩ (fun U hU hW => hK.go hW hS hAz hU) (va_recv hK.1 (va_one hat_20) (ci := 3) (q0 := 0) rfl rfl) rfl rfl hl.1 rfl (lv_room (Nat.le_of_ble_eq_true rfl)) dX9_tick_15 ⟨Nat.le_of_ble_eq_true rfl, Nat.le_of_ble_eq_true rfl⟩) hS (fun q _ h => h.elim (fun e => by show G q ∈ ([8, 5, 15, 11, 10, 9] : List Nat); rw [e, gb_20]; decide) (fun h => mL (L' := [5, 15, 11, 10, 9]) (L := [8, 5, 15, 11, 10, 9]) (by decide) h)) (fun q h => h.elim (fun e => by show G q ∈ ([8, 5, 15, 11, 10, 9] : List Nat); rw [e, gb_20]; decide) (fun h => mL (L' := [5, 15, 11, 10, 9]) (L := [8, 5, 15, 11, 10, 9]) (by decide) h)) (fun r_21 _ t H locs ht hvm hwr_21 hB hz hk hS => ?_)
        rw [ht] at hB
        obtain ⟨hT, s_21, hs_21, hi_21⟩ := hB
        have hr0 := hr0.kept (hk _ hr0.lt (fun h => h.elim (ne_G hG gb_20 (by decide)) (nL hG (by decide))))
        have hp9 := hp9.kept (hk _ hp9.lt (fun h => h.elim (ne_G gp9 gb_20 (by decide)) (nL gp9 (by decide))))
        have hZ : ZS E G pb z H := hZ.upd hPB hj_20 (L := [5, 15, 11, 10, 9]) (by decide) (by rw [← hb_20]; exact hk) ⟨_, _, _, (by rw [← hb_20]; exact hs_21), ga_20, gc_20, hi_21.trans hi_20⟩ (fun _ _ _ => Iff.rfl)
        have hzr_21 := s_rng hwr_21
        refine lv_if_eq (tgt := 24) hx hb dX9_tick_18 (by decide) (fun c_22 => ?_) (fun c_22 => ?_)
        · simp only [lt_I, le_I, eq_I, i_0, i_1, i_2, i_3, i_4, i_5, i_6, i_7, i_8, i_10, i_12, i_16, i_20, i_23, i_24, i_31, i_32, i_63, i_64, i_m1] at c_22
          refine lv_iinc (v := 4) (lv' := [(2, .int 4), (1, .int 1), (0, .ref h0)]) hx hb dX9_tick_24 hl (k := 0) rfl (by decide) (by decide) rfl (fun ls hl => ?_)
          refine lv_goto (tgt := 4) hx hb dX9_tick_27 (by decide) ?_
          refine lv_iload_n hx hb dX9_tick_4 rfl (lv_at hl 0 rfl) ?_
          refine lv_iconst (v := 4) hx hb dX9_tick_5 (by decide) ?_
          refine lv_icmp_ge (tgt := 30) hx hb dX9_tick_6 (by decide) (fun c_23 => ?_) (fun c_23 => absurd c_23 (by decide))
          refine lv_iload_n hx hb dX9_tick_30 rfl (lv_at hl 1 rfl) ?_
          exact W.iret (v := 1) hx hb hr (fun t ht hW => ⟨⟨1, (), rfl, trivial, (by show TH E (T1 E) G [] t.heap ∧ PA E G h0 pb t.heap ∧ ZS E G pb (z) t.heap; rw [ht]; exact ⟨hT, ⟨_, _, _, _, hr0, gn9, gp9, gf9, hp9, hf9⟩, hZ⟩)⟩, hS.F ht⟩) hS.2.2 dX9_tick_31
        · simp only [lt_I, le_I, eq_I, i_0, i_1, i_2, i_3, i_4, i_5, i_6, i_7, i_8, i_10, i_12, i_16, i_20, i_23, i_24, i_31, i_32, i_63, i_64, i_m1] at c_22
          refine lv_iinc (v := 2) (lv' := [(1, .int 2), (2, .int 3), (0, .ref h0)]) hx hb dX9_tick_21 hl (k := 1) rfl (by decide) (by decide) rfl (fun ls hl => ?_)
          refine lv_iinc (v := 4) (lv' := [(2, .int 4), (1, .int 2), (0, .ref h0)]) hx hb dX9_tick_24 hl (k := 1) rfl (by decide) (by decide) rfl (fun ls hl => ?_)
          refine lv_goto (tgt := 4) hx hb dX9_tick_27 (by decide) ?_
          refine lv_iload_n hx hb dX9_tick_4 rfl (lv_at hl 0 rfl) ?_
          refine lv_iconst (v := 4) hx hb dX9_tick_5 (by decide) ?_
          refine lv_icmp_ge (tgt := 30) hx hb dX9_tick_6 (by decide) (fun c_24 => ?_) (fun c_24 => absurd c_24 (by decide))
          refine lv_iload_n hx hb dX9_tick_30 rfl (lv_at hl 1 rfl) ?_
          exact W.iret (v := 2) hx hb hr (fun t ht hW => ⟨⟨2, (), rfl, trivial, (by show TH E (T1 E) G [] t.heap ∧ PA E G h0 pb t.heap ∧ ZS E G pb (z) t.heap; rw [ht]; exact ⟨hT, ⟨_, _, _, _, hr0, gn9, gp9, gf9, hp9, hf9⟩, hZ⟩)⟩, hS.F ht⟩) hS.2.2 dX9_tick_31
    · simp only [lt_I, le_I, eq_I, i_0, i_1, i_2, i_3, i_4, i_5, i_6, i_7, i_8, i_10, i_12, i_16, i_20, i_23, i_24, i_31, i_32, i_63, i_64, i_m1] at c_8
      refine lv_iinc (v := 1) (lv' := [(1, .int 1), (2, .int 1), (0, .ref h0)]) hx hb dX9_tick_21 hl (k := 1) rfl (by decide) (by decide) rfl (fun ls hl => ?_)
      refine lv_iinc (v := 2) (lv' := [(2, .int 2), (1, .int 1), (0, .ref h0)]) hx hb dX9_tick_24 hl (k := 1) rfl (by decide) (by decide) rfl (fun ls hl => ?_)
      refine lv_goto (tgt := 4) hx hb dX9_tick_27 (by decide) ?_
      refine lv_iload_n hx hb dX9_tick_4 rfl (lv_at hl 0 rfl) ?_
      refine lv_iconst (v := 4) hx hb dX9_tick_5 (by decide) ?_
      refine lv_icmp_ge (tgt := 30) hx hb dX9_tick_6 (by decide) (fun c_25 => absurd c_25 (by decide)) (fun c_25 => ?_)
      refine lv_aload_n hx hb dX9_tick_9 rfl (lv_at hl 2 rfl) ?_
      refine va_get (D := DG E) (ci := 9) (v := .ref p9) (C := RX9) (T := TX9) (N := 3) hx hb hts iw_X9 hown hK.1 (va_one hr0) 0 rfl rfl 1 (by decide) (hts _ fl_X9_29) (fun _ h9 => h9) rfl dX9_tick_10 ?_
      refine lv_iload_n hx hb dX9_tick_13 rfl (lv_at hl 0 rfl) ?_
      obtain ⟨j_26, hj_26, ej_26⟩ := vp_in_of (show vp_in (2) 4 from vp_in_iff.mpr ⟨by decide, by decide⟩) (by decide)
      obtain ⟨b_26, eb_26, gb_26⟩ := he9 j_26 hj_26
      have cj_26 : a9 (2 : Int32).toNatClampNeg = some b_26 := by rw [ej_26, nI_clamp (by omega)]; exact eb_26
      refine va_aldq (D := DG E) hx hb hK.1 (va_one hp9) 0 5 rfl rfl (show vp_in (2) 4 from vp_in_iff.mpr ⟨by decide, by decide⟩) dX9_tick_14 ?_
      rw [cj_26]
      refine W.eq (g2 := F0 m 15 ls [.ref b_26]) (by rfl) ?_
      have hb_26 : b_26 = pb j_26 := (Option.some.inj ((hf9 j_26 hj_26).symm.trans eb_26)).symm
      obtain ⟨a_26, c_26, s_26, hat_26, ga_26, gc_26, hi_26⟩ := hZ j_26 hj_26
      rw [← hb_26] at hat_26
      refine va_calli (rnV (fun H => TH E (T1 E) G [] H ∧ va_at (DG E) vwCl (b_26, .inr (3, [.ref a_26, .ref c_26, .int s_26])) H) (As := []) (rest := []) ⟨hx, hb, hml, hown, hts⟩ (s_X3_failsByTime l E z0 G hGz b_26 gb_26 a_26 c_26 s_26 ga_26 gc_26) (cwV 0 hts (gdV ml_X9_162 im_X3_failsByTime se_X3_X3_failsByTime in_X3 co_X3_failsByTime rfl) rfl rfl rfl (by decide +kernel) ⟨Nat.le_of_ble_eq_true rfl, Nat.le_of_ble_eq_true rfl⟩) ⟨hT, hat_26⟩ (fun U hU hW => hK.go hW hS hAz hU) (va_recv hK.1 (va_one hat_26) (ci := 3) (q0 := 0) rfl rfl) rfl rfl hl.1 rfl (lv_room (Nat.le_of_ble_eq_true rfl)) dX9_tick_15 ⟨Nat.le_of_ble_eq_true rfl, Nat.le_of_ble_eq_true rfl⟩) hS (fun q _ h => h.elim (fun e => by show G q ∈ ([8, 5, 15, 11, 10, 9] : List Nat); rw [e, gb_26]; decide) (fun h => mL (L' := [5, 15, 11, 10, 9]) (L := [8, 5, 15, 11, 10, 9]) (by decide) h)) (fun q h => h.elim (fun e => by show G q ∈ ([8, 5, 15, 11, 10, 9] : List Nat); rw [e, gb_26]; decide) (fun h => mL (L' := [5, 15, 11, 10, 9]) (L := [8, 5, 15, 11, 10, 9]) (by decide) h)) (fun r_27 _ t H locs ht hvm hwr_27 hB hz hk hS => ?_)
      rw [ht] at hB
      obtain ⟨hT, s_27, hs_27, hi_27⟩ := hB
      have hr0 := hr0.kept (hk _ hr0.lt (fun h => h.elim (ne_G hG gb_26 (by decide)) (nL hG (by decide))))
      have hp9 := hp9.kept (hk _ hp9.lt (fun h => h.elim (ne_G gp9 gb_26 (by decide)) (nL gp9 (by decide))))
      have hZ : ZS E G pb z H := hZ.upd hPB hj_26 (L := [5, 15, 11, 10, 9]) (by decide) (by rw [← hb_26]; exact hk) ⟨_, _, _, (by rw [← hb_26]; exact hs_27), ga_26, gc_26, hi_27.trans hi_26⟩ (fun _ _ _ => Iff.rfl)
      have hzr_27 := s_rng hwr_27
      refine lv_if_eq (tgt := 24) hx hb dX9_tick_18 (by decide) (fun c_28 => ?_) (fun c_28 => ?_)
      · simp only [lt_I, le_I, eq_I, i_0, i_1, i_2, i_3, i_4, i_5, i_6, i_7, i_8, i_10, i_12, i_16, i_20, i_23, i_24, i_31, i_32, i_63, i_64, i_m1] at c_28
        refine lv_iinc (v := 3) (lv' := [(2, .int 3), (1, .int 1), (0, .ref h0)]) hx hb dX9_tick_24 hl (k := 0) rfl (by decide) (by decide) rfl (fun ls hl => ?_)
        refine lv_goto (tgt := 4) hx hb dX9_tick_27 (by decide) ?_
        refine lv_iload_n hx hb dX9_tick_4 rfl (lv_at hl 0 rfl) ?_
        refine lv_iconst (v := 4) hx hb dX9_tick_5 (by decide) ?_
        refine lv_icmp_ge (tgt := 30) hx hb dX9_tick_6 (by decide) (fun c_29 => absurd c_29 (by decide)) (fun c_29 => ?_)
        refine lv_aload_n hx hb dX9_tick_9 rfl (lv_at hl 2 rfl) ?_
        refine va_get (D := DG E) (ci := 9) (v := .ref p9) (C := RX9) (T := TX9) (N := 3) hx hb hts iw_X9 hown hK.1 (va_one hr0) 0 rfl rfl 1 (by decide) (hts _ fl_X9_29) (fun _ h9 => h9) rfl dX9_tick_10 ?_
        refine lv_iload_n hx hb dX9_tick_13 rfl (lv_at hl 0 rfl) ?_
        obtain ⟨j_30, hj_30, ej_30⟩ := vp_in_of (show vp_in (3) 4 from vp_in_iff.mpr ⟨by decide, by decide⟩) (by decide)
        obtain ⟨b_30, eb_30, gb_30⟩ := he9 j_30 hj_30
        have cj_30 : a9 (3 : Int32).toNatClampNeg = some b_30 := by rw [ej_30, nI_clamp (by omega)]; exact eb_30
        refine va_aldq (D := DG E) hx hb hK.1 (va_one hp9) 0 5 rfl rfl (show vp_in (3) 4 from vp_in_iff.mpr ⟨by decide, by decide⟩) dX9_tick_14 ?_
        rw [cj_30]
        refine W.eq (g2 := F0 m 15 ls [.ref b_30]) (by rfl) ?_
        have hb_30 : b_30 = pb j_30 := (Option.some.inj ((hf9 j_30 hj_30).symm.trans eb_30)).symm
        obtain ⟨a_30, c_30, s_30, hat_30, ga_30, gc_30, hi_30⟩ := hZ j_30 hj_30
        rw [← hb_30] at hat_30
        refine va_calli (rnV (fun H => TH E (T1 E) G [] H ∧ va_at (DG E) vwCl (b_30, .inr (3, [.ref a_30, .ref c_30, .int s_30])) H) (As := []) (rest := []) ⟨hx, hb, hml, hown, hts⟩ (s_X3_failsByTime l E z0 G hGz b_30 gb_30 a_30 c_30 s_30 ga_30 gc_30) (cwV 0 hts (gdV ml_X9_162 im_X3_failsByTime se_X3_X3_failsByTime in_X3 co_X3_failsByTime rfl) rfl rfl rfl (by decide +kernel) ⟨Nat.le_of_ble_eq_true rfl, Nat.le_of_ble_eq_true rfl⟩) ⟨hT, hat_30⟩ (fun U hU hW => hK.go hW hS hAz hU) (va_recv hK.1 (va_one hat_30) (ci := 3) (q0 := 0) rfl rfl) rfl rfl hl.1 rfl (lv_room (Nat.le_of_ble_eq_true rfl)) dX9_tick_15 ⟨Nat.le_of_ble_eq_true rfl, Nat.le_of_ble_eq_true rfl⟩) hS (fun q _ h => h.elim (fun e => by show G q ∈ ([8, 5, 15, 11, 10, 9] : List Nat); rw [e, gb_30]; decide) (fun h => mL (L' := [5, 15, 11, 10, 9]) (L := [8, 5, 15, 11, 10, 9]) (by decide) h)) (fun q h => h.elim (fun e => by show G q ∈ ([8, 5, 15, 11, 10, 9] : List Nat); rw [e, gb_30]; decide) (fun h => mL (L' := [5, 15, 11, 10, 9]) (L := [8, 5, 15, 11, 10, 9]) (by decide) h)) (fun r_31 _ t H locs ht hvm hwr_31 hB hz hk hS => ?_)
        rw [ht] at hB
        obtain ⟨hT, s_31, hs_31, hi_31⟩ := hB
        have hr0 := hr0.kept (hk _ hr0.lt (fun h => h.elim (ne_G hG gb_30 (by decide)) (nL hG (by decide))))
        have hp9 := hp9.kept (hk _ hp9.lt (fun h => h.elim (ne_G gp9 gb_30 (by decide)) (nL gp9 (by decide))))
        have hZ : ZS E G pb z H := hZ.upd hPB hj_30 (L := [5, 15, 11, 10, 9]) (by decide) (by rw [← hb_30]; exact hk) ⟨_, _, _, (by rw [← hb_30]; exact hs_31), ga_30, gc_30, hi_31.trans hi_30⟩ (fun _ _ _ => Iff.rfl)
        have hzr_31 := s_rng hwr_31
        refine lv_if_eq (tgt := 24) hx hb dX9_tick_18 (by decide) (fun c_32 => ?_) (fun c_32 => ?_)
        · simp only [lt_I, le_I, eq_I, i_0, i_1, i_2, i_3, i_4, i_5, i_6, i_7, i_8, i_10, i_12, i_16, i_20, i_23, i_24, i_31, i_32, i_63, i_64, i_m1] at c_32
          refine lv_iinc (v := 4) (lv' := [(2, .int 4), (1, .int 1), (0, .ref h0)]) hx hb dX9_tick_24 hl (k := 0) rfl (by decide) (by decide) rfl (fun ls hl => ?_)
          refine lv_goto (tgt := 4) hx hb dX9_tick_27 (by decide) ?_
          refine lv_iload_n hx hb dX9_tick_4 rfl (lv_at hl 0 rfl) ?_
          refine lv_iconst (v := 4) hx hb dX9_tick_5 (by decide) ?_
          refine lv_icmp_ge (tgt := 30) hx hb dX9_tick_6 (by decide) (fun c_33 => ?_) (fun c_33 => absurd c_33 (by decide))
          refine lv_iload_n hx hb dX9_tick_30 rfl (lv_at hl 1 rfl) ?_
          exact W.iret (v := 1) hx hb hr (fun t ht hW => ⟨⟨1, (), rfl, trivial, (by show TH E (T1 E) G [] t.heap ∧ PA E G h0 pb t.heap ∧ ZS E G pb (z) t.heap; rw [ht]; exact ⟨hT, ⟨_, _, _, _, hr0, gn9, gp9, gf9, hp9, hf9⟩, hZ⟩)⟩, hS.F ht⟩) hS.2.2 dX9_tick_31
        · simp only [lt_I, le_I, eq_I, i_0, i_1, i_2, i_3, i_4, i_5, i_6, i_7, i_8, i_10, i_12, i_16, i_20, i_23, i_24, i_31, i_32, i_63, i_64, i_m1] at c_32
          refine lv_iinc (v := 2) (lv' := [(1, .int 2), (2, .int 3), (0, .ref h0)]) hx hb dX9_tick_21 hl (k := 1) rfl (by decide) (by decide) rfl (fun ls hl => ?_)
          refine lv_iinc (v := 4) (lv' := [(2, .int 4), (1, .int 2), (0, .ref h0)]) hx hb dX9_tick_24 hl (k := 1) rfl (by decide) (by decide) rfl (fun ls hl => ?_)
          refine lv_goto (tgt := 4) hx hb dX9_tick_27 (by decide) ?_
          refine lv_iload_n hx hb dX9_tick_4 rfl (lv_at hl 0 rfl) ?_
          refine lv_iconst (v := 4) hx hb dX9_tick_5 (by decide) ?_
          refine lv_icmp_ge (tgt := 30) hx hb dX9_tick_6 (by decide) (fun c_34 => ?_) (fun c_34 => absurd c_34 (by decide))
          refine lv_iload_n hx hb dX9_tick_30 rfl (lv_at hl 1 rfl) ?_
          exact W.iret (v := 2) hx hb hr (fun t ht hW => ⟨⟨2, (), rfl, trivial, (by show TH E (T1 E) G [] t.heap ∧ PA E G h0 pb t.heap ∧ ZS E G pb (z) t.heap; rw [ht]; exact ⟨hT, ⟨_, _, _, _, hr0, gn9, gp9, gf9, hp9, hf9⟩, hZ⟩)⟩, hS.F ht⟩) hS.2.2 dX9_tick_31
      · simp only [lt_I, le_I, eq_I, i_0, i_1, i_2, i_3, i_4, i_5, i_6, i_7, i_8, i_10, i_12, i_16, i_20, i_23, i_24, i_31, i_32, i_63, i_64, i_m1] at c_28
        refine lv_iinc (v := 2) (lv' := [(1, .int 2), (2, .int 2), (0, .ref h0)]) hx hb dX9_tick_21 hl (k := 1) rfl (by decide) (by decide) rfl (fun ls hl => ?_)
        refine lv_iinc (v := 3) (lv' := [(2, .int 3), (1, .int 2), (0, .ref h0)]) hx hb dX9_tick_24 hl (k := 1) rfl (by decide) (by decide) rfl (fun ls hl => ?_)
        refine lv_goto (tgt := 4) hx hb dX9_tick_27 (by decide) ?_
        refine lv_iload_n hx hb dX9_tick_4 rfl (lv_at hl 0 rfl) ?_
        refine lv_iconst (v := 4) hx hb dX9_tick_5 (by decide) ?_
        refine lv_icmp_ge (tgt := 30) hx hb dX9_tick_6 (by decide) (fun c_35 => absurd c_35 (by decide)) (fun c_35 => ?_)
        refine lv_aload_n hx hb dX9_tick_9 rfl (lv_at hl 2 rfl) ?_
        refine va_get (D := DG E) (ci := 9) (v := .ref p9) (C := RX9) (T := TX9) (N := 3) hx hb hts iw_X9 hown hK.1 (va_one hr0) 0 rfl rfl 1 (by decide) (hts _ fl_X9_29) (fun _ h9 => h9) rfl dX9_tick_10 ?_
        refine lv_iload_n hx hb dX9_tick_13 rfl (lv_at hl 0 rfl) ?_
        obtain ⟨j_36, hj_36, ej_36⟩ := vp_in_of (show vp_in (3) 4 from vp_in_iff.mpr ⟨by decide, by decide⟩) (by decide)
        obtain ⟨b_36, eb_36, gb_36⟩ := he9 j_36 hj_36
        have cj_36 : a9 (3 : Int32).toNatClampNeg = some b_36 := by rw [ej_36, nI_clamp (by omega)]; exact eb_36
        refine va_aldq (D := DG E) hx hb hK.1 (va_one hp9) 0 5 rfl rfl (show vp_in (3) 4 from vp_in_iff.mpr ⟨by decide, by decide⟩) dX9_tick_14 ?_
        rw [cj_36]
        refine W.eq (g2 := F0 m 15 ls [.ref b_36]) (by rfl) ?_
        have hb_36 : b_36 = pb j_36 := (Option.some.inj ((hf9 j_36 hj_36).symm.trans eb_36)).symm
        obtain ⟨a_36, c_36, s_36, hat_36, ga_36, gc_36, hi_36⟩ := hZ j_36 hj_36
        rw [← hb_36] at hat_36
        refine va_calli (rnV (fun H => TH E (T1 E) G [] H ∧ va_at (DG E) vwCl (b_36, .inr (3, [.ref a_36, .ref c_36, .int s_36])) H) (As := []) (rest := []) ⟨hx, hb, hml, hown, hts⟩ (s_X3_failsByTime l E z0 G hGz b_36 gb_36 a_36 c_36 s_36 ga_36 gc_36) (cwV 0 hts (gdV ml_X9_162 im_X3_failsByTime se_X3_X3_failsByTime in_X3 co_X3_failsByTime rfl) rfl rfl rfl (by decide +kernel) ⟨Nat.le_of_ble_eq_true rfl, Nat.le_of_ble_eq_true rfl⟩) ⟨hT, hat_36⟩ (fun U hU hW => hK.go hW hS hAz hU) (va_recv hK.1 (va_one hat_36) (ci := 3) (q0 := 0) rfl rfl) rfl rfl hl.1 rfl (lv_room (Nat.le_of_ble_eq_true rfl)) dX9_tick_15 ⟨Nat.le_of_ble_eq_true rfl, Nat.le_of_ble_eq_true rfl⟩) hS (fun q _ h => h.elim (fun e => by show G q ∈ ([8, 5, 15, 11, 10, 9] : List Nat); rw [e, gb_36]; decide) (fun h => mL (L' := [5, 15, 11, 10, 9]) (L := [8, 5, 15, 11, 10, 9]) (by decide) h)) (fun q h => h.elim (fun e => by show G q ∈ ([8, 5, 15, 11, 10, 9] : List Nat); rw [e, gb_36]; decide) (fun h => mL (L' := [5, 15, 11, 10, 9]) (L := [8, 5, 15, 11, 10, 9]) (by decide) h)) (fun r_37 _ t H locs ht hvm hwr_37 hB hz hk hS => ?_)
        rw [ht] at hB
        obtain ⟨hT, s_37, hs_37, hi_37⟩ := hB
        have hr0 := hr0.kept (hk _ hr0.lt (fun h => h.elim (ne_G hG gb_36 (by decide)) (nL hG (by decide))))
        have hp9 := hp9.kept (hk _ hp9.lt (fun h => h.elim (ne_G gp9 gb_36 (by decide)) (nL gp9 (by decide))))
        have hZ : ZS E G pb z H := hZ.upd hPB hj_36 (L := [5, 15, 11, 10, 9]) (by decide) (by rw [← hb_36]; exact hk) ⟨_, _, _, (by rw [← hb_36]; exact hs_37), ga_36, gc_36, hi_37.trans hi_36⟩ (fun _ _ _ => Iff.rfl)
        have hzr_37 := s_rng hwr_37
        refine lv_if_eq (tgt := 24) hx hb dX9_tick_18 (by decide) (fun c_38 => ?_) (fun c_38 => ?_)
        · simp only [lt_I, le_I, eq_I, i_0, i_1, i_2, i_3, i_4, i_5, i_6, i_7, i_8, i_10, i_12, i_16, i_20, i_23, i_24, i_31, i_32, i_63, i_64, i_m1] at c_38
          refine lv_iinc (v := 4) (lv' := [(2, .int 4), (1, .int 2), (0, .ref h0)]) hx hb dX9_tick_24 hl (k := 0) rfl (by decide) (by decide) rfl (fun ls hl => ?_)
          refine lv_goto (tgt := 4) hx hb dX9_tick_27 (by decide) ?_
          refine lv_iload_n hx hb dX9_tick_4 rfl (lv_at hl 0 rfl) ?_
          refine lv_iconst (v := 4) hx hb dX9_tick_5 (by decide) ?_
          refine lv_icmp_ge (tgt := 30) hx hb dX9_tick_6 (by decide) (fun c_39 => ?_) (fun c_39 => absurd c_39 (by decide))
          refine lv_iload_n hx hb dX9_tick_30 rfl (lv_at hl 1 rfl) ?_
          exact W.iret (v := 2) hx hb hr (fun t ht hW => ⟨⟨2, (), rfl, trivial, (by show TH E (T1 E) G [] t.heap ∧ PA E G h0 pb t.heap ∧ ZS E G pb (z) t.heap; rw [ht]; exact ⟨hT, ⟨_, _, _, _, hr0, gn9, gp9, gf9, hp9, hf9⟩, hZ⟩)⟩, hS.F ht⟩) hS.2.2 dX9_tick_31
        · simp only [lt_I, le_I, eq_I, i_0, i_1, i_2, i_3, i_4, i_5, i_6, i_7, i_8, i_10, i_12, i_16, i_20, i_23, i_24, i_31, i_32, i_63, i_64, i_m1] at c_38
          refine lv_iinc (v := 3) (lv' := [(1, .int 3), (2, .int 3), (0, .ref h0)]) hx hb dX9_tick_21 hl (k := 1) rfl (by decide) (by decide) rfl (fun ls hl => ?_)
          refine lv_iinc (v := 4) (lv' := [(2, .int 4), (1, .int 3), (0, .ref h0)]) hx hb dX9_tick_24 hl (k := 1) rfl (by decide) (by decide) rfl (fun ls hl => ?_)
          refine lv_goto (tgt := 4) hx hb dX9_tick_27 (by decide) ?_
          refine lv_iload_n hx hb dX9_tick_4 rfl (lv_at hl 0 rfl) ?_
          refine lv_iconst (v := 4) hx hb dX9_tick_5 (by decide) ?_
          refine lv_icmp_ge (tgt := 30) hx hb dX9_tick_6 (by decide) (fun c_40 => ?_) (fun c_40 => absurd c_40 (by decide))
          refine lv_iload_n hx hb dX9_tick_30 rfl (lv_at hl 1 rfl) ?_
          exact W.iret (v := 3) hx hb hr (fun t ht hW => ⟨⟨3, (), rfl, trivial, (by show TH E (T1 E) G [] t.heap ∧ PA E G h0 pb t.heap ∧ ZS E G pb (z) t.heap; rw [ht]; exact ⟨hT, ⟨_, _, _, _, hr0, gn9, gp9, gf9, hp9, hf9⟩, hZ⟩)⟩, hS.F ht⟩) hS.2.2 dX9_tick_31
  · simp only [lt_I, le_I, eq_I, i_0, i_1, i_2, i_3, i_4, i_5, i_6, i_7, i_8, i_10, i_12, i_16, i_20, i_23, i_24, i_31, i_32, i_63, i_64, i_m1] at c_4
    refine lv_iinc (v := 1) (lv' := [(1, .int 1), (2, .int 0), (0, .ref h0)]) hx hb dX9_tick_21 hl (k := 1) rfl (by decide) (by decide) rfl (fun ls hl => ?_)
    refine lv_iinc (v := 1) (lv' := [(2, .int 1), (1, .int 1), (0, .ref h0)]) hx hb dX9_tick_24 hl (k := 1) rfl (by decide) (by decide) rfl (fun ls hl => ?_)
    refine lv_goto (tgt := 4) hx hb dX9_tick_27 (by decide) ?_
    refine lv_iload_n hx hb dX9_tick_4 rfl (lv_at hl 0 rfl) ?_
    refine lv_iconst (v := 4) hx hb dX9_tick_5 (by decide) ?_
    refine lv_icmp_ge (tgt := 30) hx hb dX9_tick_6 (by decide) (fun c_41 => absurd c_41 (by decide)) (fun c_41 => ?_)
    refine lv_aload_n hx hb dX9_tick_9 rfl (lv_at hl 2 rfl) ?_
    refine va_get (D := DG E) (ci := 9) (v := .ref p9) (C := RX9) (T := TX9) (N := 3) hx hb hts iw_X9 hown hK.1 (va_one hr0) 0 rfl rfl 1 (by decide) (hts _ fl_X9_29) (fun _ h9 => h9) rfl dX9_tick_10 ?_
    refine lv_iload_n hx hb dX9_tick_13 rfl (lv_at hl 0 rfl) ?_
    obtain ⟨j_42, hj_42, ej_42⟩ := vp_in_of (show vp_in (1) 4 from vp_in_iff.mpr ⟨by decide, by decide⟩) (by decide)
    obtain ⟨b_42, eb_42, gb_42⟩ := he9 j_42 hj_42
    have cj_42 : a9 (1 : Int32).toNatClampNeg = some b_42 := by rw [ej_42, nI_clamp (by omega)]; exact eb_42
    refine va_aldq (D := DG E) hx hb hK.1 (va_one hp9) 0 5 rfl rfl (show vp_in (1) 4 from vp_in_iff.mpr ⟨by decide, by decide⟩) dX9_tick_14 ?_
    rw [cj_42]
    refine W.eq (g2 := F0 m 15 ls [.ref b_42]) (by rfl) ?_
    have hb_42 : b_42 = pb j_42 := (Option.some.inj ((hf9 j_42 hj_42).symm.trans eb_42)).symm
    obtain ⟨a_42, c_42, s_42, hat_42, ga_42, gc_42, hi_42⟩ := hZ j_42 hj_42
    rw [← hb_42] at hat_42
    refine va_calli (rnV (fun H => TH E (T1 E) G [] H ∧ va_at (DG E) vwCl (b_42, .inr (3, [.ref a_42, .ref c_42, .int s_42])) H) (As := []) (rest := []) ⟨hx, hb, hml, hown, hts⟩ (s_X3_failsByTime l E z0 G hGz b_42 gb_42 a_42 c_42 s_42 ga_42 gc_42) (cwV 0 hts (gdV ml_X9_162 im_X3_failsByTime se_X3_X3_failsByTime in_X3 co_X3_failsByTime rfl) rfl rfl rfl (by decide +kernel) ⟨Nat.le_of_ble_eq_true rfl, Nat.le_of_ble_eq_true rfl⟩) ⟨hT, hat_42⟩ (fun U hU hW => hK.go hW hS hAz hU) (va_recv hK.1 (va_one hat_42) (ci := 3) (q0 := 0) rfl rfl) rfl rfl hl.1 rfl (lv_room (Nat.le_of_ble_eq_true rfl)) dX9_tick_15 ⟨Nat.le_of_ble_eq_true rfl, Nat.le_of_ble_eq_true rfl⟩) hS (fun q _ h => h.elim (fun e => by show G q ∈ ([8, 5, 15, 11, 10, 9] : List Nat); rw [e, gb_42]; decide) (fun h => mL (L' := [5, 15, 11, 10, 9]) (L := [8, 5, 15, 11, 10, 9]) (by decide) h)) (fun q h => h.elim (fun e => by show G q ∈ ([8, 5, 15, 11, 10, 9] : List Nat); rw [e, gb_42]; decide) (fun h => mL (L' := [5, 15, 11, 10, 9]) (L := [8, 5, 15, 11, 10, 9]) (by decide) h)) (fun r_43 _ t H locs ht hvm hwr_43 hB hz hk hS => ?_)
    rw [ht] at hB
    obtain ⟨hT, s_43, hs_43, hi_43⟩ := hB
    have hr0 := hr0.kept (hk _ hr0.lt (fun h => h.elim (ne_G hG gb_42 (by decide)) (nL hG (by decide))))
    have hp9 := hp9.kept (hk _ hp9.lt (fun h => h.elim (ne_G gp9 gb_42 (by decide)) (nL gp9 (by decide))))
    have hZ : ZS E G pb z H := hZ.upd hPB hj_42 (L := [5, 15, 11, 10, 9]) (by decide) (by rw [← hb_42]; exact hk) ⟨_, _, _, (by rw [← hb_42]; exact hs_43), ga_42, gc_42, hi_43.trans hi_42⟩ (fun _ _ _ => Iff.rfl)
    have hzr_43 := s_rng hwr_43
    refine lv_if_eq (tgt := 24) hx hb dX9_tick_18 (by decide) (fun c_44 => ?_) (fun c_44 => ?_)
    · simp only [lt_I, le_I, eq_I, i_0, i_1, i_2, i_3, i_4, i_5, i_6, i_7, i_8, i_10, i_12, i_16, i_20, i_23, i_24, i_31, i_32, i_63, i_64, i_m1] at c_44
      refine lv_iinc (v := 2) (lv' := [(2, .int 2), (1, .int 1), (0, .ref h0)]) hx hb dX9_tick_24 hl (k := 0) rfl (by decide) (by decide) rfl (fun ls hl => ?_)
      refine lv_goto (tgt := 4) hx hb dX9_tick_27 (by decide) ?_
      refine lv_iload_n hx hb dX9_tick_4 rfl (lv_at hl 0 rfl) ?_
      refine lv_iconst (v := 4) hx hb dX9_tick_5 (by decide) ?_
      refine lv_icmp_ge (tgt := 30) hx hb dX9_tick_6 (by decide) (fun c_45 => absurd c_45 (by decide)) (fun c_45 => ?_)
      refine lv_aload_n hx hb dX9_tick_9 rfl (lv_at hl 2 rfl) ?_
      refine va_get (D := DG E) (ci := 9) (v := .ref p9) (C := RX9) (T := TX9) (N := 3) hx hb hts iw_X9 hown hK.1 (va_one hr0) 0 rfl rfl 1 (by decide) (hts _ fl_X9_29) (fun _ h9 => h9) rfl dX9_tick_10 ?_
      refine lv_iload_n hx hb dX9_tick_13 rfl (lv_at hl 0 rfl) ?_
      obtain ⟨j_46, hj_46, ej_46⟩ := vp_in_of (show vp_in (2) 4 from vp_in_iff.mpr ⟨by decide, by decide⟩) (by decide)
      obtain ⟨b_46, eb_46, gb_46⟩ := he9 j_46 hj_46
      have cj_46 : a9 (2 : Int32).toNatClampNeg = some b_46 := by rw [ej_46, nI_clamp (by omega)]; exact eb_46
      refine va_aldq (D := DG E) hx hb hK.1 (va_one hp9) 0 5 rfl rfl (show vp_in (2) 4 from vp_in_iff.mpr ⟨by decide, by decide⟩) dX9_tick_14 ?_
      rw [cj_46]
      refine W.eq (g2 := F0 m 15 ls [.ref b_46]) (by rfl) ?_
      have hb_46 : b_46 = pb j_46 := (Option.some.inj ((hf9 j_46 hj_46).symm.trans eb_46)).symm
      obtain ⟨a_46, c_46, s_46, hat_46, ga_46, gc_46, hi_46⟩ := hZ j_46 hj_46
      rw [← hb_46] at hat_46
      refine va_calli (rnV (fun H => TH E (T1 E) G [] H ∧ va_at (DG E) vwCl (b_46, .inr (3, [.ref a_46, .ref c_46, .int s_46])) H) (As := []) (rest := []) ⟨hx, hb, hml, hown, hts⟩ (s_X3_failsByTime l E z0 G hGz b_46 gb_46 a_46 c_46 s_46 ga_46 gc_46) (cwV 0 hts (gdV ml_X9_162 im_X3_failsByTime se_X3_X3_failsByTime in_X3 co_X3_failsByTime rfl) rfl rfl rfl (by decide +kernel) ⟨Nat.le_of_ble_eq_true rfl, Nat.le_of_ble_eq_true rfl⟩) ⟨hT, hat_46⟩ (fun U hU hW => hK.go hW hS hAz hU) (va_recv hK.1 (va_one hat_46) (ci := 3) (q0 := 0) rfl rfl) rfl rfl hl.1 rfl (lv_room (Nat.le_of_ble_eq_true rfl)) dX9_tick_15 ⟨Nat.le_of_ble_eq_true rfl, Nat.le_of_ble_eq_true rfl⟩) hS (fun q _ h => h.elim (fun e => by show G q ∈ ([8, 5, 15, 11, 10, 9] : List Nat); rw [e, gb_46]; decide) (fun h => mL (L' := [5, 15, 11, 10, 9]) (L := [8, 5, 15, 11, 10, 9]) (by decide) h)) (fun q h => h.elim (fun e => by show G q ∈ ([8, 5, 15, 11, 10, 9] : List Nat); rw [e, gb_46]; decide) (fun h => mL (L' := [5, 15, 11, 10, 9]) (L := [8, 5, 15, 11, 10, 9]) (by decide) h)) (fun r_47 _ t H locs ht hvm hwr_47 hB hz hk hS => ?_)
      rw [ht] at hB
      obtain ⟨hT, s_47, hs_47, hi_47⟩ := hB
      have hr0 := hr0.kept (hk _ hr0.lt (fun h => h.elim (ne_G hG gb_46 (by decide)) (nL hG (by decide))))
      have hp9 := hp9.kept (hk _ hp9.lt (fun h => h.elim (ne_G gp9 gb_46 (by decide)) (nL gp9 (by decide))))
      have hZ : ZS E G pb z H := hZ.upd hPB hj_46 (L := [5, 15, 11, 10, 9]) (by decide) (by rw [← hb_46]; exact hk) ⟨_, _, _, (by rw [← hb_46]; exact hs_47), ga_46, gc_46, hi_47.trans hi_46⟩ (fun _ _ _ => Iff.rfl)
      have hzr_47 := s_rng hwr_47
      refine lv_if_eq (tgt := 24) hx hb dX9_tick_18 (by decide) (fun c_48 => ?_) (fun c_48 => ?_)
      · simp only [lt_I, le_I, eq_I, i_0, i_1, i_2, i_3, i_4, i_5, i_6, i_7, i_8, i_10, i_12, i_16, i_20, i_23, i_24, i_31, i_32, i_63, i_64, i_m1] at c_48
        refine lv_iinc (v := 3) (lv' := [(2, .int 3), (1, .int 1), (0, .ref h0)]) hx hb dX9_tick_24 hl (k := 0) rfl (by decide) (by decide) rfl (fun ls hl => ?_)
        refine lv_goto (tgt := 4) hx hb dX9_tick_27 (by decide) ?_
        refine lv_iload_n hx hb dX9_tick_4 rfl (lv_at hl 0 rfl) ?_
        refine lv_iconst (v := 4) hx hb dX9_tick_5 (by decide) ?_
        refine lv_icmp_ge (tgt := 30) hx hb dX9_tick_6 (by decide) (fun c_49 => absurd c_49 (by decide)) (fun c_49 => ?_)
        refine lv_aload_n hx hb dX9_tick_9 rfl (lv_at hl 2 rfl) ?_
        refine va_get (D := DG E) (ci := 9) (v := .ref p9) (C := RX9) (T := TX9) (N := 3) hx hb hts iw_X9 hown hK.1 (va_one hr0) 0 rfl rfl 1 (by decide) (hts _ fl_X9_29) (fun _ h9 => h9) rfl dX9_tick_10 ?_
        refine lv_iload_n hx hb dX9_tick_13 rfl (lv_at hl 0 rfl) ?_
        obtain ⟨j_50, hj_50, ej_50⟩ := vp_in_of (show vp_in (3) 4 from vp_in_iff.mpr ⟨by decide, by decide⟩) (by decide)
        obtain ⟨b_50, eb_50, gb_50⟩ := he9 j_50 hj_50
        have cj_50 : a9 (3 : Int32).toNatClampNeg = some b_50 := by rw [ej_50, nI_clamp (by omega)]; exact eb_50
        refine va_aldq (D := DG E) hx hb hK.1 (va_one hp9) 0 5 rfl rfl (show vp_in (3) 4 from vp_in_iff.mpr ⟨by decide, by decide⟩) dX9_tick_14 ?_
        rw [cj_50]
        refine W.eq (g2 := F0 m 15 ls [.ref b_50]) (by rfl) ?_
        have hb_50 : b_50 = pb j_50 := (Option.some.inj ((hf9 j_50 hj_50).symm.trans eb_50)).symm
        obtain ⟨a_50, c_50, s_50, hat_50, ga_50, gc_50, hi_50⟩ := hZ j_50 hj_50
        rw [← hb_50] at hat_50
        refine va_calli (rnV (fun H => TH E (T1 E) G [] H ∧ va_at (DG E) vwCl (b_50, .inr (3, [.ref a_50, .ref c_50, .int s_50])) H) (As := []) (rest := []) ⟨hx, hb, hml, hown, hts⟩ (s_X3_failsByTime l E z0 G hGz b_50 gb_50 a_50 c_50 s_50 ga_50 gc_50) (cwV 0 hts (gdV ml_X9_162 im_X3_failsByTime se_X3_X3_failsByTime in_X3 co_X3_failsByTime rfl) rfl rfl rfl (by decide +kernel) ⟨Nat.le_of_ble_eq_true rfl, Nat.le_of_ble_eq_true rfl⟩) ⟨hT, hat_50⟩ (fun U hU hW => hK.go hW hS hAz hU) (va_recv hK.1 (va_one hat_50) (ci := 3) (q0 := 0) rfl rfl) rfl rfl hl.1 rfl (lv_room (Nat.le_of_ble_eq_true rfl)) dX9_tick_15 ⟨Nat.le_of_ble_eq_true rfl, Nat.le_of_ble_eq_true rfl⟩) hS (fun q _ h => h.elim (fun e => by show G q ∈ ([8, 5, 15, 11, 10, 9] : List Nat); rw [e, gb_50]; decide) (fun h => mL (L' := [5, 15, 11, 10, 9]) (L := [8, 5, 15, 11, 10, 9]) (by decide) h)) (fun q h => h.elim (fun e => by show G q ∈ ([8, 5, 15, 11, 10, 9] : List Nat); rw [e, gb_50]; decide) (fun h => mL (L' := [5, 15, 11, 10, 9]) (L := [8, 5, 15, 11, 10, 9]) (by decide) h)) (fun r_51 _ t H locs ht hvm hwr_51 hB hz hk hS => ?_)
        rw [ht] at hB
        obtain ⟨hT, s_51, hs_51, hi_51⟩ := hB
        have hr0 := hr0.kept (hk _ hr0.lt (fun h => h.elim (ne_G hG gb_50 (by decide)) (nL hG (by decide))))
        have hp9 := hp9.kept (hk _ hp9.lt (fun h => h.elim (ne_G gp9 gb_50 (by decide)) (nL gp9 (by decide))))
        have hZ : ZS E G pb z H := hZ.upd hPB hj_50 (L := [5, 15, 11, 10, 9]) (by decide) (by rw [← hb_50]; exact hk) ⟨_, _, _, (by rw [← hb_50]; exact hs_51), ga_50, gc_50, hi_51.trans hi_50⟩ (fun _ _ _ => Iff.rfl)
        have hzr_51 := s_rng hwr_51
        refine lv_if_eq (tgt := 24) hx hb dX9_tick_18 (by decide) (fun c_52 => ?_) (fun c_52 => ?_)
        · simp only [lt_I, le_I, eq_I, i_0, i_1, i_2, i_3, i_4, i_5, i_6, i_7, i_8, i_10, i_12, i_16, i_20, i_23, i_24, i_31, i_32, i_63, i_64, i_m1] at c_52
          refine lv_iinc (v := 4) (lv' := [(2, .int 4), (1, .int 1), (0, .ref h0)]) hx hb dX9_tick_24 hl (k := 0) rfl (by decide) (by decide) rfl (fun ls hl => ?_)
          refine lv_goto (tgt := 4) hx hb dX9_tick_27 (by decide) ?_
          refine lv_iload_n hx hb dX9_tick_4 rfl (lv_at hl 0 rfl) ?_
          refine lv_iconst (v := 4) hx hb dX9_tick_5 (by decide) ?_
          refine lv_icmp_ge (tgt := 30) hx hb dX9_tick_6 (by decide) (fun c_53 => ?_) (fun c_53 => absurd c_53 (by decide))
          refine lv_iload_n hx hb dX9_tick_30 rfl (lv_at hl 1 rfl) ?_
          exact W.iret (v := 1) hx hb hr (fun t ht hW => ⟨⟨1, (), rfl, trivial, (by show TH E (T1 E) G [] t.heap ∧ PA E G h0 pb t.heap ∧ ZS E G pb (z) t.heap; rw [ht]; exact ⟨hT, ⟨_, _, _, _, hr0, gn9, gp9, gf9, hp9, hf9⟩, hZ⟩)⟩, hS.F ht⟩) hS.2.2 dX9_tick_31
        · simp only [lt_I, le_I, eq_I, i_0, i_1, i_2, i_3, i_4, i_5, i_6, i_7, i_8, i_10, i_12, i_16, i_20, i_23, i_24, i_31, i_32, i_63, i_64, i_m1] at c_52
          refine lv_iinc (v := 2) (lv' := [(1, .int 2), (2, .int 3), (0, .ref h0)]) hx hb dX9_tick_21 hl (k := 1) rfl (by decide) (by decide) rfl (fun ls hl => ?_)
          refine lv_iinc (v := 4) (lv' := [(2, .int 4), (1, .int 2), (0, .ref h0)]) hx hb dX9_tick_24 hl (k := 1) rfl (by decide) (by decide) rfl (fun ls hl => ?_)
          refine lv_goto (tgt := 4) hx hb dX9_tick_27 (by decide) ?_
          refine lv_iload_n hx hb dX9_tick_4 rfl (lv_at hl 0 rfl) ?_
          refine lv_iconst (v := 4) hx hb dX9_tick_5 (by decide) ?_
          refine lv_icmp_ge (tgt := 30) hx hb dX9_tick_6 (by decide) (fun c_54 => ?_) (fun c_54 => absurd c_54 (by decide))
          refine lv_iload_n hx hb dX9_tick_30 rfl (lv_at hl 1 rfl) ?_
          exact W.iret (v := 2) hx hb hr (fun t ht hW => ⟨⟨2, (), rfl, trivial, (by show TH E (T1 E) G [] t.heap ∧ PA E G h0 pb t.heap ∧ ZS E G pb (z) t.heap; rw [ht]; exact ⟨hT, ⟨_, _, _, _, hr0, gn9, gp9, gf9, hp9, hf9⟩, hZ⟩)⟩, hS.F ht⟩) hS.2.2 dX9_tick_31
      · simp only [lt_I, le_I, eq_I, i_0, i_1, i_2, i_3, i_4, i_5, i_6, i_7, i_8, i_10, i_12, i_16, i_20, i_23, i_24, i_31, i_32, i_63, i_64, i_m1] at c_48
        refine lv_iinc (v := 2) (lv' := [(1, .int 2), (2, .int 2), (0, .ref h0)]) hx hb dX9_tick_21 hl (k := 1) rfl (by decide) (by decide) rfl (fun ls hl => ?_)
        refine lv_iinc (v := 3) (lv' := [(2, .int 3), (1, .int 2), (0, .ref h0)]) hx hb dX9_tick_24 hl (k := 1) rfl (by decide) (by decide) rfl (fun ls hl => ?_)
        refine lv_goto (tgt := 4) hx hb dX9_tick_27 (by decide) ?_
        refine lv_iload_n hx hb dX9_tick_4 rfl (lv_at hl 0 rfl) ?_
        refine lv_iconst (v := 4) hx hb dX9_tick_5 (by decide) ?_
        refine lv_icmp_ge (tgt := 30) hx hb dX9_tick_6 (by decide) (fun c_55 => absurd c_55 (by decide)) (fun c_55 => ?_)
        refine lv_aload_n hx hb dX9_tick_9 rfl (lv_at hl 2 rfl) ?_
        refine va_get (D := DG E) (ci := 9) (v := .ref p9) (C := RX9) (T := TX9) (N := 3) hx hb hts iw_X9 hown hK.1 (va_one hr0) 0 rfl rfl 1 (by decide) (hts _ fl_X9_29) (fun _ h9 => h9) rfl dX9_tick_10 ?_
        refine lv_iload_n hx hb dX9_tick_13 rfl (lv_at hl 0 rfl) ?_
        obtain ⟨j_56, hj_56, ej_56⟩ := vp_in_of (show vp_in (3) 4 from vp_in_iff.mpr ⟨by decide, by decide⟩) (by decide)
        obtain ⟨b_56, eb_56, gb_56⟩ := he9 j_56 hj_56
        have cj_56 : a9 (3 : Int32).toNatClampNeg = some b_56 := by rw [ej_56, nI_clamp (by omega)]; exact eb_56
        refine va_aldq (D := DG E) hx hb hK.1 (va_one hp9) 0 5 rfl rfl (show vp_in (3) 4 from vp_in_iff.mpr ⟨by decide, by decide⟩) dX9_tick_14 ?_
        rw [cj_56]
        refine W.eq (g2 := F0 m 15 ls [.ref b_56]) (by rfl) ?_
        have hb_56 : b_56 = pb j_56 := (Option.some.inj ((hf9 j_56 hj_56).symm.trans eb_56)).symm
        obtain ⟨a_56, c_56, s_56, hat_56, ga_56, gc_56, hi_56⟩ := hZ j_56 hj_56
        rw [← hb_56] at hat_56
        refine va_calli (rnV (fun H => TH E (T1 E) G [] H ∧ va_at (DG E) vwCl (b_56, .inr (3, [.ref a_56, .ref c_56, .int s_56])) H) (As := []) (rest := []) ⟨hx, hb, hml, hown, hts⟩ (s_X3_failsByTime l E z0 G hGz b_56 gb_56 a_56 c_56 s_56 ga_56 gc_56) (cwV 0 hts (gdV ml_X9_162 im_X3_failsByTime se_X3_X3_failsByTime in_X3 co_X3_failsByTime rfl) rfl rfl rfl (by decide +kernel) ⟨Nat.le_of_ble_eq_true rfl, Nat.le_of_ble_eq_true rfl⟩) ⟨hT, hat_56⟩ (fun U hU hW => hK.go hW hS hAz hU) (va_recv hK.1 (va_one hat_56) (ci := 3) (q0 := 0) rfl rfl) rfl rfl hl.1 rfl (lv_room (Nat.le_of_ble_eq_true rfl)) dX9_tick_15 ⟨Nat.le_of_ble_eq_true rfl, Nat.le_of_ble_eq_true rfl⟩) hS (fun q _ h => h.elim (fun e => by show G q ∈ ([8, 5, 15, 11, 10, 9] : List Nat); rw [e, gb_56]; decide) (fun h => mL (L' := [5, 15, 11, 10, 9]) (L := [8, 5, 15, 11, 10, 9]) (by decide) h)) (fun q h => h.elim (fun e => by show G q ∈ ([8, 5, 15, 11, 10, 9] : List Nat); rw [e, gb_56]; decide) (fun h => mL (L' := [5, 15, 11, 10, 9]) (L := [8, 5, 15, 11, 10, 9]) (by decide) h)) (fun r_57 _ t H locs ht hvm hwr_57 hB hz hk hS => ?_)
        rw [ht] at hB
        obtain ⟨hT, s_57, hs_57, hi_57⟩ := hB
        have hr0 := hr0.kept (hk _ hr0.lt (fun h => h.elim (ne_G hG gb_56 (by decide)) (nL hG (by decide))))
        have hp9 := hp9.kept (hk _ hp9.lt (fun h => h.elim (ne_G gp9 gb_56 (by decide)) (nL gp9 (by decide))))
        have hZ : ZS E G pb z H := hZ.upd hPB hj_56 (L := [5, 15, 11, 10, 9]) (by decide) (by rw [← hb_56]; exact hk) ⟨_, _, _, (by rw [← hb_56]; exact hs_57), ga_56, gc_56, hi_57.trans hi_56⟩ (fun _ _ _ => Iff.rfl)
        have hzr_57 := s_rng hwr_57
        refine lv_if_eq (tgt := 24) hx hb dX9_tick_18 (by decide) (fun c_58 => ?_) (fun c_58 => ?_)
        · simp only [lt_I, le_I, eq_I, i_0, i_1, i_2, i_3, i_4, i_5, i_6, i_7, i_8, i_10, i_12, i_16, i_20, i_23, i_24, i_31, i_32, i_63, i_64, i_m1] at c_58
          refine lv_iinc (v := 4) (lv' := [(2, .int 4), (1, .int 2), (0, .ref h0)]) hx hb dX9_tick_24 hl (k := 0) rfl (by decide) (by decide) rfl (fun ls hl => ?_)
          refine lv_goto (tgt := 4) hx hb dX9_tick_27 (by decide) ?_
          refine lv_iload_n hx hb dX9_tick_4 rfl (lv_at hl 0 rfl) ?_
          refine lv_iconst (v := 4) hx hb dX9_tick_5 (by decide) ?_
          refine lv_icmp_ge (tgt := 30) hx hb dX9_tick_6 (by decide) (fun c_59 => ?_) (fun c_59 => absurd c_59 (by decide))
          refine lv_iload_n hx hb dX9_tick_30 rfl (lv_at hl 1 rfl) ?_
          exact W.iret (v := 2) hx hb hr (fun t ht hW => ⟨⟨2, (), rfl, trivial, (by show TH E (T1 E) G [] t.heap ∧ PA E G h0 pb t.heap ∧ ZS E G pb (z) t.heap; rw [ht]; exact ⟨hT, ⟨_, _, _, _, hr0, gn9, gp9, gf9, hp9, hf9⟩, hZ⟩)⟩, hS.F ht⟩) hS.2.2 dX9_tick_31
        · simp only [lt_I, le_I, eq_I, i_0, i_1, i_2, i_3, i_4, i_5, i_6, i_7, i_8, i_10, i_12, i_16, i_20, i_23, i_24, i_31, i_32, i_63, i_64, i_m1] at c_58
          refine lv_iinc (v := 3) (lv' := [(1, .int 3), (2, .int 3), (0, .ref h0)]) hx hb dX9_tick_21 hl (k := 1) rfl (by decide) (by decide) rfl (fun ls hl => ?_)
          refine lv_iinc (v := 4) (lv' := [(2, .int 4), (1, .int 3), (0, .ref h0)]) hx hb dX9_tick_24 hl (k := 1) rfl (by decide) (by decide) rfl (fun ls hl => ?_)
          refine lv_goto (tgt := 4) hx hb dX9_tick_27 (by decide) ?_
          refine lv_iload_n hx hb dX9_tick_4 rfl (lv_at hl 0 rfl) ?_
          refine lv_iconst (v := 4) hx hb dX9_tick_5 (by decide) ?_
          refine lv_icmp_ge (tgt := 30) hx hb dX9_tick_6 (by decide) (fun c_60 => ?_) (fun c_60 => absurd c_60 (by decide))
          refine lv_iload_n hx hb dX9_tick_30 rfl (lv_at hl 1 rfl) ?_
          exact W.iret (v := 3) hx hb hr (fun t ht hW => ⟨⟨3, (), rfl, trivial, (by show TH E (T1 E) G [] t.heap ∧ PA E G h0 pb t.heap ∧ ZS E G pb (z) t.heap; rw [ht]; exact ⟨hT, ⟨_, _, _, _, hr0, gn9, gp9, gf9, hp9, hf9⟩, hZ⟩)⟩, hS.F ht⟩) hS.2.2 dX9_tick_31
    · simp only [lt_I, le_I, eq_I, i_0, i_1, i_2, i_3, i_4, i_5, i_6, i_7, i_8, i_10, i_12, i_16, i_20, i_23, i_24, i_31, i_32, i_63, i_64, i_m1] at c_44
      refine lv_iinc (v := 2) (lv' := [(1, .int 2), (2, .int 1), (0, .ref h0)]) hx hb dX9_tick_21 hl (k := 1) rfl (by decide) (by decide) rfl (fun ls hl => ?_)
      refine lv_iinc (v := 2) (lv' := [(2, .int 2), (1, .int 2), (0, .ref h0)]) hx hb dX9_tick_24 hl (k := 1) rfl (by decide) (by decide) rfl (fun ls hl => ?_)
      refine lv_goto (tgt := 4) hx hb dX9_tick_27 (by decide) ?_
      refine lv_iload_n hx hb dX9_tick_4 rfl (lv_at hl 0 rfl) ?_
      refine lv_iconst (v := 4) hx hb dX9_tick_5 (by decide) ?_
      refine lv_icmp_ge (tgt := 30) hx hb dX9_tick_6 (by decide) (fun c_61 => absurd c_61 (by decide)) (fun c_61 => ?_)
      refine lv_aload_n hx hb dX9_tick_9 rfl (lv_at hl 2 rfl) ?_
      refine va_get (D := DG E) (ci := 9) (v := .ref p9) (C := RX9) (T := TX9) (N := 3) hx hb hts iw_X9 hown hK.1 (va_one hr0) 0 rfl rfl 1 (by decide) (hts _ fl_X9_29) (fun _ h9 => h9) rfl dX9_tick_10 ?_
      refine lv_iload_n hx hb dX9_tick_13 rfl (lv_at hl 0 rfl) ?_
      obtain ⟨j_62, hj_62, ej_62⟩ := vp_in_of (show vp_in (2) 4 from vp_in_iff.mpr ⟨by decide, by decide⟩) (by decide)
      obtain ⟨b_62, eb_62, gb_62⟩ := he9 j_62 hj_62
      have cj_62 : a9 (2 : Int32).toNatClampNeg = some b_62 := by rw [ej_62, nI_clamp (by omega)]; exact eb_62
      refine va_aldq (D := DG E) hx hb hK.1 (va_one hp9) 0 5 rfl rfl (show vp_in (2) 4 from vp_in_iff.mpr ⟨by decide, by decide⟩) dX9_tick_14 ?_
      rw [cj_62]
      refine W.eq (g2 := F0 m 15 ls [.ref b_62]) (by rfl) ?_
      have hb_62 : b_62 = pb j_62 := (Option.some.inj ((hf9 j_62 hj_62).symm.trans eb_62)).symm
      obtain ⟨a_62, c_62, s_62, hat_62, ga_62, gc_62, hi_62⟩ := hZ j_62 hj_62
      rw [← hb_62] at hat_62
      refine va_calli (rnV (fun H => TH E (T1 E) G [] H ∧ va_at (DG E) vwCl (b_62, .inr (3, [.ref a_62, .ref c_62, .int s_62])) H) (As := []) (rest := []) ⟨hx, hb, hml, hown, hts⟩ (s_X3_failsByTime l E z0 G hGz b_62 gb_62 a_62 c_62 s_62 ga_62 gc_62) (cwV 0 hts (gdV ml_X9_162 im_X3_failsByTime se_X3_X3_failsByTime in_X3 co_X3_failsByTime rfl) rfl rfl rfl (by decide +kernel) ⟨Nat.le_of_ble_eq_true rfl, Nat.le_of_ble_eq_true rfl⟩) ⟨hT, hat_62⟩ (fun U hU hW => hK.go hW hS hAz hU) (va_recv hK.1 (va_one hat_62) (ci := 3) (q0 := 0) rfl rfl) rfl rfl hl.1 rfl (lv_room (Nat.le_of_ble_eq_true rfl)) dX9_tick_15 ⟨Nat.le_of_ble_eq_true rfl, Nat.le_of_ble_eq_true rfl⟩) hS (fun q _ h => h.elim (fun e => by show G q ∈ ([8, 5, 15, 11, 10, 9] : List Nat); rw [e, gb_62]; decide) (fun h => mL (L' := [5, 15, 11, 10, 9]) (L := [8, 5, 15, 11, 10, 9]) (by decide) h)) (fun q h => h.elim (fun e => by show G q ∈ ([8, 5, 15, 11, 10, 9] : List Nat); rw [e, gb_62]; decide) (fun h => mL (L' := [5, 15, 11, 10, 9]) (L := [8, 5, 15, 11, 10, 9]) (by decide) h)) (fun r_63 _ t H locs ht hvm hwr_63 hB hz hk hS => ?_)
      rw [ht] at hB
      obtain ⟨hT, s_63, hs_63, hi_63⟩ := hB
      have hr0 := hr0.kept (hk _ hr0.lt (fun h => h.elim (ne_G hG gb_62 (by decide)) (nL hG (by decide))))
      have hp9 := hp9.kept (hk _ hp9.lt (fun h => h.elim (ne_G gp9 gb_62 (by decide)) (nL gp9 (by decide))))
      have hZ : ZS E G pb z H := hZ.upd hPB hj_62 (L := [5, 15, 11, 10, 9]) (by decide) (by rw [← hb_62]; exact hk) ⟨_, _, _, (by rw [← hb_62]; exact hs_63), ga_62, gc_62, hi_63.trans hi_62⟩ (fun _ _ _ => Iff.rfl)
      have hzr_63 := s_rng hwr_63
      refine lv_if_eq (tgt := 24) hx hb dX9_tick_18 (by decide) (fun c_64 => ?_) (fun c_64 => ?_)
      · simp only [lt_I, le_I, eq_I, i_0, i_1, i_2, i_3, i_4, i_5, i_6, i_7, i_8, i_10, i_12, i_16, i_20, i_23, i_24, i_31, i_32, i_63, i_64, i_m1] at c_64
        refine lv_iinc (v := 3) (lv' := [(2, .int 3), (1, .int 2), (0, .ref h0)]) hx hb dX9_tick_24 hl (k := 0) rfl (by decide) (by decide) rfl (fun ls hl => ?_)
        refine lv_goto (tgt := 4) hx hb dX9_tick_27 (by decide) ?_
        refine lv_iload_n hx hb dX9_tick_4 rfl (lv_at hl 0 rfl) ?_
        refine lv_iconst (v := 4) hx hb dX9_tick_5 (by decide) ?_
        refine lv_icmp_ge (tgt := 30) hx hb dX9_tick_6 (by decide) (fun c_65 => absurd c_65 (by decide)) (fun c_65 => ?_)
        refine lv_aload_n hx hb dX9_tick_9 rfl (lv_at hl 2 rfl) ?_
        refine va_get (D := DG E) (ci := 9) (v := .ref p9) (C := RX9) (T := TX9) (N := 3) hx hb hts iw_X9 hown hK.1 (va_one hr0) 0 rfl rfl 1 (by decide) (hts _ fl_X9_29) (fun _ h9 => h9) rfl dX9_tick_10 ?_
        refine lv_iload_n hx hb dX9_tick_13 rfl (lv_at hl 0 rfl) ?_
        obtain ⟨j_66, hj_66, ej_66⟩ := vp_in_of (show vp_in (3) 4 from vp_in_iff.mpr ⟨by decide, by decide⟩) (by decide)
        obtain ⟨b_66, eb_66, gb_66⟩ := he9 j_66 hj_66
        have cj_66 : a9 (3 : Int32).toNatClampNeg = some b_66 := by rw [ej_66, nI_clamp (by omega)]; exact eb_66
        refine va_aldq (D := DG E) hx hb hK.1 (va_one hp9) 0 5 rfl rfl (show vp_in (3) 4 from vp_in_iff.mpr ⟨by decide, by decide⟩) dX9_tick_14 ?_
        rw [cj_66]
        refine W.eq (g2 := F0 m 15 ls [.ref b_66]) (by rfl) ?_
        have hb_66 : b_66 = pb j_66 := (Option.some.inj ((hf9 j_66 hj_66).symm.trans eb_66)).symm
        obtain ⟨a_66, c_66, s_66, hat_66, ga_66, gc_66, hi_66⟩ := hZ j_66 hj_66
        rw [← hb_66] at hat_66
        refine va_calli (rnV (fun H => TH E (T1 E) G [] H ∧ va_at (DG E) vwCl (b_66, .inr (3, [.ref a_66, .ref c_66, .int s_66])) H) (As := []) (rest := []) ⟨hx, hb, hml, hown, hts⟩ (s_X3_failsByTime l E z0 G hGz b_66 gb_66 a_66 c_66 s_66 ga_66 gc_66) (cwV 0 hts (gdV ml_X9_162 im_X3_failsByTime se_X3_X3_failsByTime in_X3 co_X3_failsByTime rfl) rfl rfl rfl (by decide +kernel) ⟨Nat.le_of_ble_eq_true rfl, Nat.le_of_ble_eq_true rfl⟩) ⟨hT, hat_66⟩ (fun U hU hW => hK.go hW hS hAz hU) (va_recv hK.1 (va_one hat_66) (ci := 3) (q0 := 0) rfl rfl) rfl rfl hl.1 rfl (lv_room (Nat.le_of_ble_eq_true rfl)) dX9_tick_15 ⟨Nat.le_of_ble_eq_true rfl, Nat.le_of_ble_eq_true rfl⟩) hS (fun q _ h => h.elim (fun e => by show G q ∈ ([8, 5, 15, 11, 10, 9] : List Nat); rw [e, gb_66]; decide) (fun h => mL (L' := [5, 15, 11, 10, 9]) (L := [8, 5, 15, 11, 10, 9]) (by decide) h)) (fun q h => h.elim (fun e => by show G q ∈ ([8, 5, 15, 11, 10, 9] : List Nat); rw [e, gb_66]; decide) (fun h => mL (L' := [5, 15, 11, 10, 9]) (L := [8, 5, 15, 11, 10, 9]) (by decide) h)) (fun r_67 _ t H locs ht hvm hwr_67 hB hz hk hS => ?_)
        rw [ht] at hB
        obtain ⟨hT, s_67, hs_67, hi_67⟩ := hB
        have hr0 := hr0.kept (hk _ hr0.lt (fun h => h.elim (ne_G hG gb_66 (by decide)) (nL hG (by decide))))
        have hp9 := hp9.kept (hk _ hp9.lt (fun h => h.elim (ne_G gp9 gb_66 (by decide)) (nL gp9 (by decide))))
        have hZ : ZS E G pb z H := hZ.upd hPB hj_66 (L := [5, 15, 11, 10, 9]) (by decide) (by rw [← hb_66]; exact hk) ⟨_, _, _, (by rw [← hb_66]; exact hs_67), ga_66, gc_66, hi_67.trans hi_66⟩ (fun _ _ _ => Iff.rfl)
        have hzr_67 := s_rng hwr_67
        refine lv_if_eq (tgt := 24) hx hb dX9_tick_18 (by decide) (fun c_68 => ?_) (fun c_68 => ?_)
        · simp only [lt_I, le_I, eq_I, i_0, i_1, i_2, i_3, i_4, i_5, i_6, i_7, i_8, i_10, i_12, i_16, i_20, i_23, i_24, i_31, i_32, i_63, i_64, i_m1] at c_68
          refine lv_iinc (v := 4) (lv' := [(2, .int 4), (1, .int 2), (0, .ref h0)]) hx hb dX9_tick_24 hl (k := 0) rfl (by decide) (by decide) rfl (fun ls hl => ?_)
          refine lv_goto (tgt := 4) hx hb dX9_tick_27 (by decide) ?_
          refine lv_iload_n hx hb dX9_tick_4 rfl (lv_at hl 0 rfl) ?_
          refine lv_iconst (v := 4) hx hb dX9_tick_5 (by decide) ?_
          refine lv_icmp_ge (tgt := 30) hx hb dX9_tick_6 (by decide) (fun c_69 => ?_) (fun c_69 => absurd c_69 (by decide))
          refine lv_iload_n hx hb dX9_tick_30 rfl (lv_at hl 1 rfl) ?_
          exact W.iret (v := 2) hx hb hr (fun t ht hW => ⟨⟨2, (), rfl, trivial, (by show TH E (T1 E) G [] t.heap ∧ PA E G h0 pb t.heap ∧ ZS E G pb (z) t.heap; rw [ht]; exact ⟨hT, ⟨_, _, _, _, hr0, gn9, gp9, gf9, hp9, hf9⟩, hZ⟩)⟩, hS.F ht⟩) hS.2.2 dX9_tick_31
        · simp only [lt_I, le_I, eq_I, i_0, i_1, i_2, i_3, i_4, i_5, i_6, i_7, i_8, i_10, i_12, i_16, i_20, i_23, i_24, i_31, i_32, i_63, i_64, i_m1] at c_68
          refine lv_iinc (v := 3) (lv' := [(1, .int 3), (2, .int 3), (0, .ref h0)]) hx hb dX9_tick_21 hl (k := 1) rfl (by decide) (by decide) rfl (fun ls hl => ?_)
          refine lv_iinc (v := 4) (lv' := [(2, .int 4), (1, .int 3), (0, .ref h0)]) hx hb dX9_tick_24 hl (k := 1) rfl (by decide) (by decide) rfl (fun ls hl => ?_)
          refine lv_goto (tgt := 4) hx hb dX9_tick_27 (by decide) ?_
          refine lv_iload_n hx hb dX9_tick_4 rfl (lv_at hl 0 rfl) ?_
          refine lv_iconst (v := 4) hx hb dX9_tick_5 (by decide) ?_
          refine lv_icmp_ge (tgt := 30) hx hb dX9_tick_6 (by decide) (fun c_70 => ?_) (fun c_70 => absurd c_70 (by decide))
          refine lv_iload_n hx hb dX9_tick_30 rfl (lv_at hl 1 rfl) ?_
          exact W.iret (v := 3) hx hb hr (fun t ht hW => ⟨⟨3, (), rfl, trivial, (by show TH E (T1 E) G [] t.heap ∧ PA E G h0 pb t.heap ∧ ZS E G pb (z) t.heap; rw [ht]; exact ⟨hT, ⟨_, _, _, _, hr0, gn9, gp9, gf9, hp9, hf9⟩, hZ⟩)⟩, hS.F ht⟩) hS.2.2 dX9_tick_31
      · simp only [lt_I, le_I, eq_I, i_0, i_1, i_2, i_3, i_4, i_5, i_6, i_7, i_8, i_10, i_12, i_16, i_20, i_23, i_24, i_31, i_32, i_63, i_64, i_m1] at c_64
        refine lv_iinc (v := 3) (lv' := [(1, .int 3), (2, .int 2), (0, .ref h0)]) hx hb dX9_tick_21 hl (k := 1) rfl (by decide) (by decide) rfl (fun ls hl => ?_)
        refine lv_iinc (v := 3) (lv' := [(2, .int 3), (1, .int 3), (0, .ref h0)]) hx hb dX9_tick_24 hl (k := 1) rfl (by decide) (by decide) rfl (fun ls hl => ?_)
        refine lv_goto (tgt := 4) hx hb dX9_tick_27 (by decide) ?_
        refine lv_iload_n hx hb dX9_tick_4 rfl (lv_at hl 0 rfl) ?_
        refine lv_iconst (v := 4) hx hb dX9_tick_5 (by decide) ?_
        refine lv_icmp_ge (tgt := 30) hx hb dX9_tick_6 (by decide) (fun c_71 => absurd c_71 (by decide)) (fun c_71 => ?_)
        refine lv_aload_n hx hb dX9_tick_9 rfl (lv_at hl 2 rfl) ?_
        refine va_get (D := DG E) (ci := 9) (v := .ref p9) (C := RX9) (T := TX9) (N := 3) hx hb hts iw_X9 hown hK.1 (va_one hr0) 0 rfl rfl 1 (by decide) (hts _ fl_X9_29) (fun _ h9 => h9) rfl dX9_tick_10 ?_
        refine lv_iload_n hx hb dX9_tick_13 rfl (lv_at hl 0 rfl) ?_
        obtain ⟨j_72, hj_72, ej_72⟩ := vp_in_of (show vp_in (3) 4 from vp_in_iff.mpr ⟨by decide, by decide⟩) (by decide)
        obtain ⟨b_72, eb_72, gb_72⟩ := he9 j_72 hj_72
        have cj_72 : a9 (3 : Int32).toNatClampNeg = some b_72 := by rw [ej_72, nI_clamp (by omega)]; exact eb_72
        refine va_aldq (D := DG E) hx hb hK.1 (va_one hp9) 0 5 rfl rfl (show vp_in (3) 4 from vp_in_iff.mpr ⟨by decide, by decide⟩) dX9_tick_14 ?_
        rw [cj_72]
        refine W.eq (g2 := F0 m 15 ls [.ref b_72]) (by rfl) ?_
        have hb_72 : b_72 = pb j_72 := (Option.some.inj ((hf9 j_72 hj_72).symm.trans eb_72)).symm
        obtain ⟨a_72, c_72, s_72, hat_72, ga_72, gc_72, hi_72⟩ := hZ j_72 hj_72
        rw [← hb_72] at hat_72
        refine va_calli (rnV (fun H => TH E (T1 E) G [] H ∧ va_at (DG E) vwCl (b_72, .inr (3, [.ref a_72, .ref c_72, .int s_72])) H) (As := []) (rest := []) ⟨hx, hb, hml, hown, hts⟩ (s_X3_failsByTime l E z0 G hGz b_72 gb_72 a_72 c_72 s_72 ga_72 gc_72) (cwV 0 hts (gdV ml_X9_162 im_X3_failsByTime se_X3_X3_failsByTime in_X3 co_X3_failsByTime rfl) rfl rfl rfl (by decide +kernel) ⟨Nat.le_of_ble_eq_true rfl, Nat.le_of_ble_eq_true rfl⟩) ⟨hT, hat_72⟩ (fun U hU hW => hK.go hW hS hAz hU) (va_recv hK.1 (va_one hat_72) (ci := 3) (q0 := 0) rfl rfl) rfl rfl hl.1 rfl (lv_room (Nat.le_of_ble_eq_true rfl)) dX9_tick_15 ⟨Nat.le_of_ble_eq_true rfl, Nat.le_of_ble_eq_true rfl⟩) hS (fun q _ h => h.elim (fun e => by show G q ∈ ([8, 5, 15, 11, 10, 9] : List Nat); rw [e, gb_72]; decide) (fun h => mL (L' := [5, 15, 11, 10, 9]) (L := [8, 5, 15, 11, 10, 9]) (by decide) h)) (fun q h => h.elim (fun e => by show G q ∈ ([8, 5, 15, 11, 10, 9] : List Nat); rw [e, gb_72]; decide) (fun h => mL (L' := [5, 15, 11, 10, 9]) (L := [8, 5, 15, 11, 10, 9]) (by decide) h)) (fun r_73 _ t H locs ht hvm hwr_73 hB hz hk hS => ?_)
        rw [ht] at hB
        obtain ⟨hT, s_73, hs_73, hi_73⟩ := hB
        have hr0 := hr0.kept (hk _ hr0.lt (fun h => h.elim (ne_G hG gb_72 (by decide)) (nL hG (by decide))))
        have hp9 := hp9.kept (hk _ hp9.lt (fun h => h.elim (ne_G gp9 gb_72 (by decide)) (nL gp9 (by decide))))
        have hZ : ZS E G pb z H := hZ.upd hPB hj_72 (L := [5, 15, 11, 10, 9]) (by decide) (by rw [← hb_72]; exact hk) ⟨_, _, _, (by rw [← hb_72]; exact hs_73), ga_72, gc_72, hi_73.trans hi_72⟩ (fun _ _ _ => Iff.rfl)
        have hzr_73 := s_rng hwr_73
        refine lv_if_eq (tgt := 24) hx hb dX9_tick_18 (by decide) (fun c_74 => ?_) (fun c_74 => ?_)
        · simp only [lt_I, le_I, eq_I, i_0, i_1, i_2, i_3, i_4, i_5, i_6, i_7, i_8, i_10, i_12, i_16, i_20, i_23, i_24, i_31, i_32, i_63, i_64, i_m1] at c_74
          refine lv_iinc (v := 4) (lv' := [(2, .int 4), (1, .int 3), (0, .ref h0)]) hx hb dX9_tick_24 hl (k := 0) rfl (by decide) (by decide) rfl (fun ls hl => ?_)
          refine lv_goto (tgt := 4) hx hb dX9_tick_27 (by decide) ?_
          refine lv_iload_n hx hb dX9_tick_4 rfl (lv_at hl 0 rfl) ?_
          refine lv_iconst (v := 4) hx hb dX9_tick_5 (by decide) ?_
          refine lv_icmp_ge (tgt := 30) hx hb dX9_tick_6 (by decide) (fun c_75 => ?_) (fun c_75 => absurd c_75 (by decide))
          refine lv_iload_n hx hb dX9_tick_30 rfl (lv_at hl 1 rfl) ?_
          exact W.iret (v := 3) hx hb hr (fun t ht hW => ⟨⟨3, (), rfl, trivial, (by show TH E (T1 E) G [] t.heap ∧ PA E G h0 pb t.heap ∧ ZS E G pb (z) t.heap; rw [ht]; exact ⟨hT, ⟨_, _, _, _, hr0, gn9, gp9, gf9, hp9, hf9⟩, hZ⟩)⟩, hS.F ht⟩) hS.2.2 dX9_tick_31
        · simp only [lt_I, le_I, eq_I, i_0, i_1, i_2, i_3, i_4, i_5, i_6, i_7, i_8, i_10, i_12, i_16, i_20, i_23, i_24, i_31, i_32, i_63, i_64, i_m1] at c_74
          refine lv_iinc (v := 4) (lv' := [(1, .int 4), (2, .int 3), (0, .ref h0)]) hx hb dX9_tick_21 hl (k := 1) rfl (by decide) (by decide) rfl (fun ls hl => ?_)
          refine lv_iinc (v := 4) (lv' := [(2, .int 4), (1, .int 4), (0, .ref h0)]) hx hb dX9_tick_24 hl (k := 1) rfl (by decide) (by decide) rfl (fun ls hl => ?_)
          refine lv_goto (tgt := 4) hx hb dX9_tick_27 (by decide) ?_
          refine lv_iload_n hx hb dX9_tick_4 rfl (lv_at hl 0 rfl) ?_
          refine lv_iconst (v := 4) hx hb dX9_tick_5 (by decide) ?_
          refine lv_icmp_ge (tgt := 30) hx hb dX9_tick_6 (by decide) (fun c_76 => ?_) (fun c_76 => absurd c_76 (by decide))
          refine lv_iload_n hx hb dX9_tick_30 rfl (lv_at hl 1 rfl) ?_
          exact W.iret (v := 4) hx hb hr (fun t ht hW => ⟨⟨4, (), rfl, trivial, (by show TH E (T1 E) G [] t.heap ∧ PA E G h0 pb t.heap ∧ ZS E G pb (z) t.heap; rw [ht]; exact ⟨hT, ⟨_, _, _, _, hr0, gn9, gp9, gf9, hp9, hf9⟩, hZ⟩)⟩, hS.F ht⟩) hS.2.2 dX9_tick_31
set_option maxHeartbeats 8000000 in
set_option maxRecDepth 100000 in
theorem s_X9_reset (l : Launch) (E : EE) (z0 : Nat) (G : Nat → Nat) (hGz : ∀ q, G q ≠ 0 → z0 ≤ q) (h0 : Nat) (p0 : Int32) (hG : G h0 = 1) (pb : Nat → Nat) (hPB : PB G pb) (z : Nat → Prop) : Met l yX9_reset [Cond.code yX9_reset cX9_reset 2 (some .boolean)] ({ frames := 3, cells := 0, slots := 0, locals := 61 } : Room) (va_Pc [.ref h0, .int p0] (fun U => (TH E (T1 E) G [] U.heap ∧ PA E G h0 pb U.heap ∧ ZS E G pb z U.heap) ∧ KS E z0 U)) (va_Qi (fun (r : Int32) (_ : Unit) => r = bI (0 ≤ p0.toInt ∧ p0.toInt < 4)) (fun _ t => TH E (T1 E) G [] t.heap ∧ PA E G h0 pb t.heap ∧ ZS E G pb (fun q : Nat => z q ∨ (q : Int) = p0.toInt) t.heap) (fun q : Nat => G q ∈ ([8, 9, 10, 11, 16, 17] : List Nat))) 0 0 (fun q : Nat => G q ∈ ([8, 9, 10, 11, 16, 17] : List Nat)) := by
  refine Met.ofW (cc := cX9_reset) (maxL := 2) (ret := (some .boolean)) (by decide) rfl ?_
  intro p e s m args below meth c s₁ B hml hv
  obtain ⟨rfl, ⟨hT, ⟨n9, p9, f9, a9, hr0, gn9, gp9, gf9, hp9, hf9⟩, hZ⟩, hK⟩ := hv
  have hx := B.exec
  have hb := B.bytes
  have hr := B.returns
  have hts : ∀ w ∈ TS, w.before ([.ref h0, .int p0] : List Value).toArray s = true := fun w hw => hK.2.1 w hw _
  have hown : s.vm.findClass RX9 = some m.cls := findClass_of_methodNamed B.named
  have hlocks := B.notSynchronized
  have hS : va_S (fun q : Nat => G q ∈ ([8, 9, 10, 11, 16, 17] : List Nat)) s.heap s.heap [] := va_S.rf
  have hAz : ∀ q, (fun q : Nat => G q ∈ ([8, 9, 10, 11, 16, 17] : List Nat)) q → z0 ≤ q := zL hGz (by decide)
  have he9 : ∀ i, i < 4 → ∃ b, a9 i = some b ∧ G b = 8 := fun i hi => ⟨pb i, hf9 i hi, hPB.1 i hi⟩
  have hl := lv_entry ([.ref h0, .int p0]) (n := 2) (Nat.le_of_ble_eq_true rfl)
  rw [lg_entry_eq]
  generalize (lg_sl ([.ref h0, .int p0]) ++ List.replicate (2 - (lg_sl ([.ref h0, .int p0])).length) Slot.unset).toArray = ls at hl ⊢
  have hl : lv_has ls 2 [(0, .ref h0), (1, .int p0)] := hl
  refine lv_iload_n hx hb dX9_reset_0 rfl (lv_at hl 1 rfl) ?_
  refine W.callR (W.runS (As := [.int p0]) (rest := []) ⟨hx, hb, hml, hown, hts⟩ (c_X9_isPair l p0) (cwS 1 hts (gdS ml_X9_78 st_X9_isPair in_X9 co_X9_isPair rfl) rfl rfl rfl (by decide +kernel) ⟨Nat.le_of_ble_eq_true rfl, Nat.le_of_ble_eq_true rfl⟩) preEq rfl rfl hl.1 rfl (lv_room (Nat.le_of_ble_eq_true rfl)) dX9_reset_1 ⟨Nat.le_of_ble_eq_true rfl, Nat.le_of_ble_eq_true rfl⟩) ?_
  refine W.eq (g2 := F0 m 4 ls [.int (bI (0 ≤ p0.toInt ∧ p0.toInt < 4))]) (by rfl) ?_
  refine lv_if_ne (tgt := 9) hx hb dX9_reset_4 (by decide) (fun c_1 => ?_) (fun c_1 => ?_)
  · have c_1 := bI_n c_1
    refine lv_aload_n hx hb dX9_reset_9 rfl (lv_at hl 0 rfl) ?_
    refine va_get (D := DG E) (ci := 9) (v := .ref p9) (C := RX9) (T := TX9) (N := 3) hx hb hts iw_X9 hown hK.1 (va_one hr0) 0 rfl rfl 1 (by decide) (hts _ fl_X9_29) (fun _ h9 => h9) rfl dX9_reset_10 ?_
    refine lv_iload_n hx hb dX9_reset_13 rfl (lv_at hl 1 rfl) ?_
    obtain ⟨j_2, hj_2, ej_2⟩ := vp_in_of (show vp_in p0 4 from vp_in_iff.mpr (by omega)) (by decide)
    obtain ⟨b_2, eb_2, gb_2⟩ := he9 j_2 hj_2
    have cj_2 : a9 (p0 : Int32).toNatClampNeg = some b_2 := by rw [ej_2, nI_clamp (by omega)]; exact eb_2
    refine va_aldq (D := DG E) hx hb hK.1 (va_one hp9) 0 5 rfl rfl (show vp_in p0 4 from vp_in_iff.mpr (by omega)) dX9_reset_14 ?_
    rw [cj_2]
    refine W.eq (g2 := F0 m 15 ls [.ref b_2]) (by rfl) ?_
    have hb_2 : b_2 = pb j_2 := (Option.some.inj ((hf9 j_2 hj_2).symm.trans eb_2)).symm
    obtain ⟨a_2, c_2, s_2, hat_2, ga_2, gc_2, hi_2⟩ := hZ j_2 hj_2
    rw [← hb_2] at hat_2
    have hjI_2 : (j_2 : Int) = p0.toInt := by rw [ej_2, nI_toInt (by omega)]
    refine va_callv (rnV (fun H => TH E (T1 E) G [] H ∧ va_at (DG E) vwCl (b_2, .inr (3, [.ref a_2, .ref c_2, .int s_2])) H) (As := []) (rest := []) ⟨hx, hb, hml, hown, hts⟩ (s_X3_clear l E z0 G hGz b_2 gb_2 a_2 c_2 s_2 ga_2 gc_2) (cwV 0 hts (gdV ml_X9_94 im_X3_clear se_X3_X3_clear in_X3 co_X3_clear rfl) rfl rfl rfl (by decide +kernel) ⟨Nat.le_of_ble_eq_true rfl, Nat.le_of_ble_eq_true rfl⟩) ⟨hT, hat_2⟩ (fun U hU hW => hK.go hW hS hAz hU) (va_recv hK.1 (va_one hat_2) (ci := 3) (q0 := 0) rfl rfl) rfl rfl hl.1 rfl (lv_room (Nat.le_of_ble_eq_true rfl)) dX9_reset_15 ⟨Nat.le_of_ble_eq_true rfl, Nat.le_of_ble_eq_true rfl⟩) hS (fun q _ h => h.elim (fun e => by show G q ∈ ([8, 9, 10, 11, 16, 17] : List Nat); rw [e, gb_2]; decide) (fun h => mL (L' := [9, 10, 11, 16, 17]) (L := [8, 9, 10, 11, 16, 17]) (by decide) h)) (fun q h => h.elim (fun e => by show G q ∈ ([8, 9, 10, 11, 16, 17] : List Nat); rw [e, gb_2]; decide) (fun h => mL (L' := [9, 10, 11, 16, 17]) (L := [8, 9, 10, 11, 16, 17]) (by decide) h)) (fun _ t H locs ht hvm hwr_3 hB hz hk hS => ?_)
    rw [ht] at hB
    obtain ⟨hT, s_3, hs_3, hi_3⟩ := hB
    have hr0 := hr0.kept (hk _ hr0.lt (fun h => h.elim (ne_G hG gb_2 (by decide)) (nL hG (by decide))))
    have hp9 := hp9.kept (hk _ hp9.lt (fun h => h.elim (ne_G gp9 gb_2 (by decide)) (nL gp9 (by decide))))
    have hZ : ZS E G pb (fun q : Nat => z q ∨ (q : Int) = p0.toInt) H := hZ.upd hPB hj_2 (L := [9, 10, 11, 16, 17]) (by decide) (by rw [← hb_2]; exact hk) ⟨_, _, _, (by rw [← hb_2]; exact hs_3), ga_2, gc_2, ⟨fun _ => Or.inr hjI_2, fun _ => hi_3⟩⟩ (fun q _ hq => ⟨fun h => h.elim id (fun e => absurd (by omega) hq), Or.inl⟩)
    refine lv_iconst (v := 1) hx hb dX9_reset_18 (by decide) ?_
    exact W.zret (v := 1) (ty := .boolean) hx hb hr rfl (fun t ht hW => ⟨⟨1, (), rfl, (by rw [bI_t (by omega)]), (by show TH E (T1 E) G [] t.heap ∧ PA E G h0 pb t.heap ∧ ZS E G pb (fun q : Nat => z q ∨ (q : Int) = p0.toInt) t.heap; rw [ht]; exact ⟨hT, ⟨_, _, _, _, hr0, gn9, gp9, gf9, hp9, hf9⟩, hZ⟩)⟩, hS.F ht⟩) hS.2.2 dX9_reset_19
  · have c_1 := bI_0 c_1
    refine lv_iconst (v := 0) hx hb dX9_reset_7 (by decide) ?_
    exact W.zret (v := 0) (ty := .boolean) hx hb hr rfl (fun t ht hW => ⟨⟨0, (), rfl, (by rw [bI_f (by omega)]), (by show TH E (T1 E) G [] t.heap ∧ PA E G h0 pb t.heap ∧ ZS E G pb (fun q : Nat => z q ∨ (q : Int) = p0.toInt) t.heap; rw [ht]; exact ⟨hT, ⟨_, _, _, _, hr0, gn9, gp9, gf9, hp9, hf9⟩, (hZ.cg (fun q hq => ⟨fun h => h.elim id (fun e => by exfalso; omega), Or.inl⟩))⟩)⟩, hS.F ht⟩) hS.2.2 dX9_reset_8
set_option maxHeartbeats 8000000 in
set_option maxRecDepth 100000 in
theorem s_X9_ready (l : Launch) (hst : l.stackTraces = false) (E : EE) (z0 : Nat) (G : Nat → Nat) (hGz : ∀ q, G q ≠ 0 → z0 ≤ q) (h0 : Nat) (p0 : Int32) (p1 : Int32) (p2 : Int32) (hG : G h0 = 1) (pb : Nat → Nat) (hPB : PB G pb) (z : Nat → Prop) : vx_Met l yX9_ready [Cond.code yX9_ready cX9_ready 4 none] ({ frames := 7, cells := 2, slots := 12, locals := 101 } : Room) (va_Pc [.ref h0, .int p0, .int p1, .int p2] (fun U => (TH E (T1 E) G [] U.heap ∧ PA E G h0 pb U.heap ∧ ZS E G pb z U.heap) ∧ KS E z0 U)) (va_Qv (fun (_ : Unit) => (0 ≤ p0.toInt ∧ p0.toInt < 4 ∧ 0 ≤ p1.toInt ∧ p1.toInt < 64 ∧ 0 ≤ p2.toInt ∧ p2.toInt < 64) ∧ ∀ n : Nat, (n : Int) = p0.toInt → z n) (fun _ t => TH E (T1 E) G [] t.heap ∧ PA E G h0 pb t.heap ∧ ZS E G pb (fun q : Nat => z q ∧ (q : Int) ≠ p0.toInt) t.heap) (fun q : Nat => G q ∈ ([8, 9, 10] : List Nat))) (vx_X (fun (_ : Unit) => True) (fun En _ t => ((En = IAE ∧ ¬ (0 ≤ p0.toInt ∧ p0.toInt < 4 ∧ 0 ≤ p1.toInt ∧ p1.toInt < 64 ∧ 0 ≤ p2.toInt ∧ p2.toInt < 64)) ∨ (En = ISE ∧ (0 ≤ p0.toInt ∧ p0.toInt < 4 ∧ 0 ≤ p1.toInt ∧ p1.toInt < 64 ∧ 0 ≤ p2.toInt ∧ p2.toInt < 64) ∧ ∀ n : Nat, (n : Int) = p0.toInt → ¬ z n)) ∧ TH E (T1 E) G [] t.heap ∧ PA E G h0 pb t.heap ∧ ZS E G pb z t.heap) (fun q : Nat => G q ∈ ([8, 9, 10] : List Nat))) 2 12 (fun q : Nat => G q ∈ ([8, 9, 10] : List Nat)) := by
  refine vx_ofW (cc := cX9_ready) (maxL := 4) (ret := none) (by decide) rfl ?_
  intro p e s m args below meth c s₁ B hml hne hv
  obtain ⟨rfl, ⟨hT, ⟨n9, p9, f9, a9, hr0, gn9, gp9, gf9, hp9, hf9⟩, hZ⟩, hK⟩ := hv
  have hx := B.exec
  have hb := B.bytes
  have hr := B.returns
  have hts : ∀ w ∈ TS, w.before ([.ref h0, .int p0, .int p1, .int p2] : List Value).toArray s = true := fun w hw => hK.2.1 w hw _
  have hown : s.vm.findClass RX9 = some m.cls := findClass_of_methodNamed B.named
  have hlocks := B.notSynchronized
  have hS : va_S (fun q : Nat => G q ∈ ([8, 9, 10] : List Nat)) s.heap s.heap [] := va_S.rf
  have hAz : ∀ q, (fun q : Nat => G q ∈ ([8, 9, 10] : List Nat)) q → z0 ≤ q := zL hGz (by decide)
  have he9 : ∀ i, i < 4 → ∃ b, a9 i = some b ∧ G b = 8 := fun i hi => ⟨pb i, hf9 i hi, hPB.1 i hi⟩
  have hl := lv_entry ([.ref h0, .int p0, .int p1, .int p2]) (n := 4) (Nat.le_of_ble_eq_true rfl)
  rw [lg_entry_eq]
  generalize (lg_sl ([.ref h0, .int p0, .int p1, .int p2]) ++ List.replicate (4 - (lg_sl ([.ref h0, .int p0, .int p1, .int p2])).length) Slot.unset).toArray = ls at hl ⊢
  have hl : lv_has ls 4 [(0, .ref h0), (1, .int p0), (2, .int p1), (3, .int p2)] := hl
  refine lv_iload_n hx hb dX9_ready_0 rfl (lv_at hl 1 rfl) ?_
  refine W.callR (W.runS (As := [.int p0]) (rest := []) ⟨hx, hb, hml, hown, hts⟩ (c_X9_isPair l p0) (cwS 1 hts (gdS ml_X9_78 st_X9_isPair in_X9 co_X9_isPair rfl) rfl rfl rfl (by decide +kernel) ⟨Nat.le_of_ble_eq_true rfl, Nat.le_of_ble_eq_true rfl⟩) preEq rfl rfl hl.1 rfl (lv_room (Nat.le_of_ble_eq_true rfl)) dX9_ready_1 ⟨Nat.le_of_ble_eq_true rfl, Nat.le_of_ble_eq_true rfl⟩) ?_
  refine W.eq (g2 := F0 m 4 ls [.int (bI (0 ≤ p0.toInt ∧ p0.toInt < 4))]) (by rfl) ?_
  refine lv_if_eq (tgt := 25) hx hb dX9_ready_4 (by decide) (fun c_1 => ?_) (fun c_1 => ?_)
  · have c_1 := bI_0 c_1
    refine lv_iconst (v := 0) hx hb dX9_ready_25 (by decide) ?_
    refine vx_callv (rxS (fun _ => True) (As := [.int 0]) (rest := []) ⟨hx, hb, hml, hown, hts⟩ (c_X9_require l hst E z0 0) (cwS 1 hts (gdS ml_X9_53 st_X9_require in_X9 co_X9_require rfl) rfl rfl rfl (by decide +kernel) ⟨Nat.le_of_ble_eq_true rfl, Nat.le_of_ble_eq_true rfl⟩) trivial (fun U hU hW => hK.go hW hS hAz hU) rfl rfl hl.1 rfl (lv_room (Nat.le_of_ble_eq_true rfl)) dX9_ready_26 ⟨Nat.le_of_ble_eq_true rfl, Nat.le_of_ble_eq_true rfl⟩) hS (fun q _ h => h.elim) (fun q h => h.elim) (fun q _ h => h.elim) (fun En ce q9 _ t H locs ht hvm hw hB hz hk hS hc1 hc2 hc3 => ?_) (fun _ t H locs ht hvm hw hB hz hk hS => ?_)
    · have hT : TH E (T1 E) G [] H := hT.kept (fun q hq => hk q hq (fun h => h))
      have hZ := hZ.kept0 (fun q hq => hk q hq (fun h => h))
      have hr0 := hr0.kept (hk _ hr0.lt (fun h => h))
      have hp9 := hp9.kept (hk _ hp9.lt (fun h => h))
      subst hB
      exact vx_out (fun x hx => (hne x hx).elim) hlocks hc1 hc2 hc3 (fun t ht hA => ⟨(), trivial, ⟨Or.inl ⟨rfl, by omega⟩, by show TH E (T1 E) G [] t.heap ∧ PA E G h0 pb t.heap ∧ ZS E G pb z t.heap; rw [ht]; exact ⟨hT, ⟨_, _, _, _, hr0, gn9, gp9, gf9, hp9, hf9⟩, hZ⟩⟩, hS.F ht⟩) hS.2.2 (Nat.le_of_ble_eq_true rfl) (Nat.le_of_ble_eq_true rfl)
    · have hT : TH E (T1 E) G [] H := hT.kept (fun q hq => hk q hq (fun h => h))
      have hZ := hZ.kept0 (fun q hq => hk q hq (fun h => h))
      exact absurd rfl hw
  · have c_1 := bI_n c_1
    refine lv_iload_n hx hb dX9_ready_7 rfl (lv_at hl 2 rfl) ?_
    refine W.callR (W.runS (As := [.int p1]) (rest := []) ⟨hx, hb, hml, hown, hts⟩ (c_X9_isNumber l p1) (cwS 1 hts (gdS ml_X9_81 st_X9_isNumber in_X9 co_X9_isNumber rfl) rfl rfl rfl (by decide +kernel) ⟨Nat.le_of_ble_eq_true rfl, Nat.le_of_ble_eq_true rfl⟩) preEq rfl rfl hl.1 rfl (lv_room (Nat.le_of_ble_eq_true rfl)) dX9_ready_8 ⟨Nat.le_of_ble_eq_true rfl, Nat.le_of_ble_eq_true rfl⟩) ?_
    refine W.eq (g2 := F0 m 11 ls [.int (bI (0 ≤ p1.toInt ∧ p1.toInt < 64))]) (by rfl) ?_
    refine lv_if_eq (tgt := 25) hx hb dX9_ready_11 (by decide) (fun c_2 => ?_) (fun c_2 => ?_)
    · have c_2 := bI_0 c_2
      refine lv_iconst (v := 0) hx hb dX9_ready_25 (by decide) ?_
      refine vx_callv (rxS (fun _ => True) (As := [.int 0]) (rest := []) ⟨hx, hb, hml, hown, hts⟩ (c_X9_require l hst E z0 0) (cwS 1 hts (gdS ml_X9_53 st_X9_require in_X9 co_X9_require rfl) rfl rfl rfl (by decide +kernel) ⟨Nat.le_of_ble_eq_true rfl, Nat.le_of_ble_eq_true rfl⟩) trivial (fun U hU hW => hK.go hW hS hAz hU) rfl rfl hl.1 rfl (lv_room (Nat.le_of_ble_eq_true rfl)) dX9_ready_26 ⟨Nat.le_of_ble_eq_true rfl, Nat.le_of_ble_eq_true rfl⟩) hS (fun q _ h => h.elim) (fun q h => h.elim) (fun q _ h => h.elim) (fun En ce q9 _ t H locs ht hvm hw hB hz hk hS hc1 hc2 hc3 => ?_) (fun _ t H locs ht hvm hw hB hz hk hS => ?_)
      · have hT : TH E (T1 E) G [] H := hT.kept (fun q hq => hk q hq (fun h => h))
        have hZ := hZ.kept0 (fun q hq => hk q hq (fun h => h))
        have hr0 := hr0.kept (hk _ hr0.lt (fun h => h))
        have hp9 := hp9.kept (hk _ hp9.lt (fun h => h))
        subst hB
        exact vx_out (fun x hx => (hne x hx).elim) hlocks hc1 hc2 hc3 (fun t ht hA => ⟨(), trivial, ⟨Or.inl ⟨rfl, by omega⟩, by show TH E (T1 E) G [] t.heap ∧ PA E G h0 pb t.heap ∧ ZS E G pb z t.heap; rw [ht]; exact ⟨hT, ⟨_, _, _, _, hr0, gn9, gp9, gf9, hp9, hf9⟩, hZ⟩⟩, hS.F ht⟩) hS.2.2 (Nat.le_of_ble_eq_true rfl) (Nat.le_of_ble_eq_true rfl)
      · have hT : TH E (T1 E) G [] H := hT.kept (fun q hq => hk q hq (fun h => h))
        have hZ := hZ.kept0 (fun q hq => hk q hq (fun h => h))
        exact absurd rfl hw
    · have c_2 := bI_n c_2
      refine lv_iload_n hx hb dX9_ready_14 rfl (lv_at hl 3 rfl) ?_
      refine W.callR (W.runS (As := [.int p2]) (rest := []) ⟨hx, hb, hml, hown, hts⟩ (c_X9_isNumber l p2) (cwS 1 hts (gdS ml_X9_81 st_X9_isNumber in_X9 co_X9_isNumber rfl) rfl rfl rfl (by decide +kernel) ⟨Nat.le_of_ble_eq_true rfl, Nat.le_of_ble_eq_true rfl⟩) preEq rfl rfl hl.1 rfl (lv_room (Nat.le_of_ble_eq_true rfl)) dX9_ready_15 ⟨Nat.le_of_ble_eq_true rfl, Nat.le_of_ble_eq_true rfl⟩) ?_
      refine W.eq (g2 := F0 m 18 ls [.int (bI (0 ≤ p2.toInt ∧ p2.toInt < 64))]) (by rfl) ?_
      refine lv_if_eq (tgt := 25) hx hb dX9_ready_18 (by decide) (fun c_3 => ?_) (fun c_3 => ?_)
      · have c_3 := bI_0 c_3
        refine lv_iconst (v := 0) hx hb dX9_ready_25 (by decide) ?_
        refine vx_callv (rxS (fun _ => True) (As := [.int 0]) (rest := []) ⟨hx, hb, hml, hown, hts⟩ (c_X9_require l hst E z0 0) (cwS 1 hts (gdS ml_X9_53 st_X9_require in_X9 co_X9_require rfl) rfl rfl rfl (by decide +kernel) ⟨Nat.le_of_ble_eq_true rfl, Nat.le_of_ble_eq_true rfl⟩) trivial (fun U hU hW => hK.go hW hS hAz hU) rfl rfl hl.1 rfl (lv_room (Nat.le_of_ble_eq_true rfl)) dX9_ready_26 ⟨Nat.le_of_ble_eq_true rfl, Nat.le_of_ble_eq_true rfl⟩) hS (fun q _ h => h.elim) (fun q h => h.elim) (fun q _ h => h.elim) (fun En ce q9 _ t H locs ht hvm hw hB hz hk hS hc1 hc2 hc3 => ?_) (fun _ t H locs ht hvm hw hB hz hk hS => ?_)
        · have hT : TH E (T1 E) G [] H := hT.kept (fun q hq => hk q hq (fun h => h))
          have hZ := hZ.kept0 (fun q hq => hk q hq (fun h => h))
          have hr0 := hr0.kept (hk _ hr0.lt (fun h => h))
          have hp9 := hp9.kept (hk _ hp9.lt (fun h => h))
          subst hB
          exact vx_out (fun x hx => (hne x hx).elim) hlocks hc1 hc2 hc3 (fun t ht hA => ⟨(), trivial, ⟨Or.inl ⟨rfl, by omega⟩, by show TH E (T1 E) G [] t.heap ∧ PA E G h0 pb t.heap ∧ ZS E G pb z t.heap; rw [ht]; exact ⟨hT, ⟨_, _, _, _, hr0, gn9, gp9, gf9, hp9, hf9⟩, hZ⟩⟩, hS.F ht⟩) hS.2.2 (Nat.le_of_ble_eq_true rfl) (Nat.le_of_ble_eq_true rfl)
        · have hT : TH E (T1 E) G [] H := hT.kept (fun q hq => hk q hq (fun h => h))
          have hZ := hZ.kept0 (fun q hq => hk q hq (fun h => h))
          exact absurd rfl hw
      · have c_3 := bI_n c_3
        refine lv_iconst (v := 1) hx hb dX9_ready_21 (by decide) ?_
        refine lv_goto (tgt := 26) hx hb dX9_ready_22 (by decide) ?_
        refine vx_callv (rxS (fun _ => True) (As := [.int 1]) (rest := []) ⟨hx, hb, hml, hown, hts⟩ (c_X9_require l hst E z0 1) (cwS 1 hts (gdS ml_X9_53 st_X9_require in_X9 co_X9_require rfl) rfl rfl rfl (by decide +kernel) ⟨Nat.le_of_ble_eq_true rfl, Nat.le_of_ble_eq_true rfl⟩) trivial (fun U hU hW => hK.go hW hS hAz hU) rfl rfl hl.1 rfl (lv_room (Nat.le_of_ble_eq_true rfl)) dX9_ready_26 ⟨Nat.le_of_ble_eq_true rfl, Nat.le_of_ble_eq_true rfl⟩) hS (fun q _ h => h.elim) (fun q h => h.elim) (fun q _ h => h.elim) (fun En ce q9 _ t H locs ht hvm hw hB hz hk hS hc1 hc2 hc3 => ?_) (fun _ t H locs ht hvm hw hB hz hk hS => ?_)
        · have hT : TH E (T1 E) G [] H := hT.kept (fun q hq => hk q hq (fun h => h))
          have hZ := hZ.kept0 (fun q hq => hk q hq (fun h => h))
          exact absurd hw (by decide)
        · have hT : TH E (T1 E) G [] H := hT.kept (fun q hq => hk q hq (fun h => h))
          have hZ := hZ.kept0 (fun q hq => hk q hq (fun h => h))
          have hr0 := hr0.kept (hk _ hr0.lt (fun h => h))
          have hp9 := hp9.kept (hk _ hp9.lt (fun h => h))
          refine lv_aload_n hx hb dX9_ready_29 rfl (lv_at hl 0 rfl) ?_
          refine va_get (D := DG E) (ci := 9) (v := .ref p9) (C := RX9) (T := TX9) (N := 3) hx hb hts iw_X9 hown hK.1 (va_one hr0) 0 rfl rfl 1 (by decide) (hts _ fl_X9_29) (fun _ h9 => h9) rfl dX9_ready_30 ?_
          refine lv_iload_n hx hb dX9_ready_33 rfl (lv_at hl 1 rfl) ?_
          obtain ⟨j_4, hj_4, ej_4⟩ := vp_in_of (show vp_in p0 4 from vp_in_iff.mpr (by omega)) (by decide)
          obtain ⟨b_4, eb_4, gb_4⟩ := he9 j_4 hj_4
          have cj_4 : a9 (p0 : Int32).toNatClampNeg = some b_4 := by rw [ej_4, nI_clamp (by omega)]; exact eb_4
          refine va_aldq (D := DG E) hx hb hK.1 (va_one hp9) 0 5 rfl rfl (show vp_in p0 4 from vp_in_iff.mpr (by omega)) dX9_ready_34 ?_
          rw [cj_4]
          refine W.eq (g2 := F0 m 35 ls [.ref b_4]) (by rfl) ?_
          have hb_4 : b_4 = pb j_4 := (Option.some.inj ((hf9 j_4 hj_4).symm.trans eb_4)).symm
          obtain ⟨a_4, c_4, s_4, hat_4, ga_4, gc_4, hi_4⟩ := hZ j_4 hj_4
          rw [← hb_4] at hat_4
          have hjI_4 : (j_4 : Int) = p0.toInt := by rw [ej_4, nI_toInt (by omega)]
          refine va_get (D := DG E) (ci := 3) (v := .int s_4) (C := RX3) (T := TX3) (N := 3) hx hb hts iw_X3 hown hK.1 (va_one hat_4) 0 rfl rfl 2 (by decide) (hts _ fl_X9_84) (fun _ h9 => h9) rfl dX9_ready_35 ?_
          refine lv_if_ne (tgt := 45) hx hb dX9_ready_38 (by decide) (fun c_5 => ?_) (fun c_5 => ?_)
          · simp only [lt_I, le_I, eq_I, i_0, i_1, i_2, i_3, i_4, i_5, i_6, i_7, i_8, i_10, i_12, i_16, i_20, i_23, i_24, i_31, i_32, i_63, i_64, i_m1] at c_5
            refine lv_iconst (v := 0) hx hb dX9_ready_45 (by decide) ?_
            refine vx_callv (rxS (fun _ => True) (As := [.int 0]) (rest := []) ⟨hx, hb, hml, hown, hts⟩ (c_X9_requireState l hst E z0 0) (cwS 1 hts (gdS ml_X9_88 st_X9_requireState in_X9 co_X9_requireState rfl) rfl rfl rfl (by decide +kernel) ⟨Nat.le_of_ble_eq_true rfl, Nat.le_of_ble_eq_true rfl⟩) trivial (fun U hU hW => hK.go hW hS hAz hU) rfl rfl hl.1 rfl (lv_room (Nat.le_of_ble_eq_true rfl)) dX9_ready_46 ⟨Nat.le_of_ble_eq_true rfl, Nat.le_of_ble_eq_true rfl⟩) hS (fun q _ h => h.elim) (fun q h => h.elim) (fun q _ h => h.elim) (fun En ce q9 _ t H locs ht hvm hw hB hz hk hS hc1 hc2 hc3 => ?_) (fun _ t H locs ht hvm hw hB hz hk hS => ?_)
            · have hT : TH E (T1 E) G [] H := hT.kept (fun q hq => hk q hq (fun h => h))
              have hZ := hZ.kept0 (fun q hq => hk q hq (fun h => h))
              have hr0 := hr0.kept (hk _ hr0.lt (fun h => h))
              have hp9 := hp9.kept (hk _ hp9.lt (fun h => h))
              have hat_4 := hat_4.kept (hk _ hat_4.lt (fun h => h))
              subst hB
              exact vx_out (fun x hx => (hne x hx).elim) hlocks hc1 hc2 hc3 (fun t ht hA => ⟨(), trivial, ⟨Or.inr ⟨rfl, by omega, fun n hn h => absurd (hi_4.mpr (by have e9 : j_4 = n := (by omega); rw [e9]; exact h)) (by omega)⟩, by show TH E (T1 E) G [] t.heap ∧ PA E G h0 pb t.heap ∧ ZS E G pb z t.heap; rw [ht]; exact ⟨hT, ⟨_, _, _, _, hr0, gn9, gp9, gf9, hp9, hf9⟩, hZ⟩⟩, hS.F ht⟩) hS.2.2 (Nat.le_of_ble_eq_true rfl) (Nat.le_of_ble_eq_true rfl)
            · have hT : TH E (T1 E) G [] H := hT.kept (fun q hq => hk q hq (fun h => h))
              have hZ := hZ.kept0 (fun q hq => hk q hq (fun h => h))
              exact absurd rfl hw
          · simp only [lt_I, le_I, eq_I, i_0, i_1, i_2, i_3, i_4, i_5, i_6, i_7, i_8, i_10, i_12, i_16, i_20, i_23, i_24, i_31, i_32, i_63, i_64, i_m1] at c_5
            refine lv_iconst (v := 1) hx hb dX9_ready_41 (by decide) ?_
            refine lv_goto (tgt := 46) hx hb dX9_ready_42 (by decide) ?_
            refine vx_callv (rxS (fun _ => True) (As := [.int 1]) (rest := []) ⟨hx, hb, hml, hown, hts⟩ (c_X9_requireState l hst E z0 1) (cwS 1 hts (gdS ml_X9_88 st_X9_requireState in_X9 co_X9_requireState rfl) rfl rfl rfl (by decide +kernel) ⟨Nat.le_of_ble_eq_true rfl, Nat.le_of_ble_eq_true rfl⟩) trivial (fun U hU hW => hK.go hW hS hAz hU) rfl rfl hl.1 rfl (lv_room (Nat.le_of_ble_eq_true rfl)) dX9_ready_46 ⟨Nat.le_of_ble_eq_true rfl, Nat.le_of_ble_eq_true rfl⟩) hS (fun q _ h => h.elim) (fun q h => h.elim) (fun q _ h => h.elim) (fun En ce q9 _ t H locs ht hvm hw hB hz hk hS hc1 hc2 hc3 => ?_) (fun _ t H locs ht hvm hw hB hz hk hS => ?_)
            · have hT : TH E (T1 E) G [] H := hT.kept (fun q hq => hk q hq (fun h => h))
              have hZ := hZ.kept0 (fun q hq => hk q hq (fun h => h))
              exact absurd hw (by decide)
            · have hT : TH E (T1 E) G [] H := hT.kept (fun q hq => hk q hq (fun h => h))
              have hZ := hZ.kept0 (fun q hq => hk q hq (fun h => h))
              have hr0 := hr0.kept (hk _ hr0.lt (fun h => h))
              have hp9 := hp9.kept (hk _ hp9.lt (fun h => h))
              have hat_4 := hat_4.kept (hk _ hat_4.lt (fun h => h))
              refine lv_aload_n hx hb dX9_ready_49 rfl (lv_at hl 0 rfl) ?_
              refine va_get (D := DG E) (ci := 9) (v := .ref p9) (C := RX9) (T := TX9) (N := 3) hx hb hts iw_X9 hown hK.1 (va_one hr0) 0 rfl rfl 1 (by decide) (hts _ fl_X9_29) (fun _ h9 => h9) rfl dX9_ready_50 ?_
              refine lv_iload_n hx hb dX9_ready_53 rfl (lv_at hl 1 rfl) ?_
              refine va_aldq (D := DG E) hx hb hK.1 (va_one hp9) 0 5 rfl rfl (show vp_in p0 4 from vp_in_iff.mpr (by omega)) dX9_ready_54 ?_
              rw [cj_4]
              refine W.eq (g2 := F0 m 55 ls [.ref b_4]) (by rfl) ?_
              refine lv_iload_n hx hb dX9_ready_55 rfl (lv_at hl 2 rfl) ?_
              refine lv_iload_n hx hb dX9_ready_56 rfl (lv_at hl 3 rfl) ?_
              refine va_callv (rnV (fun H => TH E (T1 E) G [] H ∧ va_at (DG E) vwCl (b_4, .inr (3, [.ref a_4, .ref c_4, .int s_4])) H) (As := [.int p1, .int p2]) (rest := []) ⟨hx, hb, hml, hown, hts⟩ (s_X3_start l E z0 G hGz b_4 p1 p2 gb_4 a_4 c_4 s_4 ga_4 gc_4) (cwV 2 hts (gdV ml_X9_91 im_X3_start se_X3_X3_start in_X3 co_X3_start rfl) rfl rfl rfl (by decide +kernel) ⟨Nat.le_of_ble_eq_true rfl, Nat.le_of_ble_eq_true rfl⟩) ⟨hT, hat_4⟩ (fun U hU hW => hK.go hW hS hAz hU) (va_recv hK.1 (va_one hat_4) (ci := 3) (q0 := 0) rfl rfl) rfl rfl hl.1 rfl (lv_room (Nat.le_of_ble_eq_true rfl)) dX9_ready_57 ⟨Nat.le_of_ble_eq_true rfl, Nat.le_of_ble_eq_true rfl⟩) hS (fun q _ h => h.elim (fun e => by show G q ∈ ([8, 9, 10] : List Nat); rw [e, gb_4]; decide) (fun h => mL (L' := [9, 10]) (L := [8, 9, 10]) (by decide) h)) (fun q h => h.elim (fun e => by show G q ∈ ([8, 9, 10] : List Nat); rw [e, gb_4]; decide) (fun h => mL (L' := [9, 10]) (L := [8, 9, 10]) (by decide) h)) (fun _ t H locs ht hvm hwr_6 hB hz hk hS => ?_)
              rw [ht] at hB
              obtain ⟨hT, s_6, hs_6, hi_6⟩ := hB
              have hr0 := hr0.kept (hk _ hr0.lt (fun h => h.elim (ne_G hG gb_4 (by decide)) (nL hG (by decide))))
              have hp9 := hp9.kept (hk _ hp9.lt (fun h => h.elim (ne_G gp9 gb_4 (by decide)) (nL gp9 (by decide))))
              have hZ : ZS E G pb (fun q : Nat => z q ∧ (q : Int) ≠ p0.toInt) H := hZ.upd hPB hj_4 (L := [9, 10]) (by decide) (by rw [← hb_4]; exact hk) ⟨_, _, _, (by rw [← hb_4]; exact hs_6), ga_4, gc_4, ⟨fun h => absurd h hi_6, fun h => absurd hjI_4 h.2⟩⟩ (fun q _ hq => ⟨fun h => h.1, fun h => ⟨h, by omega⟩⟩)
              refine vx_ret ?_
              refine W.widen (k := 2) (n := 12) (Nat.le_of_ble_eq_true rfl) (Nat.le_of_ble_eq_true rfl) ?_
              exact W.vret hx hb hr (fun t ht hW => ⟨⟨(), rfl, ⟨by omega, fun n hn => by have e9 : j_4 = n := (by omega); rw [← e9]; exact hi_4.mp (by omega)⟩, (by show TH E (T1 E) G [] t.heap ∧ PA E G h0 pb t.heap ∧ ZS E G pb (fun q : Nat => z q ∧ (q : Int) ≠ p0.toInt) t.heap; rw [ht]; exact ⟨hT, ⟨_, _, _, _, hr0, gn9, gp9, gf9, hp9, hf9⟩, hZ⟩)⟩, hS.F ht⟩) hS.2.2 dX9_ready_60
