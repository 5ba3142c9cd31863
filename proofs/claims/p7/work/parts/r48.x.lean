theorem dX9_region_0 : decode cX9_region 0 = .ok (.iload_n 1, 1) := by decide +kernel
theorem dX9_region_1 : decode cX9_region 1 = .ok (.invokestatic 46, 3) := by decide +kernel
theorem dX9_region_4 : decode cX9_region 4 = .ok (.ifCond .eq 26, 3) := by decide +kernel
theorem dX9_region_7 : decode cX9_region 7 = .ok (.iload_n 2, 1) := by decide +kernel
theorem dX9_region_8 : decode cX9_region 8 = .ok (.invokestatic 50, 3) := by decide +kernel
theorem dX9_region_11 : decode cX9_region 11 = .ok (.ifCond .eq 19, 3) := by decide +kernel
theorem dX9_region_14 : decode cX9_region 14 = .ok (.iload 5, 2) := by decide +kernel
theorem dX9_region_16 : decode cX9_region 16 = .ok (.ifCond .lt 14, 3) := by decide +kernel
theorem dX9_region_19 : decode cX9_region 19 = .ok (.iload 5, 2) := by decide +kernel
theorem dX9_region_21 : decode cX9_region 21 = .ok (.bipush 7, 2) := by decide +kernel
theorem dX9_region_23 : decode cX9_region 23 = .ok (.if_icmp .gt 7, 3) := by decide +kernel
theorem dX9_region_26 : decode cX9_region 26 = .ok (.iconst 1, 1) := by decide +kernel
theorem dX9_region_27 : decode cX9_region 27 = .ok (.goto 4, 3) := by decide +kernel
theorem dX9_region_30 : decode cX9_region 30 = .ok (.iconst 0, 1) := by decide +kernel
theorem dX9_region_31 : decode cX9_region 31 = .ok (.invokestatic 53, 3) := by decide +kernel
theorem dX9_region_34 : decode cX9_region 34 = .ok (.iload_n 3, 1) := by decide +kernel
theorem dX9_region_35 : decode cX9_region 35 = .ok (.ifCond .lt 21, 3) := by decide +kernel
theorem dX9_region_38 : decode cX9_region 38 = .ok (.iload 4, 2) := by decide +kernel
theorem dX9_region_40 : decode cX9_region 40 = .ok (.ifCond .lt 16, 3) := by decide +kernel
theorem dX9_region_43 : decode cX9_region 43 = .ok (.iload 4, 2) := by decide +kernel
theorem dX9_region_45 : decode cX9_region 45 = .ok (.bipush 32, 2) := by decide +kernel
theorem dX9_region_47 : decode cX9_region 47 = .ok (.iload_n 3, 1) := by decide +kernel
theorem dX9_region_48 : decode cX9_region 48 = .ok (.isub, 1) := by decide +kernel
theorem dX9_region_49 : decode cX9_region 49 = .ok (.if_icmp .gt 7, 3) := by decide +kernel
theorem dX9_region_52 : decode cX9_region 52 = .ok (.iconst 1, 1) := by decide +kernel
theorem dX9_region_53 : decode cX9_region 53 = .ok (.goto 4, 3) := by decide +kernel
theorem dX9_region_56 : decode cX9_region 56 = .ok (.iconst 0, 1) := by decide +kernel
theorem dX9_region_57 : decode cX9_region 57 = .ok (.invokestatic 53, 3) := by decide +kernel
theorem dX9_region_60 : decode cX9_region 60 = .ok (.aload_n 0, 1) := by decide +kernel
theorem dX9_region_61 : decode cX9_region 61 = .ok (.getfield 22, 3) := by decide +kernel
theorem dX9_region_64 : decode cX9_region 64 = .ok (.iload_n 1, 1) := by decide +kernel
theorem dX9_region_65 : decode cX9_region 65 = .ok (.aaload, 1) := by decide +kernel
theorem dX9_region_66 : decode cX9_region 66 = .ok (.getfield 57, 3) := by decide +kernel
theorem dX9_region_69 : decode cX9_region 69 = .ok (.iload_n 2, 1) := by decide +kernel
theorem dX9_region_70 : decode cX9_region 70 = .ok (.aaload, 1) := by decide +kernel
theorem dX9_region_71 : decode cX9_region 71 = .ok (.iload_n 3, 1) := by decide +kernel
theorem dX9_region_72 : decode cX9_region 72 = .ok (.iload 4, 2) := by decide +kernel
theorem dX9_region_74 : decode cX9_region 74 = .ok (.iload 5, 2) := by decide +kernel
theorem dX9_region_76 : decode cX9_region 76 = .ok (.invokevirtual 61, 3) := by decide +kernel
theorem dX9_region_79 : decode cX9_region 79 = .ok (.return_, 1) := by decide +kernel
set_option maxHeartbeats 8000000 in
set_option maxRecDepth 100000 in
theorem x_X9_region (l : Launch) (hst : l.stackTraces = false) (E : EE) (z0 : Nat) (G : Nat → Nat) (hGz : ∀ q, G q ≠ 0 → z0 ≤ q) (B : AA) (R : RR) (hW : TW G B R) (h0 : Nat) (p0 : Int32) (p1 : Int32) (p2 : Int32) (p3 : Int32) (p4 : Int32) (hG : G h0 = 1) : vx_Met l yX9_region [Cond.code yX9_region cX9_region 6 none] ({ frames := 7, cells := 2, slots := 12, locals := 101 } : Room) (va_Pc [.ref h0, .int p0, .int p1, .int p2, .int p3, .int p4] (fun U => TX E G B R U.heap ∧ KS E z0 U)) (va_Qv (fun (u : AA) => (TW G u R) ∧ (Fr G ([7] : List Nat) B u) ∧ (C_X9_region G B R h0 p0 p1 p2 p3 p4 u)) (fun u t => TX E G u R t.heap) (fun q : Nat => G q ∈ ([7] : List Nat))) (vx_X (fun (_ : Unit) => True) (fun En _ t => (X_X9_region G B R h0 p0 p1 p2 p3 p4 En) ∧ TX E G B R t.heap) (fun q : Nat => G q ∈ ([7] : List Nat))) 2 12 (fun q : Nat => G q ∈ ([7] : List Nat)) := by
  refine vx_ofW (cc := cX9_region) (maxL := 6) (ret := none) (by decide) rfl ?_
  intro p e s m args below meth c s₁ B9 hml hne hv
  obtain ⟨rfl, hT, hK⟩ := hv
  have hx := B9.exec
  have hb := B9.bytes
  have hr := B9.returns
  have hts : ∀ w ∈ TS, w.before ([.ref h0, .int p0, .int p1, .int p2, .int p3, .int p4] : List Value).toArray s = true := fun w hw => hK.2.1 w hw _
  have hown : s.vm.findClass RX9 = some m.cls := findClass_of_methodNamed B9.named
  have hlocks := B9.notSynchronized
  have hS : va_S (fun q : Nat => G q ∈ ([7] : List Nat)) s.heap s.heap [] := va_S.rf
  have hAz : ∀ q, (fun q : Nat => G q ∈ ([7] : List Nat)) q → z0 ≤ q := zL hGz (by decide)
  have hW_0 := hW
  have hl := lv_entry ([.ref h0, .int p0, .int p1, .int p2, .int p3, .int p4]) (n := 6) (Nat.le_of_ble_eq_true rfl)
  rw [lg_entry_eq]
  generalize (lg_sl ([.ref h0, .int p0, .int p1, .int p2, .int p3, .int p4]) ++ List.replicate (6 - (lg_sl ([.ref h0, .int p0, .int p1, .int p2, .int p3, .int p4])).length) Slot.unset).toArray = ls at hl ⊢
  have hl : lv_has ls 6 [(0, .ref h0), (1, .int p0), (2, .int p1), (3, .int p2), (4, .int p3), (5, .int p4)] := hl
  refine lv_iload_n hx hb dX9_region_0 rfl (lv_at hl 1 rfl) ?_
  refine W.callR (W.runS (As := [.int p0]) (rest := []) ⟨hx, hb, hml, hown, hts⟩ (c_X9_isNode l p0) (cwS 1 hts (gdS ml_X9_46 st_X9_isNode in_X9 co_X9_isNode rfl) rfl rfl rfl (by decide +kernel) ⟨Nat.le_of_ble_eq_true rfl, Nat.le_of_ble_eq_true rfl⟩) preEq rfl rfl hl.1 rfl (lv_room (Nat.le_of_ble_eq_true rfl)) dX9_region_1 ⟨Nat.le_of_ble_eq_true rfl, Nat.le_of_ble_eq_true rfl⟩) ?_
  refine W.eq (g2 := F0 m 4 ls [.int (bI (0 ≤ p0.toInt ∧ p0.toInt < 2))]) (by rfl) ?_
  refine lv_if_eq (tgt := 30) hx hb dX9_region_4 (by decide) (fun c_1 => ?_) (fun c_1 => ?_)
  · have c_1 := bI_0 c_1
    refine lv_iconst (v := 0) hx hb dX9_region_30 (by decide) ?_
    refine vx_callv (rxS (fun _ => True) (As := [.int 0]) (rest := []) ⟨hx, hb, hml, hown, hts⟩ (c_X9_require l hst E z0 0) (cwS 1 hts (gdS ml_X9_53 st_X9_require in_X9 co_X9_require rfl) rfl rfl rfl (by decide +kernel) ⟨Nat.le_of_ble_eq_true rfl, Nat.le_of_ble_eq_true rfl⟩) trivial (fun U hU hW => hK.go hW hS hAz hU) rfl rfl hl.1 rfl (lv_room (Nat.le_of_ble_eq_true rfl)) dX9_region_31 ⟨Nat.le_of_ble_eq_true rfl, Nat.le_of_ble_eq_true rfl⟩) hS (fun q _ h => h.elim) (fun q h => h.elim) (fun q _ h => h.elim) (fun En ce q9 _ t H locs ht hvm hw_2 hB hz hk hS hc1 hc2 hc3 => ?_) (fun _ t H locs ht hvm hw_2 hB hz hk hS => ?_)
    · have hT : TX E G B R H := hT.kept (fun q hq => hk q hq (fun h => h))
      subst hB
      exact vx_out (fun x hx => (hne x hx).elim) hlocks hc1 hc2 hc3 (fun t ht hA => ⟨(), trivial, ⟨(Or.inl ⟨c_1, rfl⟩), by show TX E G B R t.heap; rw [ht]; exact hT⟩, hS.F ht⟩) hS.2.2 (Nat.le_of_ble_eq_true rfl) (Nat.le_of_ble_eq_true rfl)
    · exact absurd rfl hw_2
  · have c_1 := bI_n c_1
    refine lv_iload_n hx hb dX9_region_7 rfl (lv_at hl 2 rfl) ?_
    refine W.callR (W.runS (As := [.int p1]) (rest := []) ⟨hx, hb, hml, hown, hts⟩ (c_X9_isRegion l p1) (cwS 1 hts (gdS ml_X9_50 st_X9_isRegion in_X9 co_X9_isRegion rfl) rfl rfl rfl (by decide +kernel) ⟨Nat.le_of_ble_eq_true rfl, Nat.le_of_ble_eq_true rfl⟩) preEq rfl rfl hl.1 rfl (lv_room (Nat.le_of_ble_eq_true rfl)) dX9_region_8 ⟨Nat.le_of_ble_eq_true rfl, Nat.le_of_ble_eq_true rfl⟩) ?_
    refine W.eq (g2 := F0 m 11 ls [.int (bI (0 ≤ p1.toInt ∧ p1.toInt < 6))]) (by rfl) ?_
    refine lv_if_eq (tgt := 30) hx hb dX9_region_11 (by decide) (fun c_3 => ?_) (fun c_3 => ?_)
    · have c_3 := bI_0 c_3
      refine lv_iconst (v := 0) hx hb dX9_region_30 (by decide) ?_
      refine vx_callv (rxS (fun _ => True) (As := [.int 0]) (rest := []) ⟨hx, hb, hml, hown, hts⟩ (c_X9_require l hst E z0 0) (cwS 1 hts (gdS ml_X9_53 st_X9_require in_X9 co_X9_require rfl) rfl rfl rfl (by decide +kernel) ⟨Nat.le_of_ble_eq_true rfl, Nat.le_of_ble_eq_true rfl⟩) trivial (fun U hU hW => hK.go hW hS hAz hU) rfl rfl hl.1 rfl (lv_room (Nat.le_of_ble_eq_true rfl)) dX9_region_31 ⟨Nat.le_of_ble_eq_true rfl, Nat.le_of_ble_eq_true rfl⟩) hS (fun q _ h => h.elim) (fun q h => h.elim) (fun q _ h => h.elim) (fun En ce q9 _ t H locs ht hvm hw_4 hB hz hk hS hc1 hc2 hc3 => ?_) (fun _ t H locs ht hvm hw_4 hB hz hk hS => ?_)
      · have hT : TX E G B R H := hT.kept (fun q hq => hk q hq (fun h => h))
        subst hB
        exact vx_out (fun x hx => (hne x hx).elim) hlocks hc1 hc2 hc3 (fun t ht hA => ⟨(), trivial, ⟨(Or.inr (Or.inl ⟨c_1, c_3, rfl⟩)), by show TX E G B R t.heap; rw [ht]; exact hT⟩, hS.F ht⟩) hS.2.2 (Nat.le_of_ble_eq_true rfl) (Nat.le_of_ble_eq_true rfl)
      · exact absurd rfl hw_4
    · have c_3 := bI_n c_3
      refine lv_iload hx hb dX9_region_14 (lv_at hl 5 rfl) ?_
      refine lv_if_lt (tgt := 30) hx hb dX9_region_16 (by decide) (fun c_5 => ?_) (fun c_5 => ?_)
      · simp only [lt_I, le_I, eq_I, i_0, i_1, i_2, i_3, i_4, i_5, i_6, i_7, i_8, i_10, i_12, i_16, i_20, i_23, i_24, i_31, i_32, i_63, i_64, i_m1] at c_5
        refine lv_iconst (v := 0) hx hb dX9_region_30 (by decide) ?_
        refine vx_callv (rxS (fun _ => True) (As := [.int 0]) (rest := []) ⟨hx, hb, hml, hown, hts⟩ (c_X9_require l hst E z0 0) (cwS 1 hts (gdS ml_X9_53 st_X9_require in_X9 co_X9_require rfl) rfl rfl rfl (by decide +kernel) ⟨Nat.le_of_ble_eq_true rfl, Nat.le_of_ble_eq_true rfl⟩) trivial (fun U hU hW => hK.go hW hS hAz hU) rfl rfl hl.1 rfl (lv_room (Nat.le_of_ble_eq_true rfl)) dX9_region_31 ⟨Nat.le_of_ble_eq_true rfl, Nat.le_of_ble_eq_true rfl⟩) hS (fun q _ h => h.elim) (fun q h => h.elim) (fun q _ h => h.elim) (fun En ce q9 _ t H locs ht hvm hw_6 hB hz hk hS hc1 hc2 hc3 => ?_) (fun _ t H locs ht hvm hw_6 hB hz hk hS => ?_)
        · have hT : TX E G B R H := hT.kept (fun q hq => hk q hq (fun h => h))
          subst hB
          exact vx_out (fun x hx => (hne x hx).elim) hlocks hc1 hc2 hc3 (fun t ht hA => ⟨(), trivial, ⟨(Or.inr (Or.inr (Or.inl ⟨c_1, c_3, c_5, rfl⟩))), by show TX E G B R t.heap; rw [ht]; exact hT⟩, hS.F ht⟩) hS.2.2 (Nat.le_of_ble_eq_true rfl) (Nat.le_of_ble_eq_true rfl)
        · exact absurd rfl hw_6
      · simp only [lt_I, le_I, eq_I, i_0, i_1, i_2, i_3, i_4, i_5, i_6, i_7, i_8, i_10, i_12, i_16, i_20, i_23, i_24, i_31, i_32, i_63, i_64, i_m1] at c_5
        refine lv_iload hx hb dX9_region_19 (lv_at hl 5 rfl) ?_
        refine lv_bipush (v := 7) hx hb dX9_region_21 (by decide) ?_
        refine lv_icmp_gt (tgt := 30) hx hb dX9_region_23 (by decide) (fun c_7 => ?_) (fun c_7 => ?_)
        · simp only [lt_I, le_I, eq_I, i_0, i_1, i_2, i_3, i_4, i_5, i_6, i_7, i_8, i_10, i_12, i_16, i_20, i_23, i_24, i_31, i_32, i_63, i_64, i_m1] at c_7
          refine lv_iconst (v := 0) hx hb dX9_region_30 (by decide) ?_
          refine vx_callv (rxS (fun _ => True) (As := [.int 0]) (rest := []) ⟨hx, hb, hml, hown, hts⟩ (c_X9_require l hst E z0 0) (cwS 1 hts (gdS ml_X9_53 st_X9_require in_X9 co_X9_require rfl) rfl rfl rfl (by decide +kernel) ⟨Nat.le_of_ble_eq_true rfl, Nat.le_of_ble_eq_true rfl⟩) trivial (fun U hU hW => hK.go hW hS hAz hU) rfl rfl hl.1 rfl (lv_room (Nat.le_of_ble_eq_true rfl)) dX9_region_31 ⟨Nat.le_of_ble_eq_true rfl, Nat.le_of_ble_eq_true rfl⟩) hS (fun q _ h => h.elim) (fun q h => h.elim) (fun q _ h => h.elim) (fun En ce q9 _ t H locs ht hvm hw_8 hB hz hk hS hc1 hc2 hc3 => ?_) (fun _ t H locs ht hvm hw_8 hB hz hk hS => ?_)
          · have hT : TX E G B R H := hT.kept (fun q hq => hk q hq (fun h => h))
            subst hB
            exact vx_out (fun x hx => (hne x hx).elim) hlocks hc1 hc2 hc3 (fun t ht hA => ⟨(), trivial, ⟨(Or.inr (Or.inr (Or.inr (Or.inl ⟨c_1, c_3, c_5, c_7, rfl⟩)))), by show TX E G B R t.heap; rw [ht]; exact hT⟩, hS.F ht⟩) hS.2.2 (Nat.le_of_ble_eq_true rfl) (Nat.le_of_ble_eq_true rfl)
          · exact absurd rfl hw_8
        · simp only [lt_I, le_I, eq_I, i_0, i_1, i_2, i_3, i_4, i_5, i_6, i_7, i_8, i_10, i_12, i_16, i_20, i_23, i_24, i_31, i_32, i_63, i_64, i_m1] at c_7
          refine lv_iconst (v := 1) hx hb dX9_region_26 (by decide) ?_
          refine lv_goto (tgt := 31) hx hb dX9_region_27 (by decide) ?_
          refine vx_callv (rxS (fun _ => True) (As := [.int 1]) (rest := []) ⟨hx, hb, hml, hown, hts⟩ (c_X9_require l hst E z0 1) (cwS 1 hts (gdS ml_X9_53 st_X9_require in_X9 co_X9_require rfl) rfl rfl rfl (by decide +kernel) ⟨Nat.le_of_ble_eq_true rfl, Nat.le_of_ble_eq_true rfl⟩) trivial (fun U hU hW => hK.go hW hS hAz hU) rfl rfl hl.1 rfl (lv_room (Nat.le_of_ble_eq_true rfl)) dX9_region_31 ⟨Nat.le_of_ble_eq_true rfl, Nat.le_of_ble_eq_true rfl⟩) hS (fun q _ h => h.elim) (fun q h => h.elim) (fun q _ h => h.elim) (fun En ce q9 _ t H locs ht hvm hw_9 hB hz hk hS hc1 hc2 hc3 => ?_) (fun _ t H locs ht hvm hw_9 hB hz hk hS => ?_)
          · exact absurd hw_9 (by decide)
          · have hT : TX E G B R H := hT.kept (fun q hq => hk q hq (fun h => h))
            refine lv_iload_n hx hb dX9_region_34 rfl (lv_at hl 3 rfl) ?_
            refine lv_if_lt (tgt := 56) hx hb dX9_region_35 (by decide) (fun c_10 => ?_) (fun c_10 => ?_)
            · simp only [lt_I, le_I, eq_I, i_0, i_1, i_2, i_3, i_4, i_5, i_6, i_7, i_8, i_10, i_12, i_16, i_20, i_23, i_24, i_31, i_32, i_63, i_64, i_m1] at c_10
              refine lv_iconst (v := 0) hx hb dX9_region_56 (by decide) ?_
              refine vx_callv (rxS (fun _ => True) (As := [.int 0]) (rest := []) ⟨hx, hb, hml, hown, hts⟩ (c_X9_require l hst E z0 0) (cwS 1 hts (gdS ml_X9_53 st_X9_require in_X9 co_X9_require rfl) rfl rfl rfl (by decide +kernel) ⟨Nat.le_of_ble_eq_true rfl, Nat.le_of_ble_eq_true rfl⟩) trivial (fun U hU hW => hK.go hW hS hAz hU) rfl rfl hl.1 rfl (lv_room (Nat.le_of_ble_eq_true rfl)) dX9_region_57 ⟨Nat.le_of_ble_eq_true rfl, Nat.le_of_ble_eq_true rfl⟩) hS (fun q _ h => h.elim) (fun q h => h.elim) (fun q _ h => h.elim) (fun En ce q9 _ t H locs ht hvm hw_11 hB hz hk hS hc1 hc2 hc3 => ?_) (fun _ t H locs ht hvm hw_11 hB hz hk hS => ?_)
              · have hT : TX E G B R H := hT.kept (fun q hq => hk q hq (fun h => h))
                subst hB
                exact vx_out (fun x hx => (hne x hx).elim) hlocks hc1 hc2 hc3 (fun t ht hA => ⟨(), trivial, ⟨(Or.inr (Or.inr (Or.inr (Or.inr (Or.inl ⟨c_1, c_3, c_5, c_7, c_10, rfl⟩))))), by show TX E G B R t.heap; rw [ht]; exact hT⟩, hS.F ht⟩) hS.2.2 (Nat.le_of_ble_eq_true rfl) (Nat.le_of_ble_eq_true rfl)
              · exact absurd rfl hw_11
            · simp only [lt_I, le_I, eq_I, i_0, i_1, i_2, i_3, i_4, i_5, i_6, i_7, i_8, i_10, i_12, i_16, i_20, i_23, i_24, i_31, i_32, i_63, i_64, i_m1] at c_10
              refine lv_iload hx hb dX9_region_38 (lv_at hl 4 rfl) ?_
              refine lv_if_lt (tgt := 56) hx hb dX9_region_40 (by decide) (fun c_12 => ?_) (fun c_12 => ?_)
              · simp only [lt_I, le_I, eq_I, i_0, i_1, i_2, i_3, i_4, i_5, i_6, i_7, i_8, i_10, i_12, i_16, i_20, i_23, i_24, i_31, i_32, i_63, i_64, i_m1] at c_12
                refine lv_iconst (v := 0) hx hb dX9_region_56 (by decide) ?_
                refine vx_callv (rxS (fun _ => True) (As := [.int 0]) (rest := []) ⟨hx, hb, hml, hown, hts⟩ (c_X9_require l hst E z0 0) (cwS 1 hts (gdS ml_X9_53 st_X9_require in_X9 co_X9_require rfl) rfl rfl rfl (by decide +kernel) ⟨Nat.le_of_ble_eq_true rfl, Nat.le_of_ble_eq_true rfl⟩) trivial (fun U hU hW => hK.go hW hS hAz hU) rfl rfl hl.1 rfl (lv_room (Nat.le_of_ble_eq_true rfl)) dX9_region_57 ⟨Nat.le_of_ble_eq_true rfl, Nat.le_of_ble_eq_true rfl⟩) hS (fun q _ h => h.elim) (fun q h => h.elim) (fun q _ h => h.elim) (fun En ce q9 _ t H locs ht hvm hw_13 hB hz hk hS hc1 hc2 hc3 => ?_) (fun _ t H locs ht hvm hw_13 hB hz hk hS => ?_)
                · have hT : TX E G B R H := hT.kept (fun q hq => hk q hq (fun h => h))
                  subst hB
                  exact vx_out (fun x hx => (hne x hx).elim) hlocks hc1 hc2 hc3 (fun t ht hA => ⟨(), trivial, ⟨(Or.inr (Or.inr (Or.inr (Or.inr (Or.inr (Or.inl ⟨c_1, c_3, c_5, c_7, c_10, c_12, rfl⟩)))))), by show TX E G B R t.heap; rw [ht]; exact hT⟩, hS.F ht⟩) hS.2.2 (Nat.le_of_ble_eq_true rfl) (Nat.le_of_ble_eq_true rfl)
                · exact absurd rfl hw_13
              · simp only [lt_I, le_I, eq_I, i_0, i_1, i_2, i_3, i_4, i_5, i_6, i_7, i_8, i_10, i_12, i_16, i_20, i_23, i_24, i_31, i_32, i_63, i_64, i_m1] at c_12
                refine lv_iload hx hb dX9_region_43 (lv_at hl 4 rfl) ?_
                refine lv_bipush (v := 32) hx hb dX9_region_45 (by decide) ?_
                refine lv_iload_n hx hb dX9_region_47 rfl (lv_at hl 3 rfl) ?_
                refine lv_isub hx hb dX9_region_48 ?_
                have bd_14 := s_bd p2
                refine lv_topi (fun x_15 ex_15 => ?_)
                have fx_15 : x_15.toInt = 32 - p2.toInt := by have h9 := s_sub (x := 32) (y := p2) (by rw [i_32]; omega) (by rw [i_32]; omega); rw [i_32] at h9; rw [ex_15]; exact h9
                refine lv_icmp_gt (tgt := 56) hx hb dX9_region_49 (by decide) (fun c_16 => ?_) (fun c_16 => ?_)
                · simp only [lt_I, le_I, eq_I, i_0, i_1, i_2, i_3, i_4, i_5, i_6, i_7, i_8, i_10, i_12, i_16, i_20, i_23, i_24, i_31, i_32, i_63, i_64, i_m1] at c_16
                  refine lv_iconst (v := 0) hx hb dX9_region_56 (by decide) ?_
                  refine vx_callv (rxS (fun _ => True) (As := [.int 0]) (rest := []) ⟨hx, hb, hml, hown, hts⟩ (c_X9_require l hst E z0 0) (cwS 1 hts (gdS ml_X9_53 st_X9_require in_X9 co_X9_require rfl) rfl rfl rfl (by decide +kernel) ⟨Nat.le_of_ble_eq_true rfl, Nat.le_of_ble_eq_true rfl⟩) trivial (fun U hU hW => hK.go hW hS hAz hU) rfl rfl hl.1 rfl (lv_room (Nat.le_of_ble_eq_true rfl)) dX9_region_57 ⟨Nat.le_of_ble_eq_true rfl, Nat.le_of_ble_eq_true rfl⟩) hS (fun q _ h => h.elim) (fun q h => h.elim) (fun q _ h => h.elim) (fun En ce q9 _ t H locs ht hvm hw_17 hB hz hk hS hc1 hc2 hc3 => ?_) (fun _ t H locs ht hvm hw_17 hB hz hk hS => ?_)
                  · have hT : TX E G B R H := hT.kept (fun q hq => hk q hq (fun h => h))
                    subst hB
                    exact vx_out (fun x hx => (hne x hx).elim) hlocks hc1 hc2 hc3 (fun t ht hA => ⟨(), trivial, ⟨(Or.inr (Or.inr (Or.inr (Or.inr (Or.inr (Or.inr ⟨c_1, c_3, c_5, c_7, c_10, c_12, x_15, ex_15, fx_15, c_16, rfl⟩)))))), by show TX E G B R t.heap; rw [ht]; exact hT⟩, hS.F ht⟩) hS.2.2 (Nat.le_of_ble_eq_true rfl) (Nat.le_of_ble_eq_true rfl)
                  · exact absurd rfl hw_17
                · simp only [lt_I, le_I, eq_I, i_0, i_1, i_2, i_3, i_4, i_5, i_6, i_7, i_8, i_10, i_12, i_16, i_20, i_23, i_24, i_31, i_32, i_63, i_64, i_m1] at c_16
                  refine lv_iconst (v := 1) hx hb dX9_region_52 (by decide) ?_
                  refine lv_goto (tgt := 57) hx hb dX9_region_53 (by decide) ?_
                  refine vx_callv (rxS (fun _ => True) (As := [.int 1]) (rest := []) ⟨hx, hb, hml, hown, hts⟩ (c_X9_require l hst E z0 1) (cwS 1 hts (gdS ml_X9_53 st_X9_require in_X9 co_X9_require rfl) rfl rfl rfl (by decide +kernel) ⟨Nat.le_of_ble_eq_true rfl, Nat.le_of_ble_eq_true rfl⟩) trivial (fun U hU hW => hK.go hW hS hAz hU) rfl rfl hl.1 rfl (lv_room (Nat.le_of_ble_eq_true rfl)) dX9_region_57 ⟨Nat.le_of_ble_eq_true rfl, Nat.le_of_ble_eq_true rfl⟩) hS (fun q _ h => h.elim) (fun q h => h.elim) (fun q _ h => h.elim) (fun En ce q9 _ t H locs ht hvm hw_18 hB hz hk hS hc1 hc2 hc3 => ?_) (fun _ t H locs ht hvm hw_18 hB hz hk hS => ?_)
                  · exact absurd hw_18 (by decide)
                  · have hT : TX E G B R H := hT.kept (fun q hq => hk q hq (fun h => h))
                    refine lv_aload_n hx hb dX9_region_60 rfl (lv_at hl 0 rfl) ?_
                    have ha_19 := tx_1 hT hG
                    have hg_20 : G (R h0 0) = 2 := (tw_1 hW hG).1
                    refine va_get (D := DG E) (ci := 9) (v := .ref (R h0 0)) (C := RX9) (T := TX9) (N := 3) hx hb hts iw_X9 hown hK.1 (va_one ha_19) 0 rfl rfl 0 (by decide) (hts _ fl_X9_22) (fun _ h9 => h9) rfl dX9_region_61 ?_
                    refine lv_iload_n hx hb dX9_region_64 rfl (lv_at hl 1 rfl) ?_
                    have ha_21 := tx_2 hT hg_20
                    have hi_22 : vp_in p0 2 := vp_in_iff.mpr (by omega)
                    obtain ⟨n_23, hn_23, en_23⟩ := x_nat (x := p0) (by omega)
                    have hg_24 : G (R (R h0 0) n_23) = 5 := (tw_2 hW hg_20) n_23 (by omega)
                    refine va_aldq (D := DG E) hx hb hK.1 (va_one ha_21) 0 3 rfl rfl hi_22 dX9_region_65 ?_
                    refine W.eq (g2 := F0 m 66 ls [.ref (R (R h0 0) n_23)]) (by rw [en_23]; rfl) ?_
                    have ha_25 := tx_5 hT hg_24
                    have hg_26 : G (R (R (R h0 0) n_23) 1) = 6 := (tw_5 hW hg_24).2.1
                    refine va_get (D := DG E) (ci := 1) (v := .ref (R (R (R h0 0) n_23) 1)) (C := RX1) (T := TX1) (N := 5) hx hb hts iw_X1 hown hK.1 (va_one ha_25) 0 rfl rfl 1 (by decide) (hts _ fl_X9_57) (fun _ h9 => h9) rfl dX9_region_66 ?_
                    refine lv_iload_n hx hb dX9_region_69 rfl (lv_at hl 2 rfl) ?_
                    have ha_27 := tx_6 hT hg_26
                    have hi_28 : vp_in p1 6 := vp_in_iff.mpr (by omega)
                    obtain ⟨n_29, hn_29, en_29⟩ := x_nat (x := p1) (by omega)
                    have hg_30 : G (R (R (R (R h0 0) n_23) 1) n_29) = 7 := (tw_6 hW hg_26) n_29 (by omega)
                    refine va_aldq (D := DG E) hx hb hK.1 (va_one ha_27) 0 4 rfl rfl hi_28 dX9_region_70 ?_
                    refine W.eq (g2 := F0 m 71 ls [.ref (R (R (R (R h0 0) n_23) 1) n_29)]) (by rw [en_29]; rfl) ?_
                    refine lv_iload_n hx hb dX9_region_71 rfl (lv_at hl 3 rfl) ?_
                    refine lv_iload hx hb dX9_region_72 (lv_at hl 4 rfl) ?_
                    refine lv_iload hx hb dX9_region_74 (lv_at hl 5 rfl) ?_
                    have ha_31 := tx_7 hT hg_30
                    refine va_callv (rnV (fun H => TX E G B R H) (As := [.int p2, .int p3, .int p4]) (rest := []) ⟨hx, hb, hml, hown, hts⟩ (x_X6_become l E z0 G hGz B R hW (R (R (R (R h0 0) n_23) 1) n_29) p2 p3 p4 hg_30) (cwV 3 hts (gdV ml_X9_61 im_X6_become se_X6_X6_become in_X6 co_X6_become rfl) rfl rfl rfl (by decide +kernel) ⟨Nat.le_of_ble_eq_true rfl, Nat.le_of_ble_eq_true rfl⟩) hT (fun U hU hW => hK.go hW hS hAz hU) (va_recv hK.1 (va_one ha_31) (ci := 6) (q0 := 0) rfl rfl) rfl rfl hl.1 rfl (lv_room (Nat.le_of_ble_eq_true rfl)) dX9_region_76 ⟨Nat.le_of_ble_eq_true rfl, Nat.le_of_ble_eq_true rfl⟩) hS (fun q _ h => mL (L' := [7]) (L := [7]) (by decide) h) (fun q h => mL (L' := [7]) (L := [7]) (by decide) h) (fun U_33 t H locs ht hvm hwr_32 hB hz hk hS => ?_)
                    have hT : TX E G U_33 R H := by rw [ht] at hB; exact hB
                    have hWr_32 : TW G U_33 R := hwr_32.1
                    have hW := hWr_32
                    have hFr_32 : Fr G [7] B U_33 := hwr_32.2.1
                    have hCr_32 : C_X6_become G B R (R (R (R (R h0 0) n_23) 1) n_29) p2 p3 p4 U_33 := hwr_32.2.2
                    refine vx_ret ?_
                    refine W.widen (k := 2) (n := 12) (Nat.le_of_ble_eq_true rfl) (Nat.le_of_ble_eq_true rfl) ?_
                    exact W.vret hx hb hr (fun t ht hW9 => ⟨⟨U_33, rfl, ⟨hW, (Fr.c Fr.rf hFr_32 (by decide)), ⟨c_1, c_3, c_5, c_7, c_10, c_12, x_15, ex_15, fx_15, c_16, n_23, hn_23, n_29, hn_29, U_33, hFr_32, hCr_32, rfl⟩⟩, (by show TX E G U_33 R t.heap; rw [ht]; exact hT)⟩, hS.F ht⟩) hS.2.2 dX9_region_79
theorem dX9_store_0 : decode cX9_store 0 = .ok (.iload_n 1, 1) := by decide +kernel
theorem dX9_store_1 : decode cX9_store 1 = .ok (.invokestatic 46, 3) := by decide +kernel
theorem dX9_store_4 : decode cX9_store 4 = .ok (.ifCond .eq 14, 3) := by decide +kernel
theorem dX9_store_7 : decode cX9_store 7 = .ok (.iload_n 2, 1) := by decide +kernel
theorem dX9_store_8 : decode cX9_store 8 = .ok (.invokestatic 67, 3) := by decide +kernel
theorem dX9_store_11 : decode cX9_store 11 = .ok (.ifCond .eq 7, 3) := by decide +kernel
theorem dX9_store_14 : decode cX9_store 14 = .ok (.iconst 1, 1) := by decide +kernel
theorem dX9_store_15 : decode cX9_store 15 = .ok (.goto 4, 3) := by decide +kernel
theorem dX9_store_18 : decode cX9_store 18 = .ok (.iconst 0, 1) := by decide +kernel
theorem dX9_store_19 : decode cX9_store 19 = .ok (.invokestatic 53, 3) := by decide +kernel
theorem dX9_store_22 : decode cX9_store 22 = .ok (.aload_n 0, 1) := by decide +kernel
theorem dX9_store_23 : decode cX9_store 23 = .ok (.getfield 22, 3) := by decide +kernel
theorem dX9_store_26 : decode cX9_store 26 = .ok (.iload_n 1, 1) := by decide +kernel
theorem dX9_store_27 : decode cX9_store 27 = .ok (.aaload, 1) := by decide +kernel
theorem dX9_store_28 : decode cX9_store 28 = .ok (.iload_n 2, 1) := by decide +kernel
theorem dX9_store_29 : decode cX9_store 29 = .ok (.iload_n 3, 1) := by decide +kernel
theorem dX9_store_30 : decode cX9_store 30 = .ok (.invokevirtual 70, 3) := by decide +kernel
theorem dX9_store_33 : decode cX9_store 33 = .ok (.return_, 1) := by decide +kernel
set_option maxHeartbeats 8000000 in
set_option maxRecDepth 100000 in
theorem x_X9_store (l : Launch) (hst : l.stackTraces = false) (E : EE) (z0 : Nat) (G : Nat → Nat) (hGz : ∀ q, G q ≠ 0 → z0 ≤ q) (B : AA) (R : RR) (hW : TW G B R) (h0 : Nat) (p0 : Int32) (p1 : Int32) (p2 : Int32) (hG : G h0 = 1) : vx_Met l yX9_store [Cond.code yX9_store cX9_store 4 none] ({ frames := 7, cells := 1, slots := 6, locals := 101 } : Room) (va_Pc [.ref h0, .int p0, .int p1, .int p2] (fun U => TX E G B R U.heap ∧ KS E z0 U)) (va_Qv (fun (u : AA) => (TW G u R) ∧ (Fr G ([14] : List Nat) B u) ∧ (C_X9_store G B R h0 p0 p1 p2 u)) (fun u t => TX E G u R t.heap) (fun q : Nat => G q ∈ ([14] : List Nat))) (vx_X (fun (_ : Unit) => True) (fun En _ t => (X_X9_store G B R h0 p0 p1 p2 En) ∧ TX E G B R t.heap) (fun q : Nat => G q ∈ ([14] : List Nat))) 1 6 (fun q : Nat => G q ∈ ([14] : List Nat)) := by
  refine vx_ofW (cc := cX9_store) (maxL := 4) (ret := none) (by decide) rfl ?_
  intro p e s m args below meth c s₁ B9 hml hne hv
  obtain ⟨rfl, hT, hK⟩ := hv
  have hx := B9.exec
  have hb := B9.bytes
  have hr := B9.returns
  have hts : ∀ w ∈ TS, w.before ([.ref h0, .int p0, .int p1, .int p2] : List Value).toArray s = true := fun w hw => hK.2.1 w hw _
  have hown : s.vm.findClass RX9 = some m.cls := findClass_of_methodNamed B9.named
  have hlocks := B9.notSynchronized
  have hS : va_S (fun q : Nat => G q ∈ ([14] : List Nat)) s.heap s.heap [] := va_S.rf
  have hAz : ∀ q, (fun q : Nat => G q ∈ ([14] : List Nat)) q → z0 ≤ q := zL hGz (by decide)
  have hW_0 := hW
  have hl := lv_entry ([.ref h0, .int p0, .int p1, .int p2]) (n := 4) (Nat.le_of_ble_eq_true rfl)
  rw [lg_entry_eq]
  generalize (lg_sl ([.ref h0, .int p0, .int p1, .int p2]) ++ List.replicate (4 - (lg_sl ([.ref h0, .int p0, .int p1, .int p2])).length) Slot.unset).toArray = ls at hl ⊢
  have hl : lv_has ls 4 [(0, .ref h0), (1, .int p0), (2, .int p1), (3, .int p2)] := hl
  refine lv_iload_n hx hb dX9_store_0 rfl (lv_at hl 1 rfl) ?_
  refine W.callR (W.runS (As := [.int p0]) (rest := []) ⟨hx, hb, hml, hown, hts⟩ (c_X9_isNode l p0) (cwS 1 hts (gdS ml_X9_46 st_X9_isNode in_X9 co_X9_isNode rfl) rfl rfl rfl (by decide +kernel) ⟨Nat.le_of_ble_eq_true rfl, Nat.le_of_ble_eq_true rfl⟩) preEq rfl rfl hl.1 rfl (lv_room (Nat.le_of_ble_eq_true rfl)) dX9_store_1 ⟨Nat.le_of_ble_eq_true rfl, Nat.le_of_ble_eq_true rfl⟩) ?_
  refine W.eq (g2 := F0 m 4 ls [.int (bI (0 ≤ p0.toInt ∧ p0.toInt < 2))]) (by rfl) ?_
  refine lv_if_eq (tgt := 18) hx hb dX9_store_4 (by decide) (fun c_1 => ?_) (fun c_1 => ?_)
  · have c_1 := bI_0 c_1
    refine lv_iconst (v := 0) hx hb dX9_store_18 (by decide) ?_
    refine vx_callv (rxS (fun _ => True) (As := [.int 0]) (rest := []) ⟨hx, hb, hml, hown, hts⟩ (c_X9_require l hst E z0 0) (cwS 1 hts (gdS ml_X9_53 st_X9_require in_X9 co_X9_require rfl) rfl rfl rfl (by decide +kernel) ⟨Nat.le_of_ble_eq_true rfl, Nat.le_of_ble_eq_true rfl⟩) trivial (fun U hU hW => hK.go hW hS hAz hU) rfl rfl hl.1 rfl (lv_room (Nat.le_of_ble_eq_true rfl)) dX9_store_19 ⟨Nat.le_of_ble_eq_true rfl, Nat.le_of_ble_eq_true rfl⟩) hS (fun q _ h => h.elim) (fun q h => h.elim) (fun q _ h => h.elim) (fun En ce q9 _ t H locs ht hvm hw_2 hB hz hk hS hc1 hc2 hc3 => ?_) (fun _ t H locs ht hvm hw_2 hB hz hk hS => ?_)
    · have hT : TX E G B R H := hT.kept (fun q hq => hk q hq (fun h => h))
      subst hB
      exact vx_out (fun x hx => (hne x hx).elim) hlocks hc1 hc2 hc3 (fun t ht hA => ⟨(), trivial, ⟨(Or.inl ⟨c_1, rfl⟩), by show TX E G B R t.heap; rw [ht]; exact hT⟩, hS.F ht⟩) hS.2.2 (Nat.le_of_ble_eq_true rfl) (Nat.le_of_ble_eq_true rfl)
    · exact absurd rfl hw_2
  · have c_1 := bI_n c_1
    refine lv_iload_n hx hb dX9_store_7 rfl (lv_at hl 2 rfl) ?_
    refine W.callR (W.runS (As := [.int p1]) (rest := []) ⟨hx, hb, hml, hown, hts⟩ (c_X9_isCell l p1) (cwS 1 hts (gdS ml_X9_67 st_X9_isCell in_X9 co_X9_isCell rfl) rfl rfl rfl (by decide +kernel) ⟨Nat.le_of_ble_eq_true rfl, Nat.le_of_ble_eq_true rfl⟩) preEq rfl rfl hl.1 rfl (lv_room (Nat.le_of_ble_eq_true rfl)) dX9_store_8 ⟨Nat.le_of_ble_eq_true rfl, Nat.le_of_ble_eq_true rfl⟩) ?_
    refine W.eq (g2 := F0 m 11 ls [.int (bI (0 ≤ p1.toInt ∧ p1.toInt < 32))]) (by rfl) ?_
    refine lv_if_eq (tgt := 18) hx hb dX9_store_11 (by decide) (fun c_3 => ?_) (fun c_3 => ?_)
    · have c_3 := bI_0 c_3
      refine lv_iconst (v := 0) hx hb dX9_store_18 (by decide) ?_
      refine vx_callv (rxS (fun _ => True) (As := [.int 0]) (rest := []) ⟨hx, hb, hml, hown, hts⟩ (c_X9_require l hst E z0 0) (cwS 1 hts (gdS ml_X9_53 st_X9_require in_X9 co_X9_require rfl) rfl rfl rfl (by decide +kernel) ⟨Nat.le_of_ble_eq_true rfl, Nat.le_of_ble_eq_true rfl⟩) trivial (fun U hU hW => hK.go hW hS hAz hU) rfl rfl hl.1 rfl (lv_room (Nat.le_of_ble_eq_true rfl)) dX9_store_19 ⟨Nat.le_of_ble_eq_true rfl, Nat.le_of_ble_eq_true rfl⟩) hS (fun q _ h => h.elim) (fun q h => h.elim) (fun q _ h => h.elim) (fun En ce q9 _ t H locs ht hvm hw_4 hB hz hk hS hc1 hc2 hc3 => ?_) (fun _ t H locs ht hvm hw_4 hB hz hk hS => ?_)
      · have hT : TX E G B R H := hT.kept (fun q hq => hk q hq (fun h => h))
        subst hB
        exact vx_out (fun x hx => (hne x hx).elim) hlocks hc1 hc2 hc3 (fun t ht hA => ⟨(), trivial, ⟨(Or.inr ⟨c_1, c_3, rfl⟩), by show TX E G B R t.heap; rw [ht]; exact hT⟩, hS.F ht⟩) hS.2.2 (Nat.le_of_ble_eq_true rfl) (Nat.le_of_ble_eq_true rfl)
      · exact absurd rfl hw_4
    · have c_3 := bI_n c_3
      refine lv_iconst (v := 1) hx hb dX9_store_14 (by decide) ?_
      refine lv_goto (tgt := 19) hx hb dX9_store_15 (by decide) ?_
      refine vx_callv (rxS (fun _ => True) (As := [.int 1]) (rest := []) ⟨hx, hb, hml, hown, hts⟩ (c_X9_require l hst E z0 1) (cwS 1 hts (gdS ml_X9_53 st_X9_require in_X9 co_X9_require rfl) rfl rfl rfl (by decide +kernel) ⟨Nat.le_of_ble_eq_true rfl, Nat.le_of_ble_eq_true rfl⟩) trivial (fun U hU hW => hK.go hW hS hAz hU) rfl rfl hl.1 rfl (lv_room (Nat.le_of_ble_eq_true rfl)) dX9_store_19 ⟨Nat.le_of_ble_eq_true rfl, Nat.le_of_ble_eq_true rfl⟩) hS (fun q _ h => h.elim) (fun q h => h.elim) (fun q _ h => h.elim) (fun En ce q9 _ t H locs ht hvm hw_5 hB hz hk hS hc1 hc2 hc3 => ?_) (fun _ t H locs ht hvm hw_5 hB hz hk hS => ?_)
      · exact absurd hw_5 (by decide)
      · have hT : TX E G B R H := hT.kept (fun q hq => hk q hq (fun h => h))
        refine lv_aload_n hx hb dX9_store_22 rfl (lv_at hl 0 rfl) ?_
        have ha_6 := tx_1 hT hG
        have hg_7 : G (R h0 0) = 2 := (tw_1 hW hG).1
        refine va_get (D := DG E) (ci := 9) (v := .ref (R h0 0)) (C := RX9) (T := TX9) (N := 3) hx hb hts iw_X9 hown hK.1 (va_one ha_6) 0 rfl rfl 0 (by decide) (hts _ fl_X9_22) (fun _ h9 => h9) rfl dX9_store_23 ?_
        refine lv_iload_n hx hb dX9_store_26 rfl (lv_at hl 1 rfl) ?_
        have ha_8 := tx_2 hT hg_7
        have hi_9 : vp_in p0 2 := vp_in_iff.mpr (by omega)
        obtain ⟨n_10, hn_10, en_10⟩ := x_nat (x := p0) (by omega)
        have hg_11 : G (R (R h0 0) n_10) = 5 := (tw_2 hW hg_7) n_10 (by omega)
        refine va_aldq (D := DG E) hx hb hK.1 (va_one ha_8) 0 3 rfl rfl hi_9 dX9_store_27 ?_
        refine W.eq (g2 := F0 m 28 ls [.ref (R (R h0 0) n_10)]) (by rw [en_10]; rfl) ?_
        refine lv_iload_n hx hb dX9_store_28 rfl (lv_at hl 2 rfl) ?_
        refine lv_iload_n hx hb dX9_store_29 rfl (lv_at hl 3 rfl) ?_
        have ha_12 := tx_5 hT hg_11
        refine va_callv (rnV (fun H => TX E G B R H) (As := [.int p1, .int p2]) (rest := []) ⟨hx, hb, hml, hown, hts⟩ (x_X1_put l E z0 G hGz B R hW (R (R h0 0) n_10) p1 p2 hg_11) (cwV 2 hts (gdV ml_X9_70 im_X1_put se_X1_X1_put in_X1 co_X1_put rfl) rfl rfl rfl (by decide +kernel) ⟨Nat.le_of_ble_eq_true rfl, Nat.le_of_ble_eq_true rfl⟩) hT (fun U hU hW => hK.go hW hS hAz hU) (va_recv hK.1 (va_one ha_12) (ci := 1) (q0 := 0) rfl rfl) rfl rfl hl.1 rfl (lv_room (Nat.le_of_ble_eq_true rfl)) dX9_store_30 ⟨Nat.le_of_ble_eq_true rfl, Nat.le_of_ble_eq_true rfl⟩) hS (fun q _ h => mL (L' := [14]) (L := [14]) (by decide) h) (fun q h => mL (L' := [14]) (L := [14]) (by decide) h) (fun U_14 t H locs ht hvm hwr_13 hB hz hk hS => ?_)
        have hT : TX E G U_14 R H := by rw [ht] at hB; exact hB
        have hWr_13 : TW G U_14 R := hwr_13.1
        have hW := hWr_13
        have hFr_13 : Fr G [14] B U_14 := hwr_13.2.1
        have hCr_13 : C_X1_put G B R (R (R h0 0) n_10) p1 p2 U_14 := hwr_13.2.2
        refine vx_ret ?_
        refine W.widen (k := 1) (n := 6) (Nat.le_of_ble_eq_true rfl) (Nat.le_of_ble_eq_true rfl) ?_
        exact W.vret hx hb hr (fun t ht hW9 => ⟨⟨U_14, rfl, ⟨hW, (Fr.c Fr.rf hFr_13 (by decide)), ⟨c_1, c_3, n_10, hn_10, U_14, hFr_13, hCr_13, rfl⟩⟩, (by show TX E G U_14 R t.heap; rw [ht]; exact hT)⟩, hS.F ht⟩) hS.2.2 dX9_store_33
theorem dX9_cell_0 : decode cX9_cell 0 = .ok (.iload_n 1, 1) := by decide +kernel
theorem dX9_cell_1 : decode cX9_cell 1 = .ok (.invokestatic 46, 3) := by decide +kernel
theorem dX9_cell_4 : decode cX9_cell 4 = .ok (.ifCond .eq 16, 3) := by decide +kernel
theorem dX9_cell_7 : decode cX9_cell 7 = .ok (.aload_n 0, 1) := by decide +kernel
theorem dX9_cell_8 : decode cX9_cell 8 = .ok (.getfield 22, 3) := by decide +kernel
theorem dX9_cell_11 : decode cX9_cell 11 = .ok (.iload_n 1, 1) := by decide +kernel
theorem dX9_cell_12 : decode cX9_cell 12 = .ok (.aaload, 1) := by decide +kernel
theorem dX9_cell_13 : decode cX9_cell 13 = .ok (.iload_n 2, 1) := by decide +kernel
theorem dX9_cell_14 : decode cX9_cell 14 = .ok (.invokevirtual 74, 3) := by decide +kernel
theorem dX9_cell_17 : decode cX9_cell 17 = .ok (.goto 4, 3) := by decide +kernel
theorem dX9_cell_20 : decode cX9_cell 20 = .ok (.iconst 0, 1) := by decide +kernel
theorem dX9_cell_21 : decode cX9_cell 21 = .ok (.ireturn, 1) := by decide +kernel
set_option maxHeartbeats 8000000 in
set_option maxRecDepth 100000 in
theorem x_X9_cell (l : Launch) (E : EE) (z0 : Nat) (G : Nat → Nat) (hGz : ∀ q, G q ≠ 0 → z0 ≤ q) (B : AA) (R : RR) (hW : TW G B R) (h0 : Nat) (p0 : Int32) (p1 : Int32) (hG : G h0 = 1) : Met l yX9_cell [Cond.code yX9_cell cX9_cell 3 (some .int)] ({ frames := 2, cells := 0, slots := 0, locals := 41 } : Room) (va_Pc [.ref h0, .int p0, .int p1] (fun U => TX E G B R U.heap ∧ KS E z0 U)) (va_Qi (fun (r : Int32) (u : Unit) => (C_X9_cell G B R h0 p0 p1 r)) (fun u t => True) (fun _ : Nat => False)) 0 0 (fun _ : Nat => False) := by
  refine Met.ofW (cc := cX9_cell) (maxL := 3) (ret := (some .int)) (by decide) rfl ?_
  intro p e s m args below meth c s₁ B9 hml hv
  obtain ⟨rfl, hT, hK⟩ := hv
  have hx := B9.exec
  have hb := B9.bytes
  have hr := B9.returns
  have hts : ∀ w ∈ TS, w.before ([.ref h0, .int p0, .int p1] : List Value).toArray s = true := fun w hw => hK.2.1 w hw _
  have hown : s.vm.findClass RX9 = some m.cls := findClass_of_methodNamed B9.named
  have hlocks := B9.notSynchronized
  have hS : va_S (fun _ : Nat => False) s.heap s.heap [] := va_S.rf
  have hAz : ∀ q, (fun _ : Nat => False) q → z0 ≤ q := fun _ h => h.elim
  have hW_0 := hW
  have hl := lv_entry ([.ref h0, .int p0, .int p1]) (n := 3) (Nat.le_of_ble_eq_true rfl)
  rw [lg_entry_eq]
  generalize (lg_sl ([.ref h0, .int p0, .int p1]) ++ List.replicate (3 - (lg_sl ([.ref h0, .int p0, .int p1])).length) Slot.unset).toArray = ls at hl ⊢
  have hl : lv_has ls 3 [(0, .ref h0), (1, .int p0), (2, .int p1)] := hl
  refine lv_iload_n hx hb dX9_cell_0 rfl (lv_at hl 1 rfl) ?_
  refine W.callR (W.runS (As := [.int p0]) (rest := []) ⟨hx, hb, hml, hown, hts⟩ (c_X9_isNode l p0) (cwS 1 hts (gdS ml_X9_46 st_X9_isNode in_X9 co_X9_isNode rfl) rfl rfl rfl (by decide +kernel) ⟨Nat.le_of_ble_eq_true rfl, Nat.le_of_ble_eq_true rfl⟩) preEq rfl rfl hl.1 rfl (lv_room (Nat.le_of_ble_eq_true rfl)) dX9_cell_1 ⟨Nat.le_of_ble_eq_true rfl, Nat.le_of_ble_eq_true rfl⟩) ?_
  refine W.eq (g2 := F0 m 4 ls [.int (bI (0 ≤ p0.toInt ∧ p0.toInt < 2))]) (by rfl) ?_
  refine lv_if_eq (tgt := 20) hx hb dX9_cell_4 (by decide) (fun c_1 => ?_) (fun c_1 => ?_)
  · have c_1 := bI_0 c_1
    refine lv_iconst (v := 0) hx hb dX9_cell_20 (by decide) ?_
    exact W.iret (v := 0) hx hb hr (fun t ht hW9 => ⟨⟨0, (), rfl, (Or.inl ⟨c_1, rfl⟩), trivial⟩, hS.F ht⟩) hS.2.2 dX9_cell_21
  · have c_1 := bI_n c_1
    refine lv_aload_n hx hb dX9_cell_7 rfl (lv_at hl 0 rfl) ?_
    have ha_2 := tx_1 hT hG
    have hg_3 : G (R h0 0) = 2 := (tw_1 hW hG).1
    refine va_get (D := DG E) (ci := 9) (v := .ref (R h0 0)) (C := RX9) (T := TX9) (N := 3) hx hb hts iw_X9 hown hK.1 (va_one ha_2) 0 rfl rfl 0 (by decide) (hts _ fl_X9_22) (fun _ h9 => h9) rfl dX9_cell_8 ?_
    refine lv_iload_n hx hb dX9_cell_11 rfl (lv_at hl 1 rfl) ?_
    have ha_4 := tx_2 hT hg_3
    have hi_5 : vp_in p0 2 := vp_in_iff.mpr (by omega)
    obtain ⟨n_6, hn_6, en_6⟩ := x_nat (x := p0) (by omega)
    have hg_7 : G (R (R h0 0) n_6) = 5 := (tw_2 hW hg_3) n_6 (by omega)
    refine va_aldq (D := DG E) hx hb hK.1 (va_one ha_4) 0 3 rfl rfl hi_5 dX9_cell_12 ?_
    refine W.eq (g2 := F0 m 13 ls [.ref (R (R h0 0) n_6)]) (by rw [en_6]; rfl) ?_
    refine lv_iload_n hx hb dX9_cell_13 rfl (lv_at hl 2 rfl) ?_
    have ha_8 := tx_5 hT hg_7
    refine va_calli (rnV (fun H => TX E G B R H) (As := [.int p1]) (rest := []) ⟨hx, hb, hml, hown, hts⟩ (x_X1_at l E z0 G hGz B R hW (R (R h0 0) n_6) p1 hg_7) (cwV 1 hts (gdV ml_X9_74 im_X1_at se_X1_X1_at in_X1 co_X1_at rfl) rfl rfl rfl (by decide +kernel) ⟨Nat.le_of_ble_eq_true rfl, Nat.le_of_ble_eq_true rfl⟩) hT (fun U hU hW => hK.go hW hS hAz hU) (va_recv hK.1 (va_one ha_8) (ci := 1) (q0 := 0) rfl rfl) rfl rfl hl.1 rfl (lv_room (Nat.le_of_ble_eq_true rfl)) dX9_cell_14 ⟨Nat.le_of_ble_eq_true rfl, Nat.le_of_ble_eq_true rfl⟩) hS (fun q _ h => h.elim) (fun q h => h.elim) (fun r_9 _ t H locs ht hvm hwr_9 hB hz hk hS => ?_)
    have hT : TX E G B R H := hT.kept (fun q hq => hk q hq (fun h => h))
    have hCr_9 : C_X1_at G B R (R (R h0 0) n_6) p1 r_9 := hwr_9
    refine lv_goto (tgt := 21) hx hb dX9_cell_17 (by decide) ?_
    exact W.iret (v := r_9) hx hb hr (fun t ht hW9 => ⟨⟨r_9, (), rfl, (Or.inr ⟨c_1, n_6, hn_6, r_9, hCr_9, rfl⟩), trivial⟩, hS.F ht⟩) hS.2.2 dX9_cell_21
theorem dX9_ready_0 : decode cX9_ready 0 = .ok (.iload_n 1, 1) := by decide +kernel
theorem dX9_ready_1 : decode cX9_ready 1 = .ok (.invokestatic 78, 3) := by decide +kernel
theorem dX9_ready_4 : decode cX9_ready 4 = .ok (.ifCond .eq 21, 3) := by decide +kernel
theorem dX9_ready_7 : decode cX9_ready 7 = .ok (.iload_n 2, 1) := by decide +kernel
theorem dX9_ready_8 : decode cX9_ready 8 = .ok (.invokestatic 81, 3) := by decide +kernel
theorem dX9_ready_11 : decode cX9_ready 11 = .ok (.ifCond .eq 14, 3) := by decide +kernel
theorem dX9_ready_14 : decode cX9_ready 14 = .ok (.iload_n 3, 1) := by decide +kernel
theorem dX9_ready_15 : decode cX9_ready 15 = .ok (.invokestatic 81, 3) := by decide +kernel
theorem dX9_ready_18 : decode cX9_ready 18 = .ok (.ifCond .eq 7, 3) := by decide +kernel
theorem dX9_ready_21 : decode cX9_ready 21 = .ok (.iconst 1, 1) := by decide +kernel
theorem dX9_ready_22 : decode cX9_ready 22 = .ok (.goto 4, 3) := by decide +kernel
theorem dX9_ready_25 : decode cX9_ready 25 = .ok (.iconst 0, 1) := by decide +kernel
theorem dX9_ready_26 : decode cX9_ready 26 = .ok (.invokestatic 53, 3) := by decide +kernel
theorem dX9_ready_29 : decode cX9_ready 29 = .ok (.aload_n 0, 1) := by decide +kernel
theorem dX9_ready_30 : decode cX9_ready 30 = .ok (.getfield 29, 3) := by decide +kernel
theorem dX9_ready_33 : decode cX9_ready 33 = .ok (.iload_n 1, 1) := by decide +kernel
theorem dX9_ready_34 : decode cX9_ready 34 = .ok (.aaload, 1) := by decide +kernel
theorem dX9_ready_35 : decode cX9_ready 35 = .ok (.getfield 84, 3) := by decide +kernel
theorem dX9_ready_38 : decode cX9_ready 38 = .ok (.ifCond .ne 7, 3) := by decide +kernel
theorem dX9_ready_41 : decode cX9_ready 41 = .ok (.iconst 1, 1) := by decide +kernel
theorem dX9_ready_42 : decode cX9_ready 42 = .ok (.goto 4, 3) := by decide +kernel
theorem dX9_ready_45 : decode cX9_ready 45 = .ok (.iconst 0, 1) := by decide +kernel
theorem dX9_ready_46 : decode cX9_ready 46 = .ok (.invokestatic 88, 3) := by decide +kernel
theorem dX9_ready_49 : decode cX9_ready 49 = .ok (.aload_n 0, 1) := by decide +kernel
theorem dX9_ready_50 : decode cX9_ready 50 = .ok (.getfield 29, 3) := by decide +kernel
theorem dX9_ready_53 : decode cX9_ready 53 = .ok (.iload_n 1, 1) := by decide +kernel
theorem dX9_ready_54 : decode cX9_ready 54 = .ok (.aaload, 1) := by decide +kernel
theorem dX9_ready_55 : decode cX9_ready 55 = .ok (.iload_n 2, 1) := by decide +kernel
theorem dX9_ready_56 : decode cX9_ready 56 = .ok (.iload_n 3, 1) := by decide +kernel
theorem dX9_ready_57 : decode cX9_ready 57 = .ok (.invokevirtual 91, 3) := by decide +kernel
theorem dX9_ready_60 : decode cX9_ready 60 = .ok (.return_, 1) := by decide +kernel
set_option maxHeartbeats 8000000 in
set_option maxRecDepth 100000 in
theorem x_X9_ready (l : Launch) (hst : l.stackTraces = false) (E : EE) (z0 : Nat) (G : Nat → Nat) (hGz : ∀ q, G q ≠ 0 → z0 ≤ q) (B : AA) (R : RR) (hW : TW G B R) (h0 : Nat) (p0 : Int32) (p1 : Int32) (p2 : Int32) (hG : G h0 = 1) : vx_Met l yX9_ready [Cond.code yX9_ready cX9_ready 4 none] ({ frames := 7, cells := 2, slots := 12, locals := 101 } : Room) (va_Pc [.ref h0, .int p0, .int p1, .int p2] (fun U => TX E G B R U.heap ∧ KS E z0 U)) (va_Qv (fun (u : AA) => (TW G u R) ∧ (Fr G ([8, 9, 10] : List Nat) B u) ∧ (C_X9_ready G B R h0 p0 p1 p2 u)) (fun u t => TX E G u R t.heap) (fun q : Nat => G q ∈ ([8, 9, 10] : List Nat))) (vx_X (fun (_ : Unit) => True) (fun En _ t => (X_X9_ready G B R h0 p0 p1 p2 En) ∧ TX E G B R t.heap) (fun q : Nat => G q ∈ ([8, 9, 10] : List Nat))) 2 12 (fun q : Nat => G q ∈ ([8, 9, 10] : List Nat)) := by
  refine vx_ofW (cc := cX9_ready) (maxL := 4) (ret := none) (by decide) rfl ?_
  intro p e s m args below meth c s₁ B9 hml hne hv
  obtain ⟨rfl, hT, hK⟩ := hv
  have hx := B9.exec
  have hb := B9.bytes
  have hr := B9.returns
  have hts : ∀ w ∈ TS, w.before ([.ref h0, .int p0, .int p1, .int p2] : List Value).toArray s = true := fun w hw => hK.2.1 w hw _
  have hown : s.vm.findClass RX9 = some m.cls := findClass_of_methodNamed B9.named
  have hlocks := B9.notSynchronized
  have hS : va_S (fun q : Nat => G q ∈ ([8, 9, 10] : List Nat)) s.heap s.heap [] := va_S.rf
  have hAz : ∀ q, (fun q : Nat => G q ∈ ([8, 9, 10] : List Nat)) q → z0 ≤ q := zL hGz (by decide)
  have hW_0 := hW
  have hl := lv_entry ([.ref h0, .int p0, .int p1, .int p2]) (n := 4) (Nat.le_of_ble_eq_true rfl)
  rw [lg_entry_eq]
  generalize (lg_sl ([.ref h0, .int p0, .int p1, .int p2]) ++ List.replicate (4 - (lg_sl ([.ref h0, .int p0, .int p1, .int p2])).length) Slot.unset).toArray = ls at hl ⊢
  have hl : lv_has ls 4 [(0, .ref h0), (1, .int p0), (2, .int p1), (3, .int p2)] := hl
  refine lv_iload_n hx hb dX9_ready_0 rfl (lv_at hl 1 rfl) ?_
  refine W.callR (W.runS (As := [.int p0]) (rest := []) ⟨hx, hb, hml, hown, hts⟩ (c_X9_isPair l p0) (cwS 1 hts (gdS ml_X9_78 st_X9_isPair in_X9 co_X9_isPair rfl) rfl rfl rfl (by decide +kernel) ⟨Nat.le_of_ble_eq_true rfl, Nat.le_of_ble_eq_true rfl⟩) preEq rfl rfl hl.1 rfl (lv_room (Nat.le_of_ble_eq_true rfl)) dX9_ready_1 ⟨Nat.le_of_ble_eq_true rfl, Nat.le_of_ble_eq_true rfl⟩) ?_
  refine W.eq (g2 := F0 m 4 ls [.int (bI (0 ≤ p0.toInt ∧ p0.toInt < 4))]) (by rfl) ?_
  refine lv_if_eq (tgt := 25) hx hb dX9_ready_4 (by decide) (fun c_1 => ?_) (fun c_1 => ?_)
  · have c_1 := bI_0 c_1
    refine lv_iconst (v := 0) hx hb dX9_ready_25 (by decide) ?_
    refine vx_callv (rxS (fun _ => True) (As := [.int 0]) (rest := []) ⟨hx, hb, hml, hown, hts⟩ (c_X9_require l hst E z0 0) (cwS 1 hts (gdS ml_X9_53 st_X9_require in_X9 co_X9_require rfl) rfl rfl rfl (by decide +kernel) ⟨Nat.le_of_ble_eq_true rfl, Nat.le_of_ble_eq_true rfl⟩) trivial (fun U hU hW => hK.go hW hS hAz hU) rfl rfl hl.1 rfl (lv_room (Nat.le_of_ble_eq_true rfl)) dX9_ready_26 ⟨Nat.le_of_ble_eq_true rfl, Nat.le_of_ble_eq_true rfl⟩) hS (fun q _ h => h.elim) (fun q h => h.elim) (fun q _ h => h.elim) (fun En ce q9 _ t H locs ht hvm hw_2 hB hz hk hS hc1 hc2 hc3 => ?_) (fun _ t H locs ht hvm hw_2 hB hz hk hS => ?_)
    · have hT : TX E G B R H := hT.kept (fun q hq => hk q hq (fun h => h))
      subst hB
      exact vx_out (fun x hx => (hne x hx).elim) hlocks hc1 hc2 hc3 (fun t ht hA => ⟨(), trivial, ⟨(Or.inl ⟨c_1, rfl⟩), by show TX E G B R t.heap; rw [ht]; exact hT⟩, hS.F ht⟩) hS.2.2 (Nat.le_of_ble_eq_true rfl) (Nat.le_of_ble_eq_true rfl)
    · exact absurd rfl hw_2
  · have c_1 := bI_n c_1
    refine lv_iload_n hx hb dX9_ready_7 rfl (lv_at hl 2 rfl) ?_
    refine W.callR (W.runS (As := [.int p1]) (rest := []) ⟨hx, hb, hml, hown, hts⟩ (c_X9_isNumber l p1) (cwS 1 hts (gdS ml_X9_81 st_X9_isNumber in_X9 co_X9_isNumber rfl) rfl rfl rfl (by decide +kernel) ⟨Nat.le_of_ble_eq_true rfl, Nat.le_of_ble_eq_true rfl⟩) preEq rfl rfl hl.1 rfl (lv_room (Nat.le_of_ble_eq_true rfl)) dX9_ready_8 ⟨Nat.le_of_ble_eq_true rfl, Nat.le_of_ble_eq_true rfl⟩) ?_
    refine W.eq (g2 := F0 m 11 ls [.int (bI (0 ≤ p1.toInt ∧ p1.toInt < 64))]) (by rfl) ?_
    refine lv_if_eq (tgt := 25) hx hb dX9_ready_11 (by decide) (fun c_3 => ?_) (fun c_3 => ?_)
    · have c_3 := bI_0 c_3
      refine lv_iconst (v := 0) hx hb dX9_ready_25 (by decide) ?_
      refine vx_callv (rxS (fun _ => True) (As := [.int 0]) (rest := []) ⟨hx, hb, hml, hown, hts⟩ (c_X9_require l hst E z0 0) (cwS 1 hts (gdS ml_X9_53 st_X9_require in_X9 co_X9_require rfl) rfl rfl rfl (by decide +kernel) ⟨Nat.le_of_ble_eq_true rfl, Nat.le_of_ble_eq_true rfl⟩) trivial (fun U hU hW => hK.go hW hS hAz hU) rfl rfl hl.1 rfl (lv_room (Nat.le_of_ble_eq_true rfl)) dX9_ready_26 ⟨Nat.le_of_ble_eq_true rfl, Nat.le_of_ble_eq_true rfl⟩) hS (fun q _ h => h.elim) (fun q h => h.elim) (fun q _ h => h.elim) (fun En ce q9 _ t H locs ht hvm hw_4 hB hz hk hS hc1 hc2 hc3 => ?_) (fun _ t H locs ht hvm hw_4 hB hz hk hS => ?_)
      · have hT : TX E G B R H := hT.kept (fun q hq => hk q hq (fun h => h))
        subst hB
        exact vx_out (fun x hx => (hne x hx).elim) hlocks hc1 hc2 hc3 (fun t ht hA => ⟨(), trivial, ⟨(Or.inr (Or.inl ⟨c_1, c_3, rfl⟩)), by show TX E G B R t.heap; rw [ht]; exact hT⟩, hS.F ht⟩) hS.2.2 (Nat.le_of_ble_eq_true rfl) (Nat.le_of_ble_eq_true rfl)
      · exact absurd rfl hw_4
    · have c_3 := bI_n c_3
      refine lv_iload_n hx hb dX9_ready_14 rfl (lv_at hl 3 rfl) ?_
      refine W.callR (W.runS (As := [.int p2]) (rest := []) ⟨hx, hb, hml, hown, hts⟩ (c_X9_isNumber l p2) (cwS 1 hts (gdS ml_X9_81 st_X9_isNumber in_X9 co_X9_isNumber rfl) rfl rfl rfl (by decide +kernel) ⟨Nat.le_of_ble_eq_true rfl, Nat.le_of_ble_eq_true rfl⟩) preEq rfl rfl hl.1 rfl (lv_room (Nat.le_of_ble_eq_true rfl)) dX9_ready_15 ⟨Nat.le_of_ble_eq_true rfl, Nat.le_of_ble_eq_true rfl⟩) ?_
      refine W.eq (g2 := F0 m 18 ls [.int (bI (0 ≤ p2.toInt ∧ p2.toInt < 64))]) (by rfl) ?_
      refine lv_if_eq (tgt := 25) hx hb dX9_ready_18 (by decide) (fun c_5 => ?_) (fun c_5 => ?_)
      · have c_5 := bI_0 c_5
        refine lv_iconst (v := 0) hx hb dX9_ready_25 (by decide) ?_
        refine vx_callv (rxS (fun _ => True) (As := [.int 0]) (rest := []) ⟨hx, hb, hml, hown, hts⟩ (c_X9_require l hst E z0 0) (cwS 1 hts (gdS ml_X9_53 st_X9_require in_X9 co_X9_require rfl) rfl rfl rfl (by decide +kernel) ⟨Nat.le_of_ble_eq_true rfl, Nat.le_of_ble_eq_true rfl⟩) trivial (fun U hU hW => hK.go hW hS hAz hU) rfl rfl hl.1 rfl (lv_room (Nat.le_of_ble_eq_true rfl)) dX9_ready_26 ⟨Nat.le_of_ble_eq_true rfl, Nat.le_of_ble_eq_true rfl⟩) hS (fun q _ h => h.elim) (fun q h => h.elim) (fun q _ h => h.elim) (fun En ce q9 _ t H locs ht hvm hw_6 hB hz hk hS hc1 hc2 hc3 => ?_) (fun _ t H locs ht hvm hw_6 hB hz hk hS => ?_)
        · have hT : TX E G B R H := hT.kept (fun q hq => hk q hq (fun h => h))
          subst hB
          exact vx_out (fun x hx => (hne x hx).elim) hlocks hc1 hc2 hc3 (fun t ht hA => ⟨(), trivial, ⟨(Or.inr (Or.inr (Or.inl ⟨c_1, c_3, c_5, rfl⟩))), by show TX E G B R t.heap; rw [ht]; exact hT⟩, hS.F ht⟩) hS.2.2 (Nat.le_of_ble_eq_true rfl) (Nat.le_of_ble_eq_true rfl)
        · exact absurd rfl hw_6
      · have c_5 := bI_n c_5
        refine lv_iconst (v := 1) hx hb dX9_ready_21 (by decide) ?_
        refine lv_goto (tgt := 26) hx hb dX9_ready_22 (by decide) ?_
        refine vx_callv (rxS (fun _ => True) (As := [.int 1]) (rest := []) ⟨hx, hb, hml, hown, hts⟩ (c_X9_require l hst E z0 1) (cwS 1 hts (gdS ml_X9_53 st_X9_require in_X9 co_X9_require rfl) rfl rfl rfl (by decide +kernel) ⟨Nat.le_of_ble_eq_true rfl, Nat.le_of_ble_eq_true rfl⟩) trivial (fun U hU hW => hK.go hW hS hAz hU) rfl rfl hl.1 rfl (lv_room (Nat.le_of_ble_eq_true rfl)) dX9_ready_26 ⟨Nat.le_of_ble_eq_true rfl, Nat.le_of_ble_eq_true rfl⟩) hS (fun q _ h => h.elim) (fun q h => h.elim) (fun q _ h => h.elim) (fun En ce q9 _ t H locs ht hvm hw_7 hB hz hk hS hc1 hc2 hc3 => ?_) (fun _ t H locs ht hvm hw_7 hB hz hk hS => ?_)
        · exact absurd hw_7 (by decide)
        · have hT : TX E G B R H := hT.kept (fun q hq => hk q hq (fun h => h))
          refine lv_aload_n hx hb dX9_ready_29 rfl (lv_at hl 0 rfl) ?_
          have ha_8 := tx_1 hT hG
          have hg_9 : G (R h0 1) = 3 := (tw_1 hW hG).2.1
          refine va_get (D := DG E) (ci := 9) (v := .ref (R h0 1)) (C := RX9) (T := TX9) (N := 3) hx hb hts iw_X9 hown hK.1 (va_one ha_8) 0 rfl rfl 1 (by decide) (hts _ fl_X9_29) (fun _ h9 => h9) rfl dX9_ready_30 ?_
          refine lv_iload_n hx hb dX9_ready_33 rfl (lv_at hl 1 rfl) ?_
          have ha_10 := tx_3 hT hg_9
          have hi_11 : vp_in p0 4 := vp_in_iff.mpr (by omega)
          obtain ⟨n_12, hn_12, en_12⟩ := x_nat (x := p0) (by omega)
          have hg_13 : G (R (R h0 1) n_12) = 8 := (tw_3 hW hg_9) n_12 (by omega)
          refine va_aldq (D := DG E) hx hb hK.1 (va_one ha_10) 0 5 rfl rfl hi_11 dX9_ready_34 ?_
          refine W.eq (g2 := F0 m 35 ls [.ref (R (R h0 1) n_12)]) (by rw [en_12]; rfl) ?_
          have ha_14 := tx_8 hT hg_13
          refine va_get (D := DG E) (ci := 3) (v := .int (B (R (R h0 1) n_12) 2)) (C := RX3) (T := TX3) (N := 3) hx hb hts iw_X3 hown hK.1 (va_one ha_14) 0 rfl rfl 2 (by decide) (hts _ fl_X9_84) (fun _ h9 => h9) rfl dX9_ready_35 ?_
          refine lv_if_ne (tgt := 45) hx hb dX9_ready_38 (by decide) (fun c_15 => ?_) (fun c_15 => ?_)
          · simp only [lt_I, le_I, eq_I, i_0, i_1, i_2, i_3, i_4, i_5, i_6, i_7, i_8, i_10, i_12, i_16, i_20, i_23, i_24, i_31, i_32, i_63, i_64, i_m1] at c_15
            refine lv_iconst (v := 0) hx hb dX9_ready_45 (by decide) ?_
            refine vx_callv (rxS (fun _ => True) (As := [.int 0]) (rest := []) ⟨hx, hb, hml, hown, hts⟩ (c_X9_requireState l hst E z0 0) (cwS 1 hts (gdS ml_X9_88 st_X9_requireState in_X9 co_X9_requireState rfl) rfl rfl rfl (by decide +kernel) ⟨Nat.le_of_ble_eq_true rfl, Nat.le_of_ble_eq_true rfl⟩) trivial (fun U hU hW => hK.go hW hS hAz hU) rfl rfl hl.1 rfl (lv_room (Nat.le_of_ble_eq_true rfl)) dX9_ready_46 ⟨Nat.le_of_ble_eq_true rfl, Nat.le_of_ble_eq_true rfl⟩) hS (fun q _ h => h.elim) (fun q h => h.elim) (fun q _ h => h.elim) (fun En ce q9 _ t H locs ht hvm hw_16 hB hz hk hS hc1 hc2 hc3 => ?_) (fun _ t H locs ht hvm hw_16 hB hz hk hS => ?_)
            · have hT : TX E G B R H := hT.kept (fun q hq => hk q hq (fun h => h))
              subst hB
              exact vx_out (fun x hx => (hne x hx).elim) hlocks hc1 hc2 hc3 (fun t ht hA => ⟨(), trivial, ⟨(Or.inr (Or.inr (Or.inr ⟨c_1, c_3, c_5, n_12, hn_12, c_15, rfl⟩))), by show TX E G B R t.heap; rw [ht]; exact hT⟩, hS.F ht⟩) hS.2.2 (Nat.le_of_ble_eq_true rfl) (Nat.le_of_ble_eq_true rfl)
            · exact absurd rfl hw_16
          · simp only [lt_I, le_I, eq_I, i_0, i_1, i_2, i_3, i_4, i_5, i_6, i_7, i_8, i_10, i_12, i_16, i_20, i_23, i_24, i_31, i_32, i_63, i_64, i_m1] at c_15
            refine lv_iconst (v := 1) hx hb dX9_ready_41 (by decide) ?_
            refine lv_goto (tgt := 46) hx hb dX9_ready_42 (by decide) ?_
            refine vx_callv (rxS (fun _ => True) (As := [.int 1]) (rest := []) ⟨hx, hb, hml, hown, hts⟩ (c_X9_requireState l hst E z0 1) (cwS 1 hts (gdS ml_X9_88 st_X9_requireState in_X9 co_X9_requireState rfl) rfl rfl rfl (by decide +kernel) ⟨Nat.le_of_ble_eq_true rfl, Nat.le_of_ble_eq_true rfl⟩) trivial (fun U hU hW => hK.go hW hS hAz hU) rfl rfl hl.1 rfl (lv_room (Nat.le_of_ble_eq_true rfl)) dX9_ready_46 ⟨Nat.le_of_ble_eq_true rfl, Nat.le_of_ble_eq_true rfl⟩) hS (fun q _ h => h.elim) (fun q h => h.elim) (fun q _ h => h.elim) (fun En ce q9 _ t H locs ht hvm hw_17 hB hz hk hS hc1 hc2 hc3 => ?_) (fun _ t H locs ht hvm hw_17 hB hz hk hS => ?_)
            · exact absurd hw_17 (by decide)
            · have hT : TX E G B R H := hT.kept (fun q hq => hk q hq (fun h => h))
              refine lv_aload_n hx hb dX9_ready_49 rfl (lv_at hl 0 rfl) ?_
              have ha_18 := tx_1 hT hG
              refine va_get (D := DG E) (ci := 9) (v := .ref (R h0 1)) (C := RX9) (T := TX9) (N := 3) hx hb hts iw_X9 hown hK.1 (va_one ha_18) 0 rfl rfl 1 (by decide) (hts _ fl_X9_29) (fun _ h9 => h9) rfl dX9_ready_50 ?_
              refine lv_iload_n hx hb dX9_ready_53 rfl (lv_at hl 1 rfl) ?_
              have ha_19 := tx_3 hT hg_9
              refine va_aldq (D := DG E) hx hb hK.1 (va_one ha_19) 0 5 rfl rfl hi_11 dX9_ready_54 ?_
              refine W.eq (g2 := F0 m 55 ls [.ref (R (R h0 1) n_12)]) (by rw [en_12]; rfl) ?_
              refine lv_iload_n hx hb dX9_ready_55 rfl (lv_at hl 2 rfl) ?_
              refine lv_iload_n hx hb dX9_ready_56 rfl (lv_at hl 3 rfl) ?_
              have ha_20 := tx_8 hT hg_13
              refine va_callv (rnV (fun H => TX E G B R H) (As := [.int p1, .int p2]) (rest := []) ⟨hx, hb, hml, hown, hts⟩ (x_X3_start l E z0 G hGz B R hW (R (R h0 1) n_12) p1 p2 hg_13) (cwV 2 hts (gdV ml_X9_91 im_X3_start se_X3_X3_start in_X3 co_X3_start rfl) rfl rfl rfl (by decide +kernel) ⟨Nat.le_of_ble_eq_true rfl, Nat.le_of_ble_eq_true rfl⟩) hT (fun U hU hW => hK.go hW hS hAz hU) (va_recv hK.1 (va_one ha_20) (ci := 3) (q0 := 0) rfl rfl) rfl rfl hl.1 rfl (lv_room (Nat.le_of_ble_eq_true rfl)) dX9_ready_57 ⟨Nat.le_of_ble_eq_true rfl, Nat.le_of_ble_eq_true rfl⟩) hS (fun q _ h => mL (L' := [8, 9, 10]) (L := [8, 9, 10]) (by decide) h) (fun q h => mL (L' := [8, 9, 10]) (L := [8, 9, 10]) (by decide) h) (fun U_22 t H locs ht hvm hwr_21 hB hz hk hS => ?_)
              have hT : TX E G U_22 R H := by rw [ht] at hB; exact hB
              have hWr_21 : TW G U_22 R := hwr_21.1
              have hW := hWr_21
              have hFr_21 : Fr G [8, 9, 10] B U_22 := hwr_21.2.1
              have hCr_21 : C_X3_start G B R (R (R h0 1) n_12) p1 p2 U_22 := hwr_21.2.2
              refine vx_ret ?_
              refine W.widen (k := 2) (n := 12) (Nat.le_of_ble_eq_true rfl) (Nat.le_of_ble_eq_true rfl) ?_
              exact W.vret hx hb hr (fun t ht hW9 => ⟨⟨U_22, rfl, ⟨hW, (Fr.c Fr.rf hFr_21 (by decide)), ⟨c_1, c_3, c_5, n_12, hn_12, c_15, U_22, hFr_21, hCr_21, rfl⟩⟩, (by show TX E G U_22 R t.heap; rw [ht]; exact hT)⟩, hS.F ht⟩) hS.2.2 dX9_ready_60
theorem dX9_reset_0 : decode cX9_reset 0 = .ok (.iload_n 1, 1) := by decide +kernel
theorem dX9_reset_1 : decode cX9_reset 1 = .ok (.invokestatic 78, 3) := by decide +kernel
theorem dX9_reset_4 : decode cX9_reset 4 = .ok (.ifCond .ne 5, 3) := by decide +kernel
theorem dX9_reset_7 : decode cX9_reset 7 = .ok (.iconst 0, 1) := by decide +kernel
theorem dX9_reset_8 : decode cX9_reset 8 = .ok (.ireturn, 1) := by decide +kernel
theorem dX9_reset_9 : decode cX9_reset 9 = .ok (.aload_n 0, 1) := by decide +kernel
theorem dX9_reset_10 : decode cX9_reset 10 = .ok (.getfield 29, 3) := by decide +kernel
theorem dX9_reset_13 : decode cX9_reset 13 = .ok (.iload_n 1, 1) := by decide +kernel
theorem dX9_reset_14 : decode cX9_reset 14 = .ok (.aaload, 1) := by decide +kernel
theorem dX9_reset_15 : decode cX9_reset 15 = .ok (.invokevirtual 94, 3) := by decide +kernel
theorem dX9_reset_18 : decode cX9_reset 18 = .ok (.iconst 1, 1) := by decide +kernel
theorem dX9_reset_19 : decode cX9_reset 19 = .ok (.ireturn, 1) := by decide +kernel
set_option maxHeartbeats 8000000 in
set_option maxRecDepth 100000 in
theorem x_X9_reset (l : Launch) (E : EE) (z0 : Nat) (G : Nat → Nat) (hGz : ∀ q, G q ≠ 0 → z0 ≤ q) (B : AA) (R : RR) (hW : TW G B R) (h0 : Nat) (p0 : Int32) (hG : G h0 = 1) : Met l yX9_reset [Cond.code yX9_reset cX9_reset 2 (some .boolean)] ({ frames := 3, cells := 0, slots := 0, locals := 61 } : Room) (va_Pc [.ref h0, .int p0] (fun U => TX E G B R U.heap ∧ KS E z0 U)) (va_Qi (fun (r : Int32) (u : AA) => (TW G u R) ∧ (Fr G ([8, 9, 10, 11, 16, 17] : List Nat) B u) ∧ (r = 0 ∨ r = 1) ∧ (C_X9_reset G B R h0 p0 u r)) (fun u t => TX E G u R t.heap) (fun q : Nat => G q ∈ ([8, 9, 10, 11, 16, 17] : List Nat))) 0 0 (fun q : Nat => G q ∈ ([8, 9, 10, 11, 16, 17] : List Nat)) := by
  refine Met.ofW (cc := cX9_reset) (maxL := 2) (ret := (some .boolean)) (by decide) rfl ?_
  intro p e s m args below meth c s₁ B9 hml hv
  obtain ⟨rfl, hT, hK⟩ := hv
  have hx := B9.exec
  have hb := B9.bytes
  have hr := B9.returns
  have hts : ∀ w ∈ TS, w.before ([.ref h0, .int p0] : List Value).toArray s = true := fun w hw => hK.2.1 w hw _
  have hown : s.vm.findClass RX9 = some m.cls := findClass_of_methodNamed B9.named
  have hlocks := B9.notSynchronized
  have hS : va_S (fun q : Nat => G q ∈ ([8, 9, 10, 11, 16, 17] : List Nat)) s.heap s.heap [] := va_S.rf
  have hAz : ∀ q, (fun q : Nat => G q ∈ ([8, 9, 10, 11, 16, 17] : List Nat)) q → z0 ≤ q := zL hGz (by decide)
  have hW_0 := hW
  have hl := lv_entry ([.ref h0, .int p0]) (n := 2) (Nat.le_of_ble_eq_true rfl)
  rw [lg_entry_eq]
  generalize (lg_sl ([.ref h0, .int p0]) ++ List.replicate (2 - (lg_sl ([.ref h0, .int p0])).length) Slot.unset).toArray = ls at hl ⊢
  have hl : lv_has ls 2 [(0, .ref h0), (1, .int p0)] := hl
  refine lv_iload_n hx hb dX9_reset_0 rfl (lv_at hl 1 rfl) ?_
  refine W.callR (W.runS (As := [.int p0]) (rest := []) ⟨hx, hb, hml, hown, hts⟩ (c_X9_isPair l p0) (cwS 1 hts (gdS ml_X9_78 st_X9_isPair in_X9 co_X9_isPair rfl) rfl rfl rfl (by decide +kernel) ⟨Nat.le_of_ble_eq_true rfl, Nat.le_of_ble_eq_true rfl⟩) preEq rfl rfl hl.1 rfl (lv_room (Nat.le_of_ble_eq_true rfl)) dX9_reset_1 ⟨Nat.le_of_ble_eq_true rfl, Nat.le_of_ble_eq_true rfl⟩) ?_
  refine W.eq (g2 := F0 m 4 ls [.int (bI (0 ≤ p0.toInt ∧ p0.toInt < 4))]) (by rfl) ?_
  refine lv_if_ne (tgt := 9) hx hb dX9_reset_4 (by decide) (fun c_1 => ?_) (fun c_1 => ?_)
  · have c_1 := bI_n c_1
    refine lv_aload_n hx hb dX9_reset_9 rfl (lv_at hl 0 rfl) ?_
    have ha_2 := tx_1 hT hG
    have hg_3 : G (R h0 1) = 3 := (tw_1 hW hG).2.1
    refine va_get (D := DG E) (ci := 9) (v := .ref (R h0 1)) (C := RX9) (T := TX9) (N := 3) hx hb hts iw_X9 hown hK.1 (va_one ha_2) 0 rfl rfl 1 (by decide) (hts _ fl_X9_29) (fun _ h9 => h9) rfl dX9_reset_10 ?_
    refine lv_iload_n hx hb dX9_reset_13 rfl (lv_at hl 1 rfl) ?_
    have ha_4 := tx_3 hT hg_3
    have hi_5 : vp_in p0 4 := vp_in_iff.mpr (by omega)
    obtain ⟨n_6, hn_6, en_6⟩ := x_nat (x := p0) (by omega)
    have hg_7 : G (R (R h0 1) n_6) = 8 := (tw_3 hW hg_3) n_6 (by omega)
    refine va_aldq (D := DG E) hx hb hK.1 (va_one ha_4) 0 5 rfl rfl hi_5 dX9_reset_14 ?_
    refine W.eq (g2 := F0 m 15 ls [.ref (R (R h0 1) n_6)]) (by rw [en_6]; rfl) ?_
    have ha_8 := tx_8 hT hg_7
    refine va_callv (rnV (fun H => TX E G B R H) (As := []) (rest := []) ⟨hx, hb, hml, hown, hts⟩ (x_X3_clear l E z0 G hGz B R hW (R (R h0 1) n_6) hg_7) (cwV 0 hts (gdV ml_X9_94 im_X3_clear se_X3_X3_clear in_X3 co_X3_clear rfl) rfl rfl rfl (by decide +kernel) ⟨Nat.le_of_ble_eq_true rfl, Nat.le_of_ble_eq_true rfl⟩) hT (fun U hU hW => hK.go hW hS hAz hU) (va_recv hK.1 (va_one ha_8) (ci := 3) (q0 := 0) rfl rfl) rfl rfl hl.1 rfl (lv_room (Nat.le_of_ble_eq_true rfl)) dX9_reset_15 ⟨Nat.le_of_ble_eq_true rfl, Nat.le_of_ble_eq_true rfl⟩) hS (fun q _ h => mL (L' := [8, 9, 10, 11, 16, 17]) (L := [8, 9, 10, 11, 16, 17]) (by decide) h) (fun q h => mL (L' := [8, 9, 10, 11, 16, 17]) (L := [8, 9, 10, 11, 16, 17]) (by decide) h) (fun U_10 t H locs ht hvm hwr_9 hB hz hk hS => ?_)
    have hT : TX E G U_10 R H := by rw [ht] at hB; exact hB
    have hWr_9 : TW G U_10 R := hwr_9.1
    have hW := hWr_9
    have hFr_9 : Fr G [8, 9, 10, 11, 16, 17] B U_10 := hwr_9.2.1
    have hCr_9 : C_X3_clear G B R (R (R h0 1) n_6) U_10 := hwr_9.2.2
    refine lv_iconst (v := 1) hx hb dX9_reset_18 (by decide) ?_
    exact W.zret (v := 1) (ty := .boolean) hx hb hr rfl (fun t ht hW9 => ⟨⟨1, U_10, rfl, ⟨hW, (Fr.c Fr.rf hFr_9 (by decide)), (by decide), (Or.inl ⟨c_1, n_6, hn_6, U_10, hFr_9, hCr_9, rfl, rfl⟩)⟩, (by show TX E G U_10 R t.heap; rw [ht]; exact hT)⟩, hS.F ht⟩) hS.2.2 dX9_reset_19
  · have c_1 := bI_0 c_1
    refine lv_iconst (v := 0) hx hb dX9_reset_7 (by decide) ?_
    exact W.zret (v := 0) (ty := .boolean) hx hb hr rfl (fun t ht hW9 => ⟨⟨0, B, rfl, ⟨hW, Fr.rf, (by decide), (Or.inr ⟨c_1, rfl, rfl⟩)⟩, (by show TX E G B R t.heap; rw [ht]; exact hT)⟩, hS.F ht⟩) hS.2.2 dX9_reset_8
theorem dX9_send_0 : decode cX9_send 0 = .ok (.iload_n 1, 1) := by decide +kernel
theorem dX9_send_1 : decode cX9_send 1 = .ok (.invokestatic 78, 3) := by decide +kernel
theorem dX9_send_4 : decode cX9_send 4 = .ok (.ifCond .eq 15, 3) := by decide +kernel
theorem dX9_send_7 : decode cX9_send 7 = .ok (.iload_n 2, 1) := by decide +kernel
theorem dX9_send_8 : decode cX9_send 8 = .ok (.iload_n 3, 1) := by decide +kernel
theorem dX9_send_9 : decode cX9_send 9 = .ok (.invokestatic 97, 3) := by decide +kernel
theorem dX9_send_12 : decode cX9_send 12 = .ok (.ifCond .eq 7, 3) := by decide +kernel
theorem dX9_send_15 : decode cX9_send 15 = .ok (.iconst 1, 1) := by decide +kernel
theorem dX9_send_16 : decode cX9_send 16 = .ok (.goto 4, 3) := by decide +kernel
theorem dX9_send_19 : decode cX9_send 19 = .ok (.iconst 0, 1) := by decide +kernel
theorem dX9_send_20 : decode cX9_send 20 = .ok (.invokestatic 53, 3) := by decide +kernel
theorem dX9_send_23 : decode cX9_send 23 = .ok (.aload_n 0, 1) := by decide +kernel
theorem dX9_send_24 : decode cX9_send 24 = .ok (.getfield 29, 3) := by decide +kernel
theorem dX9_send_27 : decode cX9_send 27 = .ok (.iload_n 1, 1) := by decide +kernel
theorem dX9_send_28 : decode cX9_send 28 = .ok (.aaload, 1) := by decide +kernel
theorem dX9_send_29 : decode cX9_send 29 = .ok (.invokevirtual 101, 3) := by decide +kernel
theorem dX9_send_32 : decode cX9_send 32 = .ok (.invokestatic 88, 3) := by decide +kernel
theorem dX9_send_35 : decode cX9_send 35 = .ok (.aload_n 0, 1) := by decide +kernel
theorem dX9_send_36 : decode cX9_send 36 = .ok (.getfield 29, 3) := by decide +kernel
theorem dX9_send_39 : decode cX9_send 39 = .ok (.iload_n 1, 1) := by decide +kernel
theorem dX9_send_40 : decode cX9_send 40 = .ok (.aaload, 1) := by decide +kernel
theorem dX9_send_41 : decode cX9_send 41 = .ok (.getfield 105, 3) := by decide +kernel
theorem dX9_send_44 : decode cX9_send 44 = .ok (.iconst 0, 1) := by decide +kernel
theorem dX9_send_45 : decode cX9_send 45 = .ok (.iload_n 2, 1) := by decide +kernel
theorem dX9_send_46 : decode cX9_send 46 = .ok (.iload_n 3, 1) := by decide +kernel
theorem dX9_send_47 : decode cX9_send 47 = .ok (.iconst (-1), 1) := by decide +kernel
theorem dX9_send_48 : decode cX9_send 48 = .ok (.iconst (-1), 1) := by decide +kernel
theorem dX9_send_49 : decode cX9_send 49 = .ok (.iconst 0, 1) := by decide +kernel
theorem dX9_send_50 : decode cX9_send 50 = .ok (.invokevirtual 109, 3) := by decide +kernel
theorem dX9_send_53 : decode cX9_send 53 = .ok (.ireturn, 1) := by decide +kernel
set_option maxHeartbeats 8000000 in
set_option maxRecDepth 100000 in
theorem x_X9_send (l : Launch) (hst : l.stackTraces = false) (E : EE) (z0 : Nat) (G : Nat → Nat) (hGz : ∀ q, G q ≠ 0 → z0 ≤ q) (B : AA) (R : RR) (hW : TW G B R) (h0 : Nat) (p0 : Int32) (p1 : Int32) (p2 : Int32) (hG : G h0 = 1) : vx_Met l yX9_send [Cond.code yX9_send cX9_send 4 (some .int)] ({ frames := 7, cells := 2, slots := 12, locals := 101 } : Room) (va_Pc [.ref h0, .int p0, .int p1, .int p2] (fun U => TX E G B R U.heap ∧ KS E z0 U)) (va_Qi (fun (r : Int32) (u : AA) => (TW G u R) ∧ (Fr G ([9, 11, 13] : List Nat) B u) ∧ (C_X9_send G B R h0 p0 p1 p2 u r)) (fun u t => TX E G u R t.heap) (fun q : Nat => G q ∈ ([9, 11, 13] : List Nat))) (vx_X (fun (_ : Unit) => True) (fun En _ t => (X_X9_send G B R h0 p0 p1 p2 En) ∧ TX E G B R t.heap) (fun q : Nat => G q ∈ ([9, 11, 13] : List Nat))) 2 12 (fun q : Nat => G q ∈ ([9, 11, 13] : List Nat)) := by
  refine vx_ofW (cc := cX9_send) (maxL := 4) (ret := (some .int)) (by decide) rfl ?_
  intro p e s m args below meth c s₁ B9 hml hne hv
  obtain ⟨rfl, hT, hK⟩ := hv
  have hx := B9.exec
  have hb := B9.bytes
  have hr := B9.returns
  have hts : ∀ w ∈ TS, w.before ([.ref h0, .int p0, .int p1, .int p2] : List Value).toArray s = true := fun w hw => hK.2.1 w hw _
  have hown : s.vm.findClass RX9 = some m.cls := findClass_of_methodNamed B9.named
  have hlocks := B9.notSynchronized
  have hS : va_S (fun q : Nat => G q ∈ ([9, 11, 13] : List Nat)) s.heap s.heap [] := va_S.rf
  have hAz : ∀ q, (fun q : Nat => G q ∈ ([9, 11, 13] : List Nat)) q → z0 ≤ q := zL hGz (by decide)
  have hW_0 := hW
  have hl := lv_entry ([.ref h0, .int p0, .int p1, .int p2]) (n := 4) (Nat.le_of_ble_eq_true rfl)
  rw [lg_entry_eq]
  generalize (lg_sl ([.ref h0, .int p0, .int p1, .int p2]) ++ List.replicate (4 - (lg_sl ([.ref h0, .int p0, .int p1, .int p2])).length) Slot.unset).toArray = ls at hl ⊢
  have hl : lv_has ls 4 [(0, .ref h0), (1, .int p0), (2, .int p1), (3, .int p2)] := hl
  refine lv_iload_n hx hb dX9_send_0 rfl (lv_at hl 1 rfl) ?_
  refine W.callR (W.runS (As := [.int p0]) (rest := []) ⟨hx, hb, hml, hown, hts⟩ (c_X9_isPair l p0) (cwS 1 hts (gdS ml_X9_78 st_X9_isPair in_X9 co_X9_isPair rfl) rfl rfl rfl (by decide +kernel) ⟨Nat.le_of_ble_eq_true rfl, Nat.le_of_ble_eq_true rfl⟩) preEq rfl rfl hl.1 rfl (lv_room (Nat.le_of_ble_eq_true rfl)) dX9_send_1 ⟨Nat.le_of_ble_eq_true rfl, Nat.le_of_ble_eq_true rfl⟩) ?_
  refine W.eq (g2 := F0 m 4 ls [.int (bI (0 ≤ p0.toInt ∧ p0.toInt < 4))]) (by rfl) ?_
  refine lv_if_eq (tgt := 19) hx hb dX9_send_4 (by decide) (fun c_1 => ?_) (fun c_1 => ?_)
  · have c_1 := bI_0 c_1
    refine lv_iconst (v := 0) hx hb dX9_send_19 (by decide) ?_
    refine vx_callv (rxS (fun _ => True) (As := [.int 0]) (rest := []) ⟨hx, hb, hml, hown, hts⟩ (c_X9_require l hst E z0 0) (cwS 1 hts (gdS ml_X9_53 st_X9_require in_X9 co_X9_require rfl) rfl rfl rfl (by decide +kernel) ⟨Nat.le_of_ble_eq_true rfl, Nat.le_of_ble_eq_true rfl⟩) trivial (fun U hU hW => hK.go hW hS hAz hU) rfl rfl hl.1 rfl (lv_room (Nat.le_of_ble_eq_true rfl)) dX9_send_20 ⟨Nat.le_of_ble_eq_true rfl, Nat.le_of_ble_eq_true rfl⟩) hS (fun q _ h => h.elim) (fun q h => h.elim) (fun q _ h => h.elim) (fun En ce q9 _ t H locs ht hvm hw_2 hB hz hk hS hc1 hc2 hc3 => ?_) (fun _ t H locs ht hvm hw_2 hB hz hk hS => ?_)
    · have hT : TX E G B R H := hT.kept (fun q hq => hk q hq (fun h => h))
      subst hB
      exact vx_out (fun x hx => (hne x hx).elim) hlocks hc1 hc2 hc3 (fun t ht hA => ⟨(), trivial, ⟨(Or.inl ⟨c_1, rfl⟩), by show TX E G B R t.heap; rw [ht]; exact hT⟩, hS.F ht⟩) hS.2.2 (Nat.le_of_ble_eq_true rfl) (Nat.le_of_ble_eq_true rfl)
    · exact absurd rfl hw_2
  · have c_1 := bI_n c_1
    refine lv_iload_n hx hb dX9_send_7 rfl (lv_at hl 2 rfl) ?_
    refine lv_iload_n hx hb dX9_send_8 rfl (lv_at hl 3 rfl) ?_
    refine W.callR (W.runS (As := [.int p1, .int p2]) (rest := []) ⟨hx, hb, hml, hown, hts⟩ (c_X9_areCells l p1 p2) (cwS 2 hts (gdS ml_X9_97 st_X9_areCells in_X9 co_X9_areCells rfl) rfl rfl rfl (by decide +kernel) ⟨Nat.le_of_ble_eq_true rfl, Nat.le_of_ble_eq_true rfl⟩) preEq rfl rfl hl.1 rfl (lv_room (Nat.le_of_ble_eq_true rfl)) dX9_send_9 ⟨Nat.le_of_ble_eq_true rfl, Nat.le_of_ble_eq_true rfl⟩) ?_
    refine W.eq (g2 := F0 m 12 ls [.int (bI (1 ≤ p2.toInt ∧ p2.toInt ≤ 12 ∧ 0 ≤ p1.toInt ∧ p1.toInt ≤ 32 - p2.toInt))]) (by rfl) ?_
    refine lv_if_eq (tgt := 19) hx hb dX9_send_12 (by decide) (fun c_3 => ?_) (fun c_3 => ?_)
    · have c_3 := bI_0 c_3
      refine lv_iconst (v := 0) hx hb dX9_send_19 (by decide) ?_
      refine vx_callv (rxS (fun _ => True) (As := [.int 0]) (rest := []) ⟨hx, hb, hml, hown, hts⟩ (c_X9_require l hst E z0 0) (cwS 1 hts (gdS ml_X9_53 st_X9_require in_X9 co_X9_require rfl) rfl rfl rfl (by decide +kernel) ⟨Nat.le_of_ble_eq_true rfl, Nat.le_of_ble_eq_true rfl⟩) trivial (fun U hU hW => hK.go hW hS hAz hU) rfl rfl hl.1 rfl (lv_room (Nat.le_of_ble_eq_true rfl)) dX9_send_20 ⟨Nat.le_of_ble_eq_true rfl, Nat.le_of_ble_eq_true rfl⟩) hS (fun q _ h => h.elim) (fun q h => h.elim) (fun q _ h => h.elim) (fun En ce q9 _ t H locs ht hvm hw_4 hB hz hk hS hc1 hc2 hc3 => ?_) (fun _ t H locs ht hvm hw_4 hB hz hk hS => ?_)
      · have hT : TX E G B R H := hT.kept (fun q hq => hk q hq (fun h => h))
        subst hB
        exact vx_out (fun x hx => (hne x hx).elim) hlocks hc1 hc2 hc3 (fun t ht hA => ⟨(), trivial, ⟨(Or.inr (Or.inl ⟨c_1, c_3, rfl⟩)), by show TX E G B R t.heap; rw [ht]; exact hT⟩, hS.F ht⟩) hS.2.2 (Nat.le_of_ble_eq_true rfl) (Nat.le_of_ble_eq_true rfl)
      · exact absurd rfl hw_4
    · have c_3 := bI_n c_3
      refine lv_iconst (v := 1) hx hb dX9_send_15 (by decide) ?_
      refine lv_goto (tgt := 20) hx hb dX9_send_16 (by decide) ?_
      refine vx_callv (rxS (fun _ => True) (As := [.int 1]) (rest := []) ⟨hx, hb, hml, hown, hts⟩ (c_X9_require l hst E z0 1) (cwS 1 hts (gdS ml_X9_53 st_X9_require in_X9 co_X9_require rfl) rfl rfl rfl (by decide +kernel) ⟨Nat.le_of_ble_eq_true rfl, Nat.le_of_ble_eq_true rfl⟩) trivial (fun U hU hW => hK.go hW hS hAz hU) rfl rfl hl.1 rfl (lv_room (Nat.le_of_ble_eq_true rfl)) dX9_send_20 ⟨Nat.le_of_ble_eq_true rfl, Nat.le_of_ble_eq_true rfl⟩) hS (fun q _ h => h.elim) (fun q h => h.elim) (fun q _ h => h.elim) (fun En ce q9 _ t H locs ht hvm hw_5 hB hz hk hS hc1 hc2 hc3 => ?_) (fun _ t H locs ht hvm hw_5 hB hz hk hS => ?_)
      · exact absurd hw_5 (by decide)
      · have hT : TX E G B R H := hT.kept (fun q hq => hk q hq (fun h => h))
        refine lv_aload_n hx hb dX9_send_23 rfl (lv_at hl 0 rfl) ?_
        have ha_6 := tx_1 hT hG
        have hg_7 : G (R h0 1) = 3 := (tw_1 hW hG).2.1
        refine va_get (D := DG E) (ci := 9) (v := .ref (R h0 1)) (C := RX9) (T := TX9) (N := 3) hx hb hts iw_X9 hown hK.1 (va_one ha_6) 0 rfl rfl 1 (by decide) (hts _ fl_X9_29) (fun _ h9 => h9) rfl dX9_send_24 ?_
        refine lv_iload_n hx hb dX9_send_27 rfl (lv_at hl 1 rfl) ?_
        have ha_8 := tx_3 hT hg_7
        have hi_9 : vp_in p0 4 := vp_in_iff.mpr (by omega)
        obtain ⟨n_10, hn_10, en_10⟩ := x_nat (x := p0) (by omega)
        have hg_11 : G (R (R h0 1) n_10) = 8 := (tw_3 hW hg_7) n_10 (by omega)
        refine va_aldq (D := DG E) hx hb hK.1 (va_one ha_8) 0 5 rfl rfl hi_9 dX9_send_28 ?_
        refine W.eq (g2 := F0 m 29 ls [.ref (R (R h0 1) n_10)]) (by rw [en_10]; rfl) ?_
        have ha_12 := tx_8 hT hg_11
        refine va_calli (rnV (fun H => TX E G B R H) (As := []) (rest := []) ⟨hx, hb, hml, hown, hts⟩ (x_X3_takesRequests l E z0 G hGz B R hW (R (R h0 1) n_10) hg_11) (cwV 0 hts (gdV ml_X9_101 im_X3_takesRequests se_X3_X3_takesRequests in_X3 co_X3_takesRequests rfl) rfl rfl rfl (by decide +kernel) ⟨Nat.le_of_ble_eq_true rfl, Nat.le_of_ble_eq_true rfl⟩) hT (fun U hU hW => hK.go hW hS hAz hU) (va_recv hK.1 (va_one ha_12) (ci := 3) (q0 := 0) rfl rfl) rfl rfl hl.1 rfl (lv_room (Nat.le_of_ble_eq_true rfl)) dX9_send_29 ⟨Nat.le_of_ble_eq_true rfl, Nat.le_of_ble_eq_true rfl⟩) hS (fun q _ h => h.elim) (fun q h => h.elim) (fun r_13 _ t H locs ht hvm hwr_13 hB hz hk hS => ?_)
        have hT : TX E G B R H := hT.kept (fun q hq => hk q hq (fun h => h))
        have hbr_13 : r_13 = 0 ∨ r_13 = 1 := hwr_13.1
        have hp0r_13 : r_13.toInt = 0 ∨ (B (R (R (R (R h0 1) n_10) 0) 6) 4).toInt ≤ 3 := hwr_13.2.1
        have hCr_13 : C_X3_takesRequests G B R (R (R h0 1) n_10) r_13 := hwr_13.2.2
        have hzr_13 := s_rng hbr_13
        refine vx_callv (rxS (fun _ => True) (As := [.int r_13]) (rest := []) ⟨hx, hb, hml, hown, hts⟩ (c_X9_requireState l hst E z0 r_13) (cwS 1 hts (gdS ml_X9_88 st_X9_requireState in_X9 co_X9_requireState rfl) rfl rfl rfl (by decide +kernel) ⟨Nat.le_of_ble_eq_true rfl, Nat.le_of_ble_eq_true rfl⟩) trivial (fun U hU hW => hK.go hW hS hAz hU) rfl rfl hl.1 rfl (lv_room (Nat.le_of_ble_eq_true rfl)) dX9_send_32 ⟨Nat.le_of_ble_eq_true rfl, Nat.le_of_ble_eq_true rfl⟩) hS (fun q _ h => h.elim) (fun q h => h.elim) (fun q _ h => h.elim) (fun En ce q9 _ t H locs ht hvm hw_14 hB hz hk hS hc1 hc2 hc3 => ?_) (fun _ t H locs ht hvm hw_14 hB hz hk hS => ?_)
        · have hT : TX E G B R H := hT.kept (fun q hq => hk q hq (fun h => h))
          simp only [lt_I, le_I, eq_I, i_0, i_1, i_2, i_3, i_4, i_5, i_6, i_7, i_8, i_10, i_12, i_16, i_20, i_23, i_24, i_31, i_32, i_63, i_64, i_m1] at hw_14
          subst hB
          exact vx_out (fun x hx => (hne x hx).elim) hlocks hc1 hc2 hc3 (fun t ht hA => ⟨(), trivial, ⟨(Or.inr (Or.inr ⟨c_1, c_3, n_10, hn_10, r_13, hCr_13, hw_14, rfl⟩)), by show TX E G B R t.heap; rw [ht]; exact hT⟩, hS.F ht⟩) hS.2.2 (Nat.le_of_ble_eq_true rfl) (Nat.le_of_ble_eq_true rfl)
        · have hT : TX E G B R H := hT.kept (fun q hq => hk q hq (fun h => h))
          simp only [lt_I, le_I, eq_I, i_0, i_1, i_2, i_3, i_4, i_5, i_6, i_7, i_8, i_10, i_12, i_16, i_20, i_23, i_24, i_31, i_32, i_63, i_64, i_m1] at hw_14
          refine lv_aload_n hx hb dX9_send_35 rfl (lv_at hl 0 rfl) ?_
          have ha_15 := tx_1 hT hG
          refine va_get (D := DG E) (ci := 9) (v := .ref (R h0 1)) (C := RX9) (T := TX9) (N := 3) hx hb hts iw_X9 hown hK.1 (va_one ha_15) 0 rfl rfl 1 (by decide) (hts _ fl_X9_29) (fun _ h9 => h9) rfl dX9_send_36 ?_
          refine lv_iload_n hx hb dX9_send_39 rfl (lv_at hl 1 rfl) ?_
          have ha_16 := tx_3 hT hg_7
          refine va_aldq (D := DG E) hx hb hK.1 (va_one ha_16) 0 5 rfl rfl hi_9 dX9_send_40 ?_
          refine W.eq (g2 := F0 m 41 ls [.ref (R (R h0 1) n_10)]) (by rw [en_10]; rfl) ?_
          have ha_17 := tx_8 hT hg_11
          have hg_18 : G (R (R (R h0 1) n_10) 0) = 9 := (tw_8 hW hg_11).1
          refine va_get (D := DG E) (ci := 3) (v := .ref (R (R (R h0 1) n_10) 0)) (C := RX3) (T := TX3) (N := 3) hx hb hts iw_X3 hown hK.1 (va_one ha_17) 0 rfl rfl 0 (by decide) (hts _ fl_X9_105) (fun _ h9 => h9) rfl dX9_send_41 ?_
          refine lv_iconst (v := 0) hx hb dX9_send_44 (by decide) ?_
          refine lv_iload_n hx hb dX9_send_45 rfl (lv_at hl 2 rfl) ?_
          refine lv_iload_n hx hb dX9_send_46 rfl (lv_at hl 3 rfl) ?_
          refine lv_iconst (v := (-1)) hx hb dX9_send_47 (by decide) ?_
          refine lv_iconst (v := (-1)) hx hb dX9_send_48 (by decide) ?_
          refine lv_iconst (v := 0) hx hb dX9_send_49 (by decide) ?_
          have hg_19 : G (R (R (R (R h0 1) n_10) 0) 6) = 11 := (tw_9 hW hg_18).2.2.2
          have hb_20 := (tw_11 hW_0 hg_19).2.2.2
          have ha_21 := tx_9 hT hg_18
          refine va_calli (rnV (fun H => TX E G B R H) (As := [.int 0, .int p1, .int p2, .int (-1), .int (-1), .int 0]) (rest := []) ⟨hx, hb, hml, hown, hts⟩ (x_X7_post l E z0 G hGz B R hW (R (R (R h0 1) n_10) 0) (0 : Int32) p1 p2 (-1 : Int32) (-1 : Int32) (0 : Int32) hg_18 (show 0 ≤ p2.toInt ∧ p2.toInt ≤ 12 from by have := i_0; have := i_m1; have := i_m1; have := i_0; first | decide | omega) (show (B (R (R (R (R h0 1) n_10) 0) 6) 4).toInt ≤ 3 from by have := i_0; have := i_m1; have := i_m1; have := i_0; first | decide | omega)) (cwV 6 hts (gdV ml_X9_109 im_X7_post se_X7_X7_post in_X7 co_X7_post rfl) rfl rfl rfl (by decide +kernel) ⟨Nat.le_of_ble_eq_true rfl, Nat.le_of_ble_eq_true rfl⟩) hT (fun U hU hW => hK.go hW hS hAz hU) (va_recv hK.1 (va_one ha_21) (ci := 7) (q0 := 0) rfl rfl) rfl rfl hl.1 rfl (lv_room (Nat.le_of_ble_eq_true rfl)) dX9_send_50 ⟨Nat.le_of_ble_eq_true rfl, Nat.le_of_ble_eq_true rfl⟩) hS (fun q _ h => mL (L' := [9, 11, 13]) (L := [9, 11, 13]) (by decide) h) (fun q h => mL (L' := [9, 11, 13]) (L := [9, 11, 13]) (by decide) h) (fun r_22 U_23 t H locs ht hvm hwr_22 hB hz hk hS => ?_)
          have hT : TX E G U_23 R H := by rw [ht] at hB; exact hB
          have hWr_22 : TW G U_23 R := hwr_22.1
          have hW := hWr_22
          have hFr_22 : Fr G [9, 11, 13] B U_23 := hwr_22.2.1
          have hCr_22 : C_X7_post G B R (R (R (R h0 1) n_10) 0) (0 : Int32) p1 p2 (-1 : Int32) (-1 : Int32) (0 : Int32) U_23 r_22 := hwr_22.2.2
          refine vx_ret ?_
          refine W.widen (k := 2) (n := 12) (Nat.le_of_ble_eq_true rfl) (Nat.le_of_ble_eq_true rfl) ?_
          exact W.iret (v := r_22) hx hb hr (fun t ht hW9 => ⟨⟨r_22, U_23, rfl, ⟨hW, (Fr.c Fr.rf hFr_22 (by decide)), ⟨c_1, c_3, n_10, hn_10, r_13, hCr_13, hw_14, r_22, U_23, hFr_22, hCr_22, rfl, rfl⟩⟩, (by show TX E G U_23 R t.heap; rw [ht]; exact hT)⟩, hS.F ht⟩) hS.2.2 dX9_send_53
theorem dX9_move_0 : decode cX9_move 0 = .ok (.iload_n 1, 1) := by decide +kernel
theorem dX9_move_1 : decode cX9_move 1 = .ok (.invokestatic 78, 3) := by decide +kernel
theorem dX9_move_4 : decode cX9_move 4 = .ok (.ifCond .eq 32, 3) := by decide +kernel
theorem dX9_move_7 : decode cX9_move 7 = .ok (.iload_n 3, 1) := by decide +kernel
theorem dX9_move_8 : decode cX9_move 8 = .ok (.iload 4, 2) := by decide +kernel
theorem dX9_move_10 : decode cX9_move 10 = .ok (.invokestatic 97, 3) := by decide +kernel
theorem dX9_move_13 : decode cX9_move 13 = .ok (.ifCond .eq 23, 3) := by decide +kernel
theorem dX9_move_16 : decode cX9_move 16 = .ok (.iload 5, 2) := by decide +kernel
theorem dX9_move_18 : decode cX9_move 18 = .ok (.invokestatic 50, 3) := by decide +kernel
theorem dX9_move_21 : decode cX9_move 21 = .ok (.ifCond .eq 15, 3) := by decide +kernel
theorem dX9_move_24 : decode cX9_move 24 = .ok (.iload 6, 2) := by decide +kernel
theorem dX9_move_26 : decode cX9_move 26 = .ok (.invokestatic 67, 3) := by decide +kernel
theorem dX9_move_29 : decode cX9_move 29 = .ok (.ifCond .eq 7, 3) := by decide +kernel
theorem dX9_move_32 : decode cX9_move 32 = .ok (.iconst 1, 1) := by decide +kernel
theorem dX9_move_33 : decode cX9_move 33 = .ok (.goto 4, 3) := by decide +kernel
theorem dX9_move_36 : decode cX9_move 36 = .ok (.iconst 0, 1) := by decide +kernel
theorem dX9_move_37 : decode cX9_move 37 = .ok (.invokestatic 53, 3) := by decide +kernel
theorem dX9_move_40 : decode cX9_move 40 = .ok (.aload_n 0, 1) := by decide +kernel
theorem dX9_move_41 : decode cX9_move 41 = .ok (.getfield 29, 3) := by decide +kernel
theorem dX9_move_44 : decode cX9_move 44 = .ok (.iload_n 1, 1) := by decide +kernel
theorem dX9_move_45 : decode cX9_move 45 = .ok (.aaload, 1) := by decide +kernel
theorem dX9_move_46 : decode cX9_move 46 = .ok (.invokevirtual 101, 3) := by decide +kernel
theorem dX9_move_49 : decode cX9_move 49 = .ok (.invokestatic 88, 3) := by decide +kernel
theorem dX9_move_52 : decode cX9_move 52 = .ok (.aload_n 0, 1) := by decide +kernel
theorem dX9_move_53 : decode cX9_move 53 = .ok (.getfield 29, 3) := by decide +kernel
theorem dX9_move_56 : decode cX9_move 56 = .ok (.iload_n 1, 1) := by decide +kernel
theorem dX9_move_57 : decode cX9_move 57 = .ok (.aaload, 1) := by decide +kernel
theorem dX9_move_58 : decode cX9_move 58 = .ok (.getfield 105, 3) := by decide +kernel
theorem dX9_move_61 : decode cX9_move 61 = .ok (.iload_n 2, 1) := by decide +kernel
theorem dX9_move_62 : decode cX9_move 62 = .ok (.ifCond .eq 7, 3) := by decide +kernel
theorem dX9_move_65 : decode cX9_move 65 = .ok (.iconst 2, 1) := by decide +kernel
theorem dX9_move_66 : decode cX9_move 66 = .ok (.goto 4, 3) := by decide +kernel
theorem dX9_move_69 : decode cX9_move 69 = .ok (.iconst 1, 1) := by decide +kernel
theorem dX9_move_70 : decode cX9_move 70 = .ok (.iload_n 3, 1) := by decide +kernel
theorem dX9_move_71 : decode cX9_move 71 = .ok (.iload 4, 2) := by decide +kernel
theorem dX9_move_73 : decode cX9_move 73 = .ok (.iload 5, 2) := by decide +kernel
theorem dX9_move_75 : decode cX9_move 75 = .ok (.iload 6, 2) := by decide +kernel
theorem dX9_move_77 : decode cX9_move 77 = .ok (.iconst 0, 1) := by decide +kernel
theorem dX9_move_78 : decode cX9_move 78 = .ok (.invokevirtual 109, 3) := by decide +kernel
theorem dX9_move_81 : decode cX9_move 81 = .ok (.ireturn, 1) := by decide +kernel
set_option maxHeartbeats 8000000 in
set_option maxRecDepth 100000 in
theorem x_X9_move (l : Launch) (hst : l.stackTraces = false) (E : EE) (z0 : Nat) (G : Nat → Nat) (hGz : ∀ q, G q ≠ 0 → z0 ≤ q) (B : AA) (R : RR) (hW : TW G B R) (h0 : Nat) (p0 : Int32) (p1 : Int32) (p2 : Int32) (p3 : Int32) (p4 : Int32) (p5 : Int32) (hG : G h0 = 1) : vx_Met l yX9_move [Cond.code yX9_move cX9_move 7 (some .int)] ({ frames := 7, cells := 2, slots := 12, locals := 101 } : Room) (va_Pc [.ref h0, .int p0, .int p1, .int p2, .int p3, .int p4, .int p5] (fun U => TX E G B R U.heap ∧ KS E z0 U)) (va_Qi (fun (r : Int32) (u : AA) => (TW G u R) ∧ (Fr G ([9, 11, 13] : List Nat) B u) ∧ (C_X9_move G B R h0 p0 p1 p2 p3 p4 p5 u r)) (fun u t => TX E G u R t.heap) (fun q : Nat => G q ∈ ([9, 11, 13] : List Nat))) (vx_X (fun (_ : Unit) => True) (fun En _ t => (X_X9_move G B R h0 p0 p1 p2 p3 p4 p5 En) ∧ TX E G B R t.heap) (fun q : Nat => G q ∈ ([9, 11, 13] : List Nat))) 2 12 (fun q : Nat => G q ∈ ([9, 11, 13] : List Nat)) := by
  refine vx_ofW (cc := cX9_move) (maxL := 7) (ret := (some .int)) (by decide) rfl ?_
  intro p e s m args below meth c s₁ B9 hml hne hv
  obtain ⟨rfl, hT, hK⟩ := hv
  have hx := B9.exec
  have hb := B9.bytes
  have hr := B9.returns
  have hts : ∀ w ∈ TS, w.before ([.ref h0, .int p0, .int p1, .int p2, .int p3, .int p4, .int p5] : List Value).toArray s = true := fun w hw => hK.2.1 w hw _
  have hown : s.vm.findClass RX9 = some m.cls := findClass_of_methodNamed B9.named
  have hlocks := B9.notSynchronized
  have hS : va_S (fun q : Nat => G q ∈ ([9, 11, 13] : List Nat)) s.heap s.heap [] := va_S.rf
  have hAz : ∀ q, (fun q : Nat => G q ∈ ([9, 11, 13] : List Nat)) q → z0 ≤ q := zL hGz (by decide)
  have hW_0 := hW
  have hl := lv_entry ([.ref h0, .int p0, .int p1, .int p2, .int p3, .int p4, .int p5]) (n := 7) (Nat.le_of_ble_eq_true rfl)
  rw [lg_entry_eq]
  generalize (lg_sl ([.ref h0, .int p0, .int p1, .int p2, .int p3, .int p4, .int p5]) ++ List.replicate (7 - (lg_sl ([.ref h0, .int p0, .int p1, .int p2, .int p3, .int p4, .int p5])).length) Slot.unset).toArray = ls at hl ⊢
  have hl : lv_has ls 7 [(0, .ref h0), (1, .int p0), (2, .int p1), (3, .int p2), (4, .int p3), (5, .int p4), (6, .int p5)] := hl
  refine lv_iload_n hx hb dX9_move_0 rfl (lv_at hl 1 rfl) ?_
  refine W.callR (W.runS (As := [.int p0]) (rest := []) ⟨hx, hb, hml, hown, hts⟩ (c_X9_isPair l p0) (cwS 1 hts (gdS ml_X9_78 st_X9_isPair in_X9 co_X9_isPair rfl) rfl rfl rfl (by decide +kernel) ⟨Nat.le_of_ble_eq_true rfl, Nat.le_of_ble_eq_true rfl⟩) preEq rfl rfl hl.1 rfl (lv_room (Nat.le_of_ble_eq_true rfl)) dX9_move_1 ⟨Nat.le_of_ble_eq_true rfl, Nat.le_of_ble_eq_true rfl⟩) ?_
  refine W.eq (g2 := F0 m 4 ls [.int (bI (0 ≤ p0.toInt ∧ p0.toInt < 4))]) (by rfl) ?_
  refine lv_if_eq (tgt := 36) hx hb dX9_move_4 (by decide) (fun c_1 => ?_) (fun c_1 => ?_)
  · have c_1 := bI_0 c_1
    refine lv_iconst (v := 0) hx hb dX9_move_36 (by decide) ?_
    refine vx_callv (rxS (fun _ => True) (As := [.int 0]) (rest := []) ⟨hx, hb, hml, hown, hts⟩ (c_X9_require l hst E z0 0) (cwS 1 hts (gdS ml_X9_53 st_X9_require in_X9 co_X9_require rfl) rfl rfl rfl (by decide +kernel) ⟨Nat.le_of_ble_eq_true rfl, Nat.le_of_ble_eq_true rfl⟩) trivial (fun U hU hW => hK.go hW hS hAz hU) rfl rfl hl.1 rfl (lv_room (Nat.le_of_ble_eq_true rfl)) dX9_move_37 ⟨Nat.le_of_ble_eq_true rfl, Nat.le_of_ble_eq_true rfl⟩) hS (fun q _ h => h.elim) (fun q h => h.elim) (fun q _ h => h.elim) (fun En ce q9 _ t H locs ht hvm hw_2 hB hz hk hS hc1 hc2 hc3 => ?_) (fun _ t H locs ht hvm hw_2 hB hz hk hS => ?_)
    · have hT : TX E G B R H := hT.kept (fun q hq => hk q hq (fun h => h))
      subst hB
      exact vx_out (fun x hx => (hne x hx).elim) hlocks hc1 hc2 hc3 (fun t ht hA => ⟨(), trivial, ⟨(Or.inl ⟨c_1, rfl⟩), by show TX E G B R t.heap; rw [ht]; exact hT⟩, hS.F ht⟩) hS.2.2 (Nat.le_of_ble_eq_true rfl) (Nat.le_of_ble_eq_true rfl)
    · exact absurd rfl hw_2
  · have c_1 := bI_n c_1
    refine lv_iload_n hx hb dX9_move_7 rfl (lv_at hl 3 rfl) ?_
    refine lv_iload hx hb dX9_move_8 (lv_at hl 4 rfl) ?_
    refine W.callR (W.runS (As := [.int p2, .int p3]) (rest := []) ⟨hx, hb, hml, hown, hts⟩ (c_X9_areCells l p2 p3) (cwS 2 hts (gdS ml_X9_97 st_X9_areCells in_X9 co_X9_areCells rfl) rfl rfl rfl (by decide +kernel) ⟨Nat.le_of_ble_eq_true rfl, Nat.le_of_ble_eq_true rfl⟩) preEq rfl rfl hl.1 rfl (lv_room (Nat.le_of_ble_eq_true rfl)) dX9_move_10 ⟨Nat.le_of_ble_eq_true rfl, Nat.le_of_ble_eq_true rfl⟩) ?_
    refine W.eq (g2 := F0 m 13 ls [.int (bI (1 ≤ p3.toInt ∧ p3.toInt ≤ 12 ∧ 0 ≤ p2.toInt ∧ p2.toInt ≤ 32 - p3.toInt))]) (by rfl) ?_
    refine lv_if_eq (tgt := 36) hx hb dX9_move_13 (by decide) (fun c_3 => ?_) (fun c_3 => ?_)
    · have c_3 := bI_0 c_3
      refine lv_iconst (v := 0) hx hb dX9_move_36 (by decide) ?_
      refine vx_callv (rxS (fun _ => True) (As := [.int 0]) (rest := []) ⟨hx, hb, hml, hown, hts⟩ (c_X9_require l hst E z0 0) (cwS 1 hts (gdS ml_X9_53 st_X9_require in_X9 co_X9_require rfl) rfl rfl rfl (by decide +kernel) ⟨Nat.le_of_ble_eq_true rfl, Nat.le_of_ble_eq_true rfl⟩) trivial (fun U hU hW => hK.go hW hS hAz hU) rfl rfl hl.1 rfl (lv_room (Nat.le_of_ble_eq_true rfl)) dX9_move_37 ⟨Nat.le_of_ble_eq_true rfl, Nat.le_of_ble_eq_true rfl⟩) hS (fun q _ h => h.elim) (fun q h => h.elim) (fun q _ h => h.elim) (fun En ce q9 _ t H locs ht hvm hw_4 hB hz hk hS hc1 hc2 hc3 => ?_) (fun _ t H locs ht hvm hw_4 hB hz hk hS => ?_)
      · have hT : TX E G B R H := hT.kept (fun q hq => hk q hq (fun h => h))
        subst hB
        exact vx_out (fun x hx => (hne x hx).elim) hlocks hc1 hc2 hc3 (fun t ht hA => ⟨(), trivial, ⟨(Or.inr (Or.inl ⟨c_1, c_3, rfl⟩)), by show TX E G B R t.heap; rw [ht]; exact hT⟩, hS.F ht⟩) hS.2.2 (Nat.le_of_ble_eq_true rfl) (Nat.le_of_ble_eq_true rfl)
      · exact absurd rfl hw_4
    · have c_3 := bI_n c_3
      refine lv_iload hx hb dX9_move_16 (lv_at hl 5 rfl) ?_
      refine W.callR (W.runS (As := [.int p4]) (rest := []) ⟨hx, hb, hml, hown, hts⟩ (c_X9_isRegion l p4) (cwS 1 hts (gdS ml_X9_50 st_X9_isRegion in_X9 co_X9_isRegion rfl) rfl rfl rfl (by decide +kernel) ⟨Nat.le_of_ble_eq_true rfl, Nat.le_of_ble_eq_true rfl⟩) preEq rfl rfl hl.1 rfl (lv_room (Nat.le_of_ble_eq_true rfl)) dX9_move_18 ⟨Nat.le_of_ble_eq_true rfl, Nat.le_of_ble_eq_true rfl⟩) ?_
      refine W.eq (g2 := F0 m 21 ls [.int (bI (0 ≤ p4.toInt ∧ p4.toInt < 6))]) (by rfl) ?_
      refine lv_if_eq (tgt := 36) hx hb dX9_move_21 (by decide) (fun c_5 => ?_) (fun c_5 => ?_)
      · have c_5 := bI_0 c_5
        refine lv_iconst (v := 0) hx hb dX9_move_36 (by decide) ?_
        refine vx_callv (rxS (fun _ => True) (As := [.int 0]) (rest := []) ⟨hx, hb, hml, hown, hts⟩ (c_X9_require l hst E z0 0) (cwS 1 hts (gdS ml_X9_53 st_X9_require in_X9 co_X9_require rfl) rfl rfl rfl (by decide +kernel) ⟨Nat.le_of_ble_eq_true rfl, Nat.le_of_ble_eq_true rfl⟩) trivial (fun U hU hW => hK.go hW hS hAz hU) rfl rfl hl.1 rfl (lv_room (Nat.le_of_ble_eq_true rfl)) dX9_move_37 ⟨Nat.le_of_ble_eq_true rfl, Nat.le_of_ble_eq_true rfl⟩) hS (fun q _ h => h.elim) (fun q h => h.elim) (fun q _ h => h.elim) (fun En ce q9 _ t H locs ht hvm hw_6 hB hz hk hS hc1 hc2 hc3 => ?_) (fun _ t H locs ht hvm hw_6 hB hz hk hS => ?_)
        · have hT : TX E G B R H := hT.kept (fun q hq => hk q hq (fun h => h))
          subst hB
          exact vx_out (fun x hx => (hne x hx).elim) hlocks hc1 hc2 hc3 (fun t ht hA => ⟨(), trivial, ⟨(Or.inr (Or.inr (Or.inl ⟨c_1, c_3, c_5, rfl⟩))), by show TX E G B R t.heap; rw [ht]; exact hT⟩, hS.F ht⟩) hS.2.2 (Nat.le_of_ble_eq_true rfl) (Nat.le_of_ble_eq_true rfl)
        · exact absurd rfl hw_6
      · have c_5 := bI_n c_5
        refine lv_iload hx hb dX9_move_24 (lv_at hl 6 rfl) ?_
        refine W.callR (W.runS (As := [.int p5]) (rest := []) ⟨hx, hb, hml, hown, hts⟩ (c_X9_isCell l p5) (cwS 1 hts (gdS ml_X9_67 st_X9_isCell in_X9 co_X9_isCell rfl) rfl rfl rfl (by decide +kernel) ⟨Nat.le_of_ble_eq_true rfl, Nat.le_of_ble_eq_true rfl⟩) preEq rfl rfl hl.1 rfl (lv_room (Nat.le_of_ble_eq_true rfl)) dX9_move_26 ⟨Nat.le_of_ble_eq_true rfl, Nat.le_of_ble_eq_true rfl⟩) ?_
        refine W.eq (g2 := F0 m 29 ls [.int (bI (0 ≤ p5.toInt ∧ p5.toInt < 32))]) (by rfl) ?_
        refine lv_if_eq (tgt := 36) hx hb dX9_move_29 (by decide) (fun c_7 => ?_) (fun c_7 => ?_)
        · have c_7 := bI_0 c_7
          refine lv_iconst (v := 0) hx hb dX9_move_36 (by decide) ?_
          refine vx_callv (rxS (fun _ => True) (As := [.int 0]) (rest := []) ⟨hx, hb, hml, hown, hts⟩ (c_X9_require l hst E z0 0) (cwS 1 hts (gdS ml_X9_53 st_X9_require in_X9 co_X9_require rfl) rfl rfl rfl (by decide +kernel) ⟨Nat.le_of_ble_eq_true rfl, Nat.le_of_ble_eq_true rfl⟩) trivial (fun U hU hW => hK.go hW hS hAz hU) rfl rfl hl.1 rfl (lv_room (Nat.le_of_ble_eq_true rfl)) dX9_move_37 ⟨Nat.le_of_ble_eq_true rfl, Nat.le_of_ble_eq_true rfl⟩) hS (fun q _ h => h.elim) (fun q h => h.elim) (fun q _ h => h.elim) (fun En ce q9 _ t H locs ht hvm hw_8 hB hz hk hS hc1 hc2 hc3 => ?_) (fun _ t H locs ht hvm hw_8 hB hz hk hS => ?_)
          · have hT : TX E G B R H := hT.kept (fun q hq => hk q hq (fun h => h))
            subst hB
            exact vx_out (fun x hx => (hne x hx).elim) hlocks hc1 hc2 hc3 (fun t ht hA => ⟨(), trivial, ⟨(Or.inr (Or.inr (Or.inr (Or.inl ⟨c_1, c_3, c_5, c_7, rfl⟩)))), by show TX E G B R t.heap; rw [ht]; exact hT⟩, hS.F ht⟩) hS.2.2 (Nat.le_of_ble_eq_true rfl) (Nat.le_of_ble_eq_true rfl)
          · exact absurd rfl hw_8
        · have c_7 := bI_n c_7
          refine lv_iconst (v := 1) hx hb dX9_move_32 (by decide) ?_
          refine lv_goto (tgt := 37) hx hb dX9_move_33 (by decide) ?_
          refine vx_callv (rxS (fun _ => True) (As := [.int 1]) (rest := []) ⟨hx, hb, hml, hown, hts⟩ (c_X9_require l hst E z0 1) (cwS 1 hts (gdS ml_X9_53 st_X9_require in_X9 co_X9_require rfl) rfl rfl rfl (by decide +kernel) ⟨Nat.le_of_ble_eq_true rfl, Nat.le_of_ble_eq_true rfl⟩) trivial (fun U hU hW => hK.go hW hS hAz hU) rfl rfl hl.1 rfl (lv_room (Nat.le_of_ble_eq_true rfl)) dX9_move_37 ⟨Nat.le_of_ble_eq_true rfl, Nat.le_of_ble_eq_true rfl⟩) hS (fun q _ h => h.elim) (fun q h => h.elim) (fun q _ h => h.elim) (fun En ce q9 _ t H locs ht hvm hw_9 hB hz hk hS hc1 hc2 hc3 => ?_) (fun _ t H locs ht hvm hw_9 hB hz hk hS => ?_)
          · exact absurd hw_9 (by decide)
          · have hT : TX E G B R H := hT.kept (fun q hq => hk q hq (fun h => h))
            refine lv_aload_n hx hb dX9_move_40 rfl (lv_at hl 0 rfl) ?_
            have ha_10 := tx_1 hT hG
            have hg_11 : G (R h0 1) = 3 := (tw_1 hW hG).2.1
            refine va_get (D := DG E) (ci := 9) (v := .ref (R h0 1)) (C := RX9) (T := TX9) (N := 3) hx hb hts iw_X9 hown hK.1 (va_one ha_10) 0 rfl rfl 1 (by decide) (hts _ fl_X9_29) (fun _ h9 => h9) rfl dX9_move_41 ?_
            refine lv_iload_n hx hb dX9_move_44 rfl (lv_at hl 1 rfl) ?_
            have ha_12 := tx_3 hT hg_11
            have hi_13 : vp_in p0 4 := vp_in_iff.mpr (by omega)
            obtain ⟨n_14, hn_14, en_14⟩ := x_nat (x := p0) (by omega)
            have hg_15 : G (R (R h0 1) n_14) = 8 := (tw_3 hW hg_11) n_14 (by omega)
            refine va_aldq (D := DG E) hx hb hK.1 (va_one ha_12) 0 5 rfl rfl hi_13 dX9_move_45 ?_
            refine W.eq (g2 := F0 m 46 ls [.ref (R (R h0 1) n_14)]) (by rw [en_14]; rfl) ?_
            have ha_16 := tx_8 hT hg_15
            refine va_calli (rnV (fun H => TX E G B R H) (As := []) (rest := []) ⟨hx, hb, hml, hown, hts⟩ (x_X3_takesRequests l E z0 G hGz B R hW (R (R h0 1) n_14) hg_15) (cwV 0 hts (gdV ml_X9_101 im_X3_takesRequests se_X3_X3_takesRequests in_X3 co_X3_takesRequests rfl) rfl rfl rfl (by decide +kernel) ⟨Nat.le_of_ble_eq_true rfl, Nat.le_of_ble_eq_true rfl⟩) hT (fun U hU hW => hK.go hW hS hAz hU) (va_recv hK.1 (va_one ha_16) (ci := 3) (q0 := 0) rfl rfl) rfl rfl hl.1 rfl (lv_room (Nat.le_of_ble_eq_true rfl)) dX9_move_46 ⟨Nat.le_of_ble_eq_true rfl, Nat.le_of_ble_eq_true rfl⟩) hS (fun q _ h => h.elim) (fun q h => h.elim) (fun r_17 _ t H locs ht hvm hwr_17 hB hz hk hS => ?_)
            have hT : TX E G B R H := hT.kept (fun q hq => hk q hq (fun h => h))
            have hbr_17 : r_17 = 0 ∨ r_17 = 1 := hwr_17.1
            have hp0r_17 : r_17.toInt = 0 ∨ (B (R (R (R (R h0 1) n_14) 0) 6) 4).toInt ≤ 3 := hwr_17.2.1
            have hCr_17 : C_X3_takesRequests G B R (R (R h0 1) n_14) r_17 := hwr_17.2.2
            have hzr_17 := s_rng hbr_17
            refine vx_callv (rxS (fun _ => True) (As := [.int r_17]) (rest := []) ⟨hx, hb, hml, hown, hts⟩ (c_X9_requireState l hst E z0 r_17) (cwS 1 hts (gdS ml_X9_88 st_X9_requireState in_X9 co_X9_requireState rfl) rfl rfl rfl (by decide +kernel) ⟨Nat.le_of_ble_eq_true rfl, Nat.le_of_ble_eq_true rfl⟩) trivial (fun U hU hW => hK.go hW hS hAz hU) rfl rfl hl.1 rfl (lv_room (Nat.le_of_ble_eq_true rfl)) dX9_move_49 ⟨Nat.le_of_ble_eq_true rfl, Nat.le_of_ble_eq_true rfl⟩) hS (fun q _ h => h.elim) (fun q h => h.elim) (fun q _ h => h.elim) (fun En ce q9 _ t H locs ht hvm hw_18 hB hz hk hS hc1 hc2 hc3 => ?_) (fun _ t H locs ht hvm hw_18 hB hz hk hS => ?_)
            · have hT : TX E G B R H := hT.kept (fun q hq => hk q hq (fun h => h))
              simp only [lt_I, le_I, eq_I, i_0, i_1, i_2, i_3, i_4, i_5, i_6, i_7, i_8, i_10, i_12, i_16, i_20, i_23, i_24, i_31, i_32, i_63, i_64, i_m1] at hw_18
              subst hB
              exact vx_out (fun x hx => (hne x hx).elim) hlocks hc1 hc2 hc3 (fun t ht hA => ⟨(), trivial, ⟨(Or.inr (Or.inr (Or.inr (Or.inr ⟨c_1, c_3, c_5, c_7, n_14, hn_14, r_17, hCr_17, hw_18, rfl⟩)))), by show TX E G B R t.heap; rw [ht]; exact hT⟩, hS.F ht⟩) hS.2.2 (Nat.le_of_ble_eq_true rfl) (Nat.le_of_ble_eq_true rfl)
            · have hT : TX E G B R H := hT.kept (fun q hq => hk q hq (fun h => h))
              simp only [lt_I, le_I, eq_I, i_0, i_1, i_2, i_3, i_4, i_5, i_6, i_7, i_8, i_10, i_12, i_16, i_20, i_23, i_24, i_31, i_32, i_63, i_64, i_m1] at hw_18
              refine lv_aload_n hx hb dX9_move_52 rfl (lv_at hl 0 rfl) ?_
              have ha_19 := tx_1 hT hG
              refine va_get (D := DG E) (ci := 9) (v := .ref (R h0 1)) (C := RX9) (T := TX9) (N := 3) hx hb hts iw_X9 hown hK.1 (va_one ha_19) 0 rfl rfl 1 (by decide) (hts _ fl_X9_29) (fun _ h9 => h9) rfl dX9_move_53 ?_
              refine lv_iload_n hx hb dX9_move_56 rfl (lv_at hl 1 rfl) ?_
              have ha_20 := tx_3 hT hg_11
              refine va_aldq (D := DG E) hx hb hK.1 (va_one ha_20) 0 5 rfl rfl hi_13 dX9_move_57 ?_
              refine W.eq (g2 := F0 m 58 ls [.ref (R (R h0 1) n_14)]) (by rw [en_14]; rfl) ?_
              have ha_21 := tx_8 hT hg_15
              have hg_22 : G (R (R (R h0 1) n_14) 0) = 9 := (tw_8 hW hg_15).1
              refine va_get (D := DG E) (ci := 3) (v := .ref (R (R (R h0 1) n_14) 0)) (C := RX3) (T := TX3) (N := 3) hx hb hts iw_X3 hown hK.1 (va_one ha_21) 0 rfl rfl 0 (by decide) (hts _ fl_X9_105) (fun _ h9 => h9) rfl dX9_move_58 ?_
              refine lv_iload_n hx hb dX9_move_61 rfl (lv_at hl 2 rfl) ?_
              refine lv_if_eq (tgt := 69) hx hb dX9_move_62 (by decide) (fun c_23 => ?_) (fun c_23 => ?_)
              · simp only [lt_I, le_I, eq_I, i_0, i_1, i_2, i_3, i_4, i_5, i_6, i_7, i_8, i_10, i_12, i_16, i_20, i_23, i_24, i_31, i_32, i_63, i_64, i_m1] at c_23
                refine lv_iconst (v := 1) hx hb dX9_move_69 (by decide) ?_
                refine lv_iload_n hx hb dX9_move_70 rfl (lv_at hl 3 rfl) ?_
                refine lv_iload hx hb dX9_move_71 (lv_at hl 4 rfl) ?_
                refine lv_iload hx hb dX9_move_73 (lv_at hl 5 rfl) ?_
                refine lv_iload hx hb dX9_move_75 (lv_at hl 6 rfl) ?_
                refine lv_iconst (v := 0) hx hb dX9_move_77 (by decide) ?_
                have hg_24 : G (R (R (R (R h0 1) n_14) 0) 6) = 11 := (tw_9 hW hg_22).2.2.2
                have hb_25 := (tw_11 hW_0 hg_24).2.2.2
                have ha_26 := tx_9 hT hg_22
                refine va_calli (rnV (fun H => TX E G B R H) (As := [.int 1, .int p2, .int p3, .int p4, .int p5, .int 0]) (rest := []) ⟨hx, hb, hml, hown, hts⟩ (x_X7_post l E z0 G hGz B R hW (R (R (R h0 1) n_14) 0) (1 : Int32) p2 p3 p4 p5 (0 : Int32) hg_22 (show 0 ≤ p3.toInt ∧ p3.toInt ≤ 12 from by have := i_1; have := i_0; first | decide | omega) (show (B (R (R (R (R h0 1) n_14) 0) 6) 4).toInt ≤ 3 from by have := i_1; have := i_0; first | decide | omega)) (cwV 6 hts (gdV ml_X9_109 im_X7_post se_X7_X7_post in_X7 co_X7_post rfl) rfl rfl rfl (by decide +kernel) ⟨Nat.le_of_ble_eq_true rfl, Nat.le_of_ble_eq_true rfl⟩) hT (fun U hU hW => hK.go hW hS hAz hU) (va_recv hK.1 (va_one ha_26) (ci := 7) (q0 := 0) rfl rfl) rfl rfl hl.1 rfl (lv_room (Nat.le_of_ble_eq_true rfl)) dX9_move_78 ⟨Nat.le_of_ble_eq_true rfl, Nat.le_of_ble_eq_true rfl⟩) hS (fun q _ h => mL (L' := [9, 11, 13]) (L := [9, 11, 13]) (by decide) h) (fun q h => mL (L' := [9, 11, 13]) (L := [9, 11, 13]) (by decide) h) (fun r_27 U_28 t H locs ht hvm hwr_27 hB hz hk hS => ?_)
                have hT : TX E G U_28 R H := by rw [ht] at hB; exact hB
                have hWr_27 : TW G U_28 R := hwr_27.1
                have hW := hWr_27
                have hFr_27 : Fr G [9, 11, 13] B U_28 := hwr_27.2.1
                have hCr_27 : C_X7_post G B R (R (R (R h0 1) n_14) 0) (1 : Int32) p2 p3 p4 p5 (0 : Int32) U_28 r_27 := hwr_27.2.2
                refine vx_ret ?_
                refine W.widen (k := 2) (n := 12) (Nat.le_of_ble_eq_true rfl) (Nat.le_of_ble_eq_true rfl) ?_
                exact W.iret (v := r_27) hx hb hr (fun t ht hW9 => ⟨⟨r_27, U_28, rfl, ⟨hW, (Fr.c Fr.rf hFr_27 (by decide)), (Or.inl ⟨c_1, c_3, c_5, c_7, n_14, hn_14, r_17, hCr_17, hw_18, c_23, r_27, U_28, hFr_27, hCr_27, rfl, rfl⟩)⟩, (by show TX E G U_28 R t.heap; rw [ht]; exact hT)⟩, hS.F ht⟩) hS.2.2 dX9_move_81
              · simp only [lt_I, le_I, eq_I, i_0, i_1, i_2, i_3, i_4, i_5, i_6, i_7, i_8, i_10, i_12, i_16, i_20, i_23, i_24, i_31, i_32, i_63, i_64, i_m1] at c_23
                refine lv_iconst (v := 2) hx hb dX9_move_65 (by decide) ?_
                refine lv_goto (tgt := 70) hx hb dX9_move_66 (by decide) ?_
                refine lv_iload_n hx hb dX9_move_70 rfl (lv_at hl 3 rfl) ?_
                refine lv_iload hx hb dX9_move_71 (lv_at hl 4 rfl) ?_
                refine lv_iload hx hb dX9_move_73 (lv_at hl 5 rfl) ?_
                refine lv_iload hx hb dX9_move_75 (lv_at hl 6 rfl) ?_
                refine lv_iconst (v := 0) hx hb dX9_move_77 (by decide) ?_
                have hg_29 : G (R (R (R (R h0 1) n_14) 0) 6) = 11 := (tw_9 hW hg_22).2.2.2
                have hb_30 := (tw_11 hW_0 hg_29).2.2.2
                have ha_31 := tx_9 hT hg_22
                refine va_calli (rnV (fun H => TX E G B R H) (As := [.int 2, .int p2, .int p3, .int p4, .int p5, .int 0]) (rest := []) ⟨hx, hb, hml, hown, hts⟩ (x_X7_post l E z0 G hGz B R hW (R (R (R h0 1) n_14) 0) (2 : Int32) p2 p3 p4 p5 (0 : Int32) hg_22 (show 0 ≤ p3.toInt ∧ p3.toInt ≤ 12 from by have := i_2; have := i_0; first | decide | omega) (show (B (R (R (R (R h0 1) n_14) 0) 6) 4).toInt ≤ 3 from by have := i_2; have := i_0; first | decide | omega)) (cwV 6 hts (gdV ml_X9_109 im_X7_post se_X7_X7_post in_X7 co_X7_post rfl) rfl rfl rfl (by decide +kernel) ⟨Nat.le_of_ble_eq_true rfl, Nat.le_of_ble_eq_true rfl⟩) hT (fun U hU hW => hK.go hW hS hAz hU) (va_recv hK.1 (va_one ha_31) (ci := 7) (q0 := 0) rfl rfl) rfl rfl hl.1 rfl (lv_room (Nat.le_of_ble_eq_true rfl)) dX9_move_78 ⟨Nat.le_of_ble_eq_true rfl, Nat.le_of_ble_eq_true rfl⟩) hS (fun q _ h => mL (L' := [9, 11, 13]) (L := [9, 11, 13]) (by decide) h) (fun q h => mL (L' := [9, 11, 13]) (L := [9, 11, 13]) (by decide) h) (fun r_32 U_33 t H locs ht hvm hwr_32 hB hz hk hS => ?_)
                have hT : TX E G U_33 R H := by rw [ht] at hB; exact hB
                have hWr_32 : TW G U_33 R := hwr_32.1
                have hW := hWr_32
                have hFr_32 : Fr G [9, 11, 13] B U_33 := hwr_32.2.1
                have hCr_32 : C_X7_post G B R (R (R (R h0 1) n_14) 0) (2 : Int32) p2 p3 p4 p5 (0 : Int32) U_33 r_32 := hwr_32.2.2
                refine vx_ret ?_
                refine W.widen (k := 2) (n := 12) (Nat.le_of_ble_eq_true rfl) (Nat.le_of_ble_eq_true rfl) ?_
                exact W.iret (v := r_32) hx hb hr (fun t ht hW9 => ⟨⟨r_32, U_33, rfl, ⟨hW, (Fr.c Fr.rf hFr_32 (by decide)), (Or.inr ⟨c_1, c_3, c_5, c_7, n_14, hn_14, r_17, hCr_17, hw_18, c_23, r_32, U_33, hFr_32, hCr_32, rfl, rfl⟩)⟩, (by show TX E G U_33 R t.heap; rw [ht]; exact hT)⟩, hS.F ht⟩) hS.2.2 dX9_move_81
theorem dX9_add_0 : decode cX9_add 0 = .ok (.iload_n 1, 1) := by decide +kernel
theorem dX9_add_1 : decode cX9_add 1 = .ok (.invokestatic 78, 3) := by decide +kernel
theorem dX9_add_4 : decode cX9_add 4 = .ok (.ifCond .eq 29, 3) := by decide +kernel
theorem dX9_add_7 : decode cX9_add 7 = .ok (.iload_n 2, 1) := by decide +kernel
theorem dX9_add_8 : decode cX9_add 8 = .ok (.invokestatic 67, 3) := by decide +kernel
theorem dX9_add_11 : decode cX9_add 11 = .ok (.ifCond .eq 22, 3) := by decide +kernel
theorem dX9_add_14 : decode cX9_add 14 = .ok (.iload_n 3, 1) := by decide +kernel
theorem dX9_add_15 : decode cX9_add 15 = .ok (.invokestatic 50, 3) := by decide +kernel
theorem dX9_add_18 : decode cX9_add 18 = .ok (.ifCond .eq 15, 3) := by decide +kernel
theorem dX9_add_21 : decode cX9_add 21 = .ok (.iload 4, 2) := by decide +kernel
theorem dX9_add_23 : decode cX9_add 23 = .ok (.invokestatic 67, 3) := by decide +kernel
theorem dX9_add_26 : decode cX9_add 26 = .ok (.ifCond .eq 7, 3) := by decide +kernel
theorem dX9_add_29 : decode cX9_add 29 = .ok (.iconst 1, 1) := by decide +kernel
theorem dX9_add_30 : decode cX9_add 30 = .ok (.goto 4, 3) := by decide +kernel
theorem dX9_add_33 : decode cX9_add 33 = .ok (.iconst 0, 1) := by decide +kernel
theorem dX9_add_34 : decode cX9_add 34 = .ok (.invokestatic 53, 3) := by decide +kernel
theorem dX9_add_37 : decode cX9_add 37 = .ok (.aload_n 0, 1) := by decide +kernel
theorem dX9_add_38 : decode cX9_add 38 = .ok (.getfield 29, 3) := by decide +kernel
theorem dX9_add_41 : decode cX9_add 41 = .ok (.iload_n 1, 1) := by decide +kernel
theorem dX9_add_42 : decode cX9_add 42 = .ok (.aaload, 1) := by decide +kernel
theorem dX9_add_43 : decode cX9_add 43 = .ok (.invokevirtual 101, 3) := by decide +kernel
theorem dX9_add_46 : decode cX9_add 46 = .ok (.invokestatic 88, 3) := by decide +kernel
theorem dX9_add_49 : decode cX9_add 49 = .ok (.aload_n 0, 1) := by decide +kernel
theorem dX9_add_50 : decode cX9_add 50 = .ok (.getfield 29, 3) := by decide +kernel
theorem dX9_add_53 : decode cX9_add 53 = .ok (.iload_n 1, 1) := by decide +kernel
theorem dX9_add_54 : decode cX9_add 54 = .ok (.aaload, 1) := by decide +kernel
theorem dX9_add_55 : decode cX9_add 55 = .ok (.getfield 105, 3) := by decide +kernel
theorem dX9_add_58 : decode cX9_add 58 = .ok (.iconst 3, 1) := by decide +kernel
theorem dX9_add_59 : decode cX9_add 59 = .ok (.iload_n 2, 1) := by decide +kernel
theorem dX9_add_60 : decode cX9_add 60 = .ok (.iconst 1, 1) := by decide +kernel
theorem dX9_add_61 : decode cX9_add 61 = .ok (.iload_n 3, 1) := by decide +kernel
theorem dX9_add_62 : decode cX9_add 62 = .ok (.iload 4, 2) := by decide +kernel
theorem dX9_add_64 : decode cX9_add 64 = .ok (.iload 5, 2) := by decide +kernel
theorem dX9_add_66 : decode cX9_add 66 = .ok (.invokevirtual 109, 3) := by decide +kernel
theorem dX9_add_69 : decode cX9_add 69 = .ok (.ireturn, 1) := by decide +kernel
set_option maxHeartbeats 8000000 in
set_option maxRecDepth 100000 in
theorem x_X9_add (l : Launch) (hst : l.stackTraces = false) (E : EE) (z0 : Nat) (G : Nat → Nat) (hGz : ∀ q, G q ≠ 0 → z0 ≤ q) (B : AA) (R : RR) (hW : TW G B R) (h0 : Nat) (p0 : Int32) (p1 : Int32) (p2 : Int32) (p3 : Int32) (p4 : Int32) (hG : G h0 = 1) : vx_Met l yX9_add [Cond.code yX9_add cX9_add 6 (some .int)] ({ frames := 7, cells := 2, slots := 12, locals := 101 } : Room) (va_Pc [.ref h0, .int p0, .int p1, .int p2, .int p3, .int p4] (fun U => TX E G B R U.heap ∧ KS E z0 U)) (va_Qi (fun (r : Int32) (u : AA) => (TW G u R) ∧ (Fr G ([9, 11, 13] : List Nat) B u) ∧ (C_X9_add G B R h0 p0 p1 p2 p3 p4 u r)) (fun u t => TX E G u R t.heap) (fun q : Nat => G q ∈ ([9, 11, 13] : List Nat))) (vx_X (fun (_ : Unit) => True) (fun En _ t => (X_X9_add G B R h0 p0 p1 p2 p3 p4 En) ∧ TX E G B R t.heap) (fun q : Nat => G q ∈ ([9, 11, 13] : List Nat))) 2 12 (fun q : Nat => G q ∈ ([9, 11, 13] : List Nat)) := by
  refine vx_ofW (cc := cX9_add) (maxL := 6) (ret := (some .int)) (by decide) rfl ?_
  intro p e s m args below meth c s₁ B9 hml hne hv
  obtain ⟨rfl, hT, hK⟩ := hv
  have hx := B9.exec
  have hb := B9.bytes
  have hr := B9.returns
  have hts : ∀ w ∈ TS, w.before ([.ref h0, .int p0, .int p1, .int p2, .int p3, .int p4] : List Value).toArray s = true := fun w hw => hK.2.1 w hw _
  have hown : s.vm.findClass RX9 = some m.cls := findClass_of_methodNamed B9.named
  have hlocks := B9.notSynchronized
  have hS : va_S (fun q : Nat => G q ∈ ([9, 11, 13] : List Nat)) s.heap s.heap [] := va_S.rf
  have hAz : ∀ q, (fun q : Nat => G q ∈ ([9, 11, 13] : List Nat)) q → z0 ≤ q := zL hGz (by decide)
  have hW_0 := hW
  have hl := lv_entry ([.ref h0, .int p0, .int p1, .int p2, .int p3, .int p4]) (n := 6) (Nat.le_of_ble_eq_true rfl)
  rw [lg_entry_eq]
  generalize (lg_sl ([.ref h0, .int p0, .int p1, .int p2, .int p3, .int p4]) ++ List.replicate (6 - (lg_sl ([.ref h0, .int p0, .int p1, .int p2, .int p3, .int p4])).length) Slot.unset).toArray = ls at hl ⊢
  have hl : lv_has ls 6 [(0, .ref h0), (1, .int p0), (2, .int p1), (3, .int p2), (4, .int p3), (5, .int p4)] := hl
  refine lv_iload_n hx hb dX9_add_0 rfl (lv_at hl 1 rfl) ?_
  refine W.callR (W.runS (As := [.int p0]) (rest := []) ⟨hx, hb, hml, hown, hts⟩ (c_X9_isPair l p0) (cwS 1 hts (gdS ml_X9_78 st_X9_isPair in_X9 co_X9_isPair rfl) rfl rfl rfl (by decide +kernel) ⟨Nat.le_of_ble_eq_true rfl, Nat.le_of_ble_eq_true rfl⟩) preEq rfl rfl hl.1 rfl (lv_room (Nat.le_of_ble_eq_true rfl)) dX9_add_1 ⟨Nat.le_of_ble_eq_true rfl, Nat.le_of_ble_eq_true rfl⟩) ?_
  refine W.eq (g2 := F0 m 4 ls [.int (bI (0 ≤ p0.toInt ∧ p0.toInt < 4))]) (by rfl) ?_
  refine lv_if_eq (tgt := 33) hx hb dX9_add_4 (by decide) (fun c_1 => ?_) (fun c_1 => ?_)
  · have c_1 := bI_0 c_1
    refine lv_iconst (v := 0) hx hb dX9_add_33 (by decide) ?_
    refine vx_callv (rxS (fun _ => True) (As := [.int 0]) (rest := []) ⟨hx, hb, hml, hown, hts⟩ (c_X9_require l hst E z0 0) (cwS 1 hts (gdS ml_X9_53 st_X9_require in_X9 co_X9_require rfl) rfl rfl rfl (by decide +kernel) ⟨Nat.le_of_ble_eq_true rfl, Nat.le_of_ble_eq_true rfl⟩) trivial (fun U hU hW => hK.go hW hS hAz hU) rfl rfl hl.1 rfl (lv_room (Nat.le_of_ble_eq_true rfl)) dX9_add_34 ⟨Nat.le_of_ble_eq_true rfl, Nat.le_of_ble_eq_true rfl⟩) hS (fun q _ h => h.elim) (fun q h => h.elim) (fun q _ h => h.elim) (fun En ce q9 _ t H locs ht hvm hw_2 hB hz hk hS hc1 hc2 hc3 => ?_) (fun _ t H locs ht hvm hw_2 hB hz hk hS => ?_)
    · have hT : TX E G B R H := hT.kept (fun q hq => hk q hq (fun h => h))
      subst hB
      exact vx_out (fun x hx => (hne x hx).elim) hlocks hc1 hc2 hc3 (fun t ht hA => ⟨(), trivial, ⟨(Or.inl ⟨c_1, rfl⟩), by show TX E G B R t.heap; rw [ht]; exact hT⟩, hS.F ht⟩) hS.2.2 (Nat.le_of_ble_eq_true rfl) (Nat.le_of_ble_eq_true rfl)
    · exact absurd rfl hw_2
  · have c_1 := bI_n c_1
    refine lv_iload_n hx hb dX9_add_7 rfl (lv_at hl 2 rfl) ?_
    refine W.callR (W.runS (As := [.int p1]) (rest := []) ⟨hx, hb, hml, hown, hts⟩ (c_X9_isCell l p1) (cwS 1 hts (gdS ml_X9_67 st_X9_isCell in_X9 co_X9_isCell rfl) rfl rfl rfl (by decide +kernel) ⟨Nat.le_of_ble_eq_true rfl, Nat.le_of_ble_eq_true rfl⟩) preEq rfl rfl hl.1 rfl (lv_room (Nat.le_of_ble_eq_true rfl)) dX9_add_8 ⟨Nat.le_of_ble_eq_true rfl, Nat.le_of_ble_eq_true rfl⟩) ?_
    refine W.eq (g2 := F0 m 11 ls [.int (bI (0 ≤ p1.toInt ∧ p1.toInt < 32))]) (by rfl) ?_
    refine lv_if_eq (tgt := 33) hx hb dX9_add_11 (by decide) (fun c_3 => ?_) (fun c_3 => ?_)
    · have c_3 := bI_0 c_3
      refine lv_iconst (v := 0) hx hb dX9_add_33 (by decide) ?_
      refine vx_callv (rxS (fun _ => True) (As := [.int 0]) (rest := []) ⟨hx, hb, hml, hown, hts⟩ (c_X9_require l hst E z0 0) (cwS 1 hts (gdS ml_X9_53 st_X9_require in_X9 co_X9_require rfl) rfl rfl rfl (by decide +kernel) ⟨Nat.le_of_ble_eq_true rfl, Nat.le_of_ble_eq_true rfl⟩) trivial (fun U hU hW => hK.go hW hS hAz hU) rfl rfl hl.1 rfl (lv_room (Nat.le_of_ble_eq_true rfl)) dX9_add_34 ⟨Nat.le_of_ble_eq_true rfl, Nat.le_of_ble_eq_true rfl⟩) hS (fun q _ h => h.elim) (fun q h => h.elim) (fun q _ h => h.elim) (fun En ce q9 _ t H locs ht hvm hw_4 hB hz hk hS hc1 hc2 hc3 => ?_) (fun _ t H locs ht hvm hw_4 hB hz hk hS => ?_)
      · have hT : TX E G B R H := hT.kept (fun q hq => hk q hq (fun h => h))
        subst hB
        exact vx_out (fun x hx => (hne x hx).elim) hlocks hc1 hc2 hc3 (fun t ht hA => ⟨(), trivial, ⟨(Or.inr (Or.inl ⟨c_1, c_3, rfl⟩)), by show TX E G B R t.heap; rw [ht]; exact hT⟩, hS.F ht⟩) hS.2.2 (Nat.le_of_ble_eq_true rfl) (Nat.le_of_ble_eq_true rfl)
      · exact absurd rfl hw_4
    · have c_3 := bI_n c_3
      refine lv_iload_n hx hb dX9_add_14 rfl (lv_at hl 3 rfl) ?_
      refine W.callR (W.runS (As := [.int p2]) (rest := []) ⟨hx, hb, hml, hown, hts⟩ (c_X9_isRegion l p2) (cwS 1 hts (gdS ml_X9_50 st_X9_isRegion in_X9 co_X9_isRegion rfl) rfl rfl rfl (by decide +kernel) ⟨Nat.le_of_ble_eq_true rfl, Nat.le_of_ble_eq_true rfl⟩) preEq rfl rfl hl.1 rfl (lv_room (Nat.le_of_ble_eq_true rfl)) dX9_add_15 ⟨Nat.le_of_ble_eq_true rfl, Nat.le_of_ble_eq_true rfl⟩) ?_
      refine W.eq (g2 := F0 m 18 ls [.int (bI (0 ≤ p2.toInt ∧ p2.toInt < 6))]) (by rfl) ?_
      refine lv_if_eq (tgt := 33) hx hb dX9_add_18 (by decide) (fun c_5 => ?_) (fun c_5 => ?_)
      · have c_5 := bI_0 c_5
        refine lv_iconst (v := 0) hx hb dX9_add_33 (by decide) ?_
        refine vx_callv (rxS (fun _ => True) (As := [.int 0]) (rest := []) ⟨hx, hb, hml, hown, hts⟩ (c_X9_require l hst E z0 0) (cwS 1 hts (gdS ml_X9_53 st_X9_require in_X9 co_X9_require rfl) rfl rfl rfl (by decide +kernel) ⟨Nat.le_of_ble_eq_true rfl, Nat.le_of_ble_eq_true rfl⟩) trivial (fun U hU hW => hK.go hW hS hAz hU) rfl rfl hl.1 rfl (lv_room (Nat.le_of_ble_eq_true rfl)) dX9_add_34 ⟨Nat.le_of_ble_eq_true rfl, Nat.le_of_ble_eq_true rfl⟩) hS (fun q _ h => h.elim) (fun q h => h.elim) (fun q _ h => h.elim) (fun En ce q9 _ t H locs ht hvm hw_6 hB hz hk hS hc1 hc2 hc3 => ?_) (fun _ t H locs ht hvm hw_6 hB hz hk hS => ?_)
        · have hT : TX E G B R H := hT.kept (fun q hq => hk q hq (fun h => h))
          subst hB
          exact vx_out (fun x hx => (hne x hx).elim) hlocks hc1 hc2 hc3 (fun t ht hA => ⟨(), trivial, ⟨(Or.inr (Or.inr (Or.inl ⟨c_1, c_3, c_5, rfl⟩))), by show TX E G B R t.heap; rw [ht]; exact hT⟩, hS.F ht⟩) hS.2.2 (Nat.le_of_ble_eq_true rfl) (Nat.le_of_ble_eq_true rfl)
        · exact absurd rfl hw_6
      · have c_5 := bI_n c_5
        refine lv_iload hx hb dX9_add_21 (lv_at hl 4 rfl) ?_
        refine W.callR (W.runS (As := [.int p3]) (rest := []) ⟨hx, hb, hml, hown, hts⟩ (c_X9_isCell l p3) (cwS 1 hts (gdS ml_X9_67 st_X9_isCell in_X9 co_X9_isCell rfl) rfl rfl rfl (by decide +kernel) ⟨Nat.le_of_ble_eq_true rfl, Nat.le_of_ble_eq_true rfl⟩) preEq rfl rfl hl.1 rfl (lv_room (Nat.le_of_ble_eq_true rfl)) dX9_add_23 ⟨Nat.le_of_ble_eq_true rfl, Nat.le_of_ble_eq_true rfl⟩) ?_
        refine W.eq (g2 := F0 m 26 ls [.int (bI (0 ≤ p3.toInt ∧ p3.toInt < 32))]) (by rfl) ?_
        refine lv_if_eq (tgt := 33) hx hb dX9_add_26 (by decide) (fun c_7 => ?_) (fun c_7 => ?_)
        · have c_7 := bI_0 c_7
          refine lv_iconst (v := 0) hx hb dX9_add_33 (by decide) ?_
          refine vx_callv (rxS (fun _ => True) (As := [.int 0]) (rest := []) ⟨hx, hb, hml, hown, hts⟩ (c_X9_require l hst E z0 0) (cwS 1 hts (gdS ml_X9_53 st_X9_require in_X9 co_X9_require rfl) rfl rfl rfl (by decide +kernel) ⟨Nat.le_of_ble_eq_true rfl, Nat.le_of_ble_eq_true rfl⟩) trivial (fun U hU hW => hK.go hW hS hAz hU) rfl rfl hl.1 rfl (lv_room (Nat.le_of_ble_eq_true rfl)) dX9_add_34 ⟨Nat.le_of_ble_eq_true rfl, Nat.le_of_ble_eq_true rfl⟩) hS (fun q _ h => h.elim) (fun q h => h.elim) (fun q _ h => h.elim) (fun En ce q9 _ t H locs ht hvm hw_8 hB hz hk hS hc1 hc2 hc3 => ?_) (fun _ t H locs ht hvm hw_8 hB hz hk hS => ?_)
          · have hT : TX E G B R H := hT.kept (fun q hq => hk q hq (fun h => h))
            subst hB
            exact vx_out (fun x hx => (hne x hx).elim) hlocks hc1 hc2 hc3 (fun t ht hA => ⟨(), trivial, ⟨(Or.inr (Or.inr (Or.inr (Or.inl ⟨c_1, c_3, c_5, c_7, rfl⟩)))), by show TX E G B R t.heap; rw [ht]; exact hT⟩, hS.F ht⟩) hS.2.2 (Nat.le_of_ble_eq_true rfl) (Nat.le_of_ble_eq_true rfl)
          · exact absurd rfl hw_8
        · have c_7 := bI_n c_7
          refine lv_iconst (v := 1) hx hb dX9_add_29 (by decide) ?_
          refine lv_goto (tgt := 34) hx hb dX9_add_30 (by decide) ?_
          refine vx_callv (rxS (fun _ => True) (As := [.int 1]) (rest := []) ⟨hx, hb, hml, hown, hts⟩ (c_X9_require l hst E z0 1) (cwS 1 hts (gdS ml_X9_53 st_X9_require in_X9 co_X9_require rfl) rfl rfl rfl (by decide +kernel) ⟨Nat.le_of_ble_eq_true rfl, Nat.le_of_ble_eq_true rfl⟩) trivial (fun U hU hW => hK.go hW hS hAz hU) rfl rfl hl.1 rfl (lv_room (Nat.le_of_ble_eq_true rfl)) dX9_add_34 ⟨Nat.le_of_ble_eq_true rfl, Nat.le_of_ble_eq_true rfl⟩) hS (fun q _ h => h.elim) (fun q h => h.elim) (fun q _ h => h.elim) (fun En ce q9 _ t H locs ht hvm hw_9 hB hz hk hS hc1 hc2 hc3 => ?_) (fun _ t H locs ht hvm hw_9 hB hz hk hS => ?_)
          · exact absurd hw_9 (by decide)
          · have hT : TX E G B R H := hT.kept (fun q hq => hk q hq (fun h => h))
            refine lv_aload_n hx hb dX9_add_37 rfl (lv_at hl 0 rfl) ?_
            have ha_10 := tx_1 hT hG
            have hg_11 : G (R h0 1) = 3 := (tw_1 hW hG).2.1
            refine va_get (D := DG E) (ci := 9) (v := .ref (R h0 1)) (C := RX9) (T := TX9) (N := 3) hx hb hts iw_X9 hown hK.1 (va_one ha_10) 0 rfl rfl 1 (by decide) (hts _ fl_X9_29) (fun _ h9 => h9) rfl dX9_add_38 ?_
            refine lv_iload_n hx hb dX9_add_41 rfl (lv_at hl 1 rfl) ?_
            have ha_12 := tx_3 hT hg_11
            have hi_13 : vp_in p0 4 := vp_in_iff.mpr (by omega)
            obtain ⟨n_14, hn_14, en_14⟩ := x_nat (x := p0) (by omega)
            have hg_15 : G (R (R h0 1) n_14) = 8 := (tw_3 hW hg_11) n_14 (by omega)
            refine va_aldq (D := DG E) hx hb hK.1 (va_one ha_12) 0 5 rfl rfl hi_13 dX9_add_42 ?_
            refine W.eq (g2 := F0 m 43 ls [.ref (R (R h0 1) n_14)]) (by rw [en_14]; rfl) ?_
            have ha_16 := tx_8 hT hg_15
            refine va_calli (rnV (fun H => TX E G B R H) (As := []) (rest := []) ⟨hx, hb, hml, hown, hts⟩ (x_X3_takesRequests l E z0 G hGz B R hW (R (R h0 1) n_14) hg_15) (cwV 0 hts (gdV ml_X9_101 im_X3_takesRequests se_X3_X3_takesRequests in_X3 co_X3_takesRequests rfl) rfl rfl rfl (by decide +kernel) ⟨Nat.le_of_ble_eq_true rfl, Nat.le_of_ble_eq_true rfl⟩) hT (fun U hU hW => hK.go hW hS hAz hU) (va_recv hK.1 (va_one ha_16) (ci := 3) (q0 := 0) rfl rfl) rfl rfl hl.1 rfl (lv_room (Nat.le_of_ble_eq_true rfl)) dX9_add_43 ⟨Nat.le_of_ble_eq_true rfl, Nat.le_of_ble_eq_true rfl⟩) hS (fun q _ h => h.elim) (fun q h => h.elim) (fun r_17 _ t H locs ht hvm hwr_17 hB hz hk hS => ?_)
            have hT : TX E G B R H := hT.kept (fun q hq => hk q hq (fun h => h))
            have hbr_17 : r_17 = 0 ∨ r_17 = 1 := hwr_17.1
            have hp0r_17 : r_17.toInt = 0 ∨ (B (R (R (R (R h0 1) n_14) 0) 6) 4).toInt ≤ 3 := hwr_17.2.1
            have hCr_17 : C_X3_takesRequests G B R (R (R h0 1) n_14) r_17 := hwr_17.2.2
            have hzr_17 := s_rng hbr_17
            refine vx_callv (rxS (fun _ => True) (As := [.int r_17]) (rest := []) ⟨hx, hb, hml, hown, hts⟩ (c_X9_requireState l hst E z0 r_17) (cwS 1 hts (gdS ml_X9_88 st_X9_requireState in_X9 co_X9_requireState rfl) rfl rfl rfl (by decide +kernel) ⟨Nat.le_of_ble_eq_true rfl, Nat.le_of_ble_eq_true rfl⟩) trivial (fun U hU hW => hK.go hW hS hAz hU) rfl rfl hl.1 rfl (lv_room (Nat.le_of_ble_eq_true rfl)) dX9_add_46 ⟨Nat.le_of_ble_eq_true rfl, Nat.le_of_ble_eq_true rfl⟩) hS (fun q _ h => h.elim) (fun q h => h.elim) (fun q _ h => h.elim) (fun En ce q9 _ t H locs ht hvm hw_18 hB hz hk hS hc1 hc2 hc3 => ?_) (fun _ t H locs ht hvm hw_18 hB hz hk hS => ?_)
            · have hT : TX E G B R H := hT.kept (fun q hq => hk q hq (fun h => h))
              simp only [lt_I, le_I, eq_I, i_0, i_1, i_2, i_3, i_4, i_5, i_6, i_7, i_8, i_10, i_12, i_16, i_20, i_23, i_24, i_31, i_32, i_63, i_64, i_m1] at hw_18
              subst hB
              exact vx_out (fun x hx => (hne x hx).elim) hlocks hc1 hc2 hc3 (fun t ht hA => ⟨(), trivial, ⟨(Or.inr (Or.inr (Or.inr (Or.inr ⟨c_1, c_3, c_5, c_7, n_14, hn_14, r_17, hCr_17, hw_18, rfl⟩)))), by show TX E G B R t.heap; rw [ht]; exact hT⟩, hS.F ht⟩) hS.2.2 (Nat.le_of_ble_eq_true rfl) (Nat.le_of_ble_eq_true rfl)
            · have hT : TX E G B R H := hT.kept (fun q hq => hk q hq (fun h => h))
              simp only [lt_I, le_I, eq_I, i_0, i_1, i_2, i_3, i_4, i_5, i_6, i_7, i_8, i_10, i_12, i_16, i_20, i_23, i_24, i_31, i_32, i_63, i_64, i_m1] at hw_18
              refine lv_aload_n hx hb dX9_add_49 rfl (lv_at hl 0 rfl) ?_
              have ha_19 := tx_1 hT hG
              refine va_get (D := DG E) (ci := 9) (v := .ref (R h0 1)) (C := RX9) (T := TX9) (N := 3) hx hb hts iw_X9 hown hK.1 (va_one ha_19) 0 rfl rfl 1 (by decide) (hts _ fl_X9_29) (fun _ h9 => h9) rfl dX9_add_50 ?_
              refine lv_iload_n hx hb dX9_add_53 rfl (lv_at hl 1 rfl) ?_
              have ha_20 := tx_3 hT hg_11
              refine va_aldq (D := DG E) hx hb hK.1 (va_one ha_20) 0 5 rfl rfl hi_13 dX9_add_54 ?_
              refine W.eq (g2 := F0 m 55 ls [.ref (R (R h0 1) n_14)]) (by rw [en_14]; rfl) ?_
              have ha_21 := tx_8 hT hg_15
              have hg_22 : G (R (R (R h0 1) n_14) 0) = 9 := (tw_8 hW hg_15).1
              refine va_get (D := DG E) (ci := 3) (v := .ref (R (R (R h0 1) n_14) 0)) (C := RX3) (T := TX3) (N := 3) hx hb hts iw_X3 hown hK.1 (va_one ha_21) 0 rfl rfl 0 (by decide) (hts _ fl_X9_105) (fun _ h9 => h9) rfl dX9_add_55 ?_
              refine lv_iconst (v := 3) hx hb dX9_add_58 (by decide) ?_
              refine lv_iload_n hx hb dX9_add_59 rfl (lv_at hl 2 rfl) ?_
              refine lv_iconst (v := 1) hx hb dX9_add_60 (by decide) ?_
              refine lv_iload_n hx hb dX9_add_61 rfl (lv_at hl 3 rfl) ?_
              refine lv_iload hx hb dX9_add_62 (lv_at hl 4 rfl) ?_
              refine lv_iload hx hb dX9_add_64 (lv_at hl 5 rfl) ?_
              have hg_23 : G (R (R (R (R h0 1) n_14) 0) 6) = 11 := (tw_9 hW hg_22).2.2.2
              have hb_24 := (tw_11 hW_0 hg_23).2.2.2
              have ha_25 := tx_9 hT hg_22
              refine va_calli (rnV (fun H => TX E G B R H) (As := [.int 3, .int p1, .int 1, .int p2, .int p3, .int p4]) (rest := []) ⟨hx, hb, hml, hown, hts⟩ (x_X7_post l E z0 G hGz B R hW (R (R (R h0 1) n_14) 0) (3 : Int32) p1 (1 : Int32) p2 p3 p4 hg_22 (show 0 ≤ (1 : Int32).toInt ∧ (1 : Int32).toInt ≤ 12 from by have := i_3; have := i_1; first | decide | omega) (show (B (R (R (R (R h0 1) n_14) 0) 6) 4).toInt ≤ 3 from by have := i_3; have := i_1; first | decide | omega)) (cwV 6 hts (gdV ml_X9_109 im_X7_post se_X7_X7_post in_X7 co_X7_post rfl) rfl rfl rfl (by decide +kernel) ⟨Nat.le_of_ble_eq_true rfl, Nat.le_of_ble_eq_true rfl⟩) hT (fun U hU hW => hK.go hW hS hAz hU) (va_recv hK.1 (va_one ha_25) (ci := 7) (q0 := 0) rfl rfl) rfl rfl hl.1 rfl (lv_room (Nat.le_of_ble_eq_true rfl)) dX9_add_66 ⟨Nat.le_of_ble_eq_true rfl, Nat.le_of_ble_eq_true rfl⟩) hS (fun q _ h => mL (L' := [9, 11, 13]) (L := [9, 11, 13]) (by decide) h) (fun q h => mL (L' := [9, 11, 13]) (L := [9, 11, 13]) (by decide) h) (fun r_26 U_27 t H locs ht hvm hwr_26 hB hz hk hS => ?_)
              have hT : TX E G U_27 R H := by rw [ht] at hB; exact hB
              have hWr_26 : TW G U_27 R := hwr_26.1
              have hW := hWr_26
              have hFr_26 : Fr G [9, 11, 13] B U_27 := hwr_26.2.1
              have hCr_26 : C_X7_post G B R (R (R (R h0 1) n_14) 0) (3 : Int32) p1 (1 : Int32) p2 p3 p4 U_27 r_26 := hwr_26.2.2
              refine vx_ret ?_
              refine W.widen (k := 2) (n := 12) (Nat.le_of_ble_eq_true rfl) (Nat.le_of_ble_eq_true rfl) ?_
              exact W.iret (v := r_26) hx hb hr (fun t ht hW9 => ⟨⟨r_26, U_27, rfl, ⟨hW, (Fr.c Fr.rf hFr_26 (by decide)), ⟨c_1, c_3, c_5, c_7, n_14, hn_14, r_17, hCr_17, hw_18, r_26, U_27, hFr_26, hCr_26, rfl, rfl⟩⟩, (by show TX E G U_27 R t.heap; rw [ht]; exact hT)⟩, hS.F ht⟩) hS.2.2 dX9_add_69
theorem dX9_receive_0 : decode cX9_receive 0 = .ok (.iload_n 1, 1) := by decide +kernel
theorem dX9_receive_1 : decode cX9_receive 1 = .ok (.invokestatic 78, 3) := by decide +kernel
theorem dX9_receive_4 : decode cX9_receive 4 = .ok (.ifCond .eq 15, 3) := by decide +kernel
theorem dX9_receive_7 : decode cX9_receive 7 = .ok (.iload_n 2, 1) := by decide +kernel
theorem dX9_receive_8 : decode cX9_receive 8 = .ok (.iload_n 3, 1) := by decide +kernel
theorem dX9_receive_9 : decode cX9_receive 9 = .ok (.invokestatic 97, 3) := by decide +kernel
theorem dX9_receive_12 : decode cX9_receive 12 = .ok (.ifCond .eq 7, 3) := by decide +kernel
theorem dX9_receive_15 : decode cX9_receive 15 = .ok (.iconst 1, 1) := by decide +kernel
theorem dX9_receive_16 : decode cX9_receive 16 = .ok (.goto 4, 3) := by decide +kernel
theorem dX9_receive_19 : decode cX9_receive 19 = .ok (.iconst 0, 1) := by decide +kernel
theorem dX9_receive_20 : decode cX9_receive 20 = .ok (.invokestatic 53, 3) := by decide +kernel
theorem dX9_receive_23 : decode cX9_receive 23 = .ok (.aload_n 0, 1) := by decide +kernel
theorem dX9_receive_24 : decode cX9_receive 24 = .ok (.getfield 29, 3) := by decide +kernel
theorem dX9_receive_27 : decode cX9_receive 27 = .ok (.iload_n 1, 1) := by decide +kernel
theorem dX9_receive_28 : decode cX9_receive 28 = .ok (.aaload, 1) := by decide +kernel
theorem dX9_receive_29 : decode cX9_receive 29 = .ok (.invokevirtual 113, 3) := by decide +kernel
theorem dX9_receive_32 : decode cX9_receive 32 = .ok (.invokestatic 88, 3) := by decide +kernel
theorem dX9_receive_35 : decode cX9_receive 35 = .ok (.aload_n 0, 1) := by decide +kernel
theorem dX9_receive_36 : decode cX9_receive 36 = .ok (.getfield 29, 3) := by decide +kernel
theorem dX9_receive_39 : decode cX9_receive 39 = .ok (.iload_n 1, 1) := by decide +kernel
theorem dX9_receive_40 : decode cX9_receive 40 = .ok (.aaload, 1) := by decide +kernel
theorem dX9_receive_41 : decode cX9_receive 41 = .ok (.getfield 116, 3) := by decide +kernel
theorem dX9_receive_44 : decode cX9_receive 44 = .ok (.getfield 120, 3) := by decide +kernel
theorem dX9_receive_47 : decode cX9_receive 47 = .ok (.iconst 4, 1) := by decide +kernel
theorem dX9_receive_48 : decode cX9_receive 48 = .ok (.iload_n 2, 1) := by decide +kernel
theorem dX9_receive_49 : decode cX9_receive 49 = .ok (.iload_n 3, 1) := by decide +kernel
theorem dX9_receive_50 : decode cX9_receive 50 = .ok (.invokevirtual 124, 3) := by decide +kernel
theorem dX9_receive_53 : decode cX9_receive 53 = .ok (.getfield 130, 3) := by decide +kernel
theorem dX9_receive_56 : decode cX9_receive 56 = .ok (.ireturn, 1) := by decide +kernel
set_option maxHeartbeats 8000000 in
set_option maxRecDepth 100000 in
theorem x_X9_receive (l : Launch) (hst : l.stackTraces = false) (E : EE) (z0 : Nat) (G : Nat → Nat) (hGz : ∀ q, G q ≠ 0 → z0 ≤ q) (B : AA) (R : RR) (hW : TW G B R) (h0 : Nat) (p0 : Int32) (p1 : Int32) (p2 : Int32) (hG : G h0 = 1) : vx_Met l yX9_receive [Cond.code yX9_receive cX9_receive 4 (some .int)] ({ frames := 7, cells := 2, slots := 12, locals := 101 } : Room) (va_Pc [.ref h0, .int p0, .int p1, .int p2] (fun U => TX E G B R U.heap ∧ KS E z0 U)) (va_Qi (fun (r : Int32) (u : AA) => (TW G u R) ∧ (Fr G ([11, 13] : List Nat) B u) ∧ (C_X9_receive G B R h0 p0 p1 p2 u r)) (fun u t => TX E G u R t.heap) (fun q : Nat => G q ∈ ([11, 13] : List Nat))) (vx_X (fun (_ : Unit) => True) (fun En _ t => (X_X9_receive G B R h0 p0 p1 p2 En) ∧ TX E G B R t.heap) (fun q : Nat => G q ∈ ([11, 13] : List Nat))) 2 12 (fun q : Nat => G q ∈ ([11, 13] : List Nat)) := by
  refine vx_ofW (cc := cX9_receive) (maxL := 4) (ret := (some .int)) (by decide) rfl ?_
  intro p e s m args below meth c s₁ B9 hml hne hv
  obtain ⟨rfl, hT, hK⟩ := hv
  have hx := B9.exec
  have hb := B9.bytes
  have hr := B9.returns
  have hts : ∀ w ∈ TS, w.before ([.ref h0, .int p0, .int p1, .int p2] : List Value).toArray s = true := fun w hw => hK.2.1 w hw _
  have hown : s.vm.findClass RX9 = some m.cls := findClass_of_methodNamed B9.named
  have hlocks := B9.notSynchronized
  have hS : va_S (fun q : Nat => G q ∈ ([11, 13] : List Nat)) s.heap s.heap [] := va_S.rf
  have hAz : ∀ q, (fun q : Nat => G q ∈ ([11, 13] : List Nat)) q → z0 ≤ q := zL hGz (by decide)
  have hW_0 := hW
  have hl := lv_entry ([.ref h0, .int p0, .int p1, .int p2]) (n := 4) (Nat.le_of_ble_eq_true rfl)
  rw [lg_entry_eq]
  generalize (lg_sl ([.ref h0, .int p0, .int p1, .int p2]) ++ List.replicate (4 - (lg_sl ([.ref h0, .int p0, .int p1, .int p2])).length) Slot.unset).toArray = ls at hl ⊢
  have hl : lv_has ls 4 [(0, .ref h0), (1, .int p0), (2, .int p1), (3, .int p2)] := hl
  refine lv_iload_n hx hb dX9_receive_0 rfl (lv_at hl 1 rfl) ?_
  refine W.callR (W.runS (As := [.int p0]) (rest := []) ⟨hx, hb, hml, hown, hts⟩ (c_X9_isPair l p0) (cwS 1 hts (gdS ml_X9_78 st_X9_isPair in_X9 co_X9_isPair rfl) rfl rfl rfl (by decide +kernel) ⟨Nat.le_of_ble_eq_true rfl, Nat.le_of_ble_eq_true rfl⟩) preEq rfl rfl hl.1 rfl (lv_room (Nat.le_of_ble_eq_true rfl)) dX9_receive_1 ⟨Nat.le_of_ble_eq_true rfl, Nat.le_of_ble_eq_true rfl⟩) ?_
  refine W.eq (g2 := F0 m 4 ls [.int (bI (0 ≤ p0.toInt ∧ p0.toInt < 4))]) (by rfl) ?_
  refine lv_if_eq (tgt := 19) hx hb dX9_receive_4 (by decide) (fun c_1 => ?_) (fun c_1 => ?_)
  · have c_1 := bI_0 c_1
    refine lv_iconst (v := 0) hx hb dX9_receive_19 (by decide) ?_
    refine vx_callv (rxS (fun _ => True) (As := [.int 0]) (rest := []) ⟨hx, hb, hml, hown, hts⟩ (c_X9_require l hst E z0 0) (cwS 1 hts (gdS ml_X9_53 st_X9_require in_X9 co_X9_require rfl) rfl rfl rfl (by decide +kernel) ⟨Nat.le_of_ble_eq_true rfl, Nat.le_of_ble_eq_true rfl⟩) trivial (fun U hU hW => hK.go hW hS hAz hU) rfl rfl hl.1 rfl (lv_room (Nat.le_of_ble_eq_true rfl)) dX9_receive_20 ⟨Nat.le_of_ble_eq_true rfl, Nat.le_of_ble_eq_true rfl⟩) hS (fun q _ h => h.elim) (fun q h => h.elim) (fun q _ h => h.elim) (fun En ce q9 _ t H locs ht hvm hw_2 hB hz hk hS hc1 hc2 hc3 => ?_) (fun _ t H locs ht hvm hw_2 hB hz hk hS => ?_)
    · have hT : TX E G B R H := hT.kept (fun q hq => hk q hq (fun h => h))
      subst hB
      exact vx_out (fun x hx => (hne x hx).elim) hlocks hc1 hc2 hc3 (fun t ht hA => ⟨(), trivial, ⟨(Or.inl ⟨c_1, rfl⟩), by show TX E G B R t.heap; rw [ht]; exact hT⟩, hS.F ht⟩) hS.2.2 (Nat.le_of_ble_eq_true rfl) (Nat.le_of_ble_eq_true rfl)
    · exact absurd rfl hw_2
  · have c_1 := bI_n c_1
    refine lv_iload_n hx hb dX9_receive_7 rfl (lv_at hl 2 rfl) ?_
    refine lv_iload_n hx hb dX9_receive_8 rfl (lv_at hl 3 rfl) ?_
    refine W.callR (W.runS (As := [.int p1, .int p2]) (rest := []) ⟨hx, hb, hml, hown, hts⟩ (c_X9_areCells l p1 p2) (cwS 2 hts (gdS ml_X9_97 st_X9_areCells in_X9 co_X9_areCells rfl) rfl rfl rfl (by decide +kernel) ⟨Nat.le_of_ble_eq_true rfl, Nat.le_of_ble_eq_true rfl⟩) preEq rfl rfl hl.1 rfl (lv_room (Nat.le_of_ble_eq_true rfl)) dX9_receive_9 ⟨Nat.le_of_ble_eq_true rfl, Nat.le_of_ble_eq_true rfl⟩) ?_
    refine W.eq (g2 := F0 m 12 ls [.int (bI (1 ≤ p2.toInt ∧ p2.toInt ≤ 12 ∧ 0 ≤ p1.toInt ∧ p1.toInt ≤ 32 - p2.toInt))]) (by rfl) ?_
    refine lv_if_eq (tgt := 19) hx hb dX9_receive_12 (by decide) (fun c_3 => ?_) (fun c_3 => ?_)
    · have c_3 := bI_0 c_3
      refine lv_iconst (v := 0) hx hb dX9_receive_19 (by decide) ?_
      refine vx_callv (rxS (fun _ => True) (As := [.int 0]) (rest := []) ⟨hx, hb, hml, hown, hts⟩ (c_X9_require l hst E z0 0) (cwS 1 hts (gdS ml_X9_53 st_X9_require in_X9 co_X9_require rfl) rfl rfl rfl (by decide +kernel) ⟨Nat.le_of_ble_eq_true rfl, Nat.le_of_ble_eq_true rfl⟩) trivial (fun U hU hW => hK.go hW hS hAz hU) rfl rfl hl.1 rfl (lv_room (Nat.le_of_ble_eq_true rfl)) dX9_receive_20 ⟨Nat.le_of_ble_eq_true rfl, Nat.le_of_ble_eq_true rfl⟩) hS (fun q _ h => h.elim) (fun q h => h.elim) (fun q _ h => h.elim) (fun En ce q9 _ t H locs ht hvm hw_4 hB hz hk hS hc1 hc2 hc3 => ?_) (fun _ t H locs ht hvm hw_4 hB hz hk hS => ?_)
      · have hT : TX E G B R H := hT.kept (fun q hq => hk q hq (fun h => h))
        subst hB
        exact vx_out (fun x hx => (hne x hx).elim) hlocks hc1 hc2 hc3 (fun t ht hA => ⟨(), trivial, ⟨(Or.inr (Or.inl ⟨c_1, c_3, rfl⟩)), by show TX E G B R t.heap; rw [ht]; exact hT⟩, hS.F ht⟩) hS.2.2 (Nat.le_of_ble_eq_true rfl) (Nat.le_of_ble_eq_true rfl)
      · exact absurd rfl hw_4
    · have c_3 := bI_n c_3
      refine lv_iconst (v := 1) hx hb dX9_receive_15 (by decide) ?_
      refine lv_goto (tgt := 20) hx hb dX9_receive_16 (by decide) ?_
      refine vx_callv (rxS (fun _ => True) (As := [.int 1]) (rest := []) ⟨hx, hb, hml, hown, hts⟩ (c_X9_require l hst E z0 1) (cwS 1 hts (gdS ml_X9_53 st_X9_require in_X9 co_X9_require rfl) rfl rfl rfl (by decide +kernel) ⟨Nat.le_of_ble_eq_true rfl, Nat.le_of_ble_eq_true rfl⟩) trivial (fun U hU hW => hK.go hW hS hAz hU) rfl rfl hl.1 rfl (lv_room (Nat.le_of_ble_eq_true rfl)) dX9_receive_20 ⟨Nat.le_of_ble_eq_true rfl, Nat.le_of_ble_eq_true rfl⟩) hS (fun q _ h => h.elim) (fun q h => h.elim) (fun q _ h => h.elim) (fun En ce q9 _ t H locs ht hvm hw_5 hB hz hk hS hc1 hc2 hc3 => ?_) (fun _ t H locs ht hvm hw_5 hB hz hk hS => ?_)
      · exact absurd hw_5 (by decide)
      · have hT : TX E G B R H := hT.kept (fun q hq => hk q hq (fun h => h))
        refine lv_aload_n hx hb dX9_receive_23 rfl (lv_at hl 0 rfl) ?_
        have ha_6 := tx_1 hT hG
        have hg_7 : G (R h0 1) = 3 := (tw_1 hW hG).2.1
        refine va_get (D := DG E) (ci := 9) (v := .ref (R h0 1)) (C := RX9) (T := TX9) (N := 3) hx hb hts iw_X9 hown hK.1 (va_one ha_6) 0 rfl rfl 1 (by decide) (hts _ fl_X9_29) (fun _ h9 => h9) rfl dX9_receive_24 ?_
        refine lv_iload_n hx hb dX9_receive_27 rfl (lv_at hl 1 rfl) ?_
        have ha_8 := tx_3 hT hg_7
        have hi_9 : vp_in p0 4 := vp_in_iff.mpr (by omega)
        obtain ⟨n_10, hn_10, en_10⟩ := x_nat (x := p0) (by omega)
        have hg_11 : G (R (R h0 1) n_10) = 8 := (tw_3 hW hg_7) n_10 (by omega)
        refine va_aldq (D := DG E) hx hb hK.1 (va_one ha_8) 0 5 rfl rfl hi_9 dX9_receive_28 ?_
        refine W.eq (g2 := F0 m 29 ls [.ref (R (R h0 1) n_10)]) (by rw [en_10]; rfl) ?_
        have ha_12 := tx_8 hT hg_11
        refine va_calli (rnV (fun H => TX E G B R H) (As := []) (rest := []) ⟨hx, hb, hml, hown, hts⟩ (x_X3_takesReceives l E z0 G hGz B R hW (R (R h0 1) n_10) hg_11) (cwV 0 hts (gdV ml_X9_113 im_X3_takesReceives se_X3_X3_takesReceives in_X3 co_X3_takesReceives rfl) rfl rfl rfl (by decide +kernel) ⟨Nat.le_of_ble_eq_true rfl, Nat.le_of_ble_eq_true rfl⟩) hT (fun U hU hW => hK.go hW hS hAz hU) (va_recv hK.1 (va_one ha_12) (ci := 3) (q0 := 0) rfl rfl) rfl rfl hl.1 rfl (lv_room (Nat.le_of_ble_eq_true rfl)) dX9_receive_29 ⟨Nat.le_of_ble_eq_true rfl, Nat.le_of_ble_eq_true rfl⟩) hS (fun q _ h => h.elim) (fun q h => h.elim) (fun r_13 _ t H locs ht hvm hwr_13 hB hz hk hS => ?_)
        have hT : TX E G B R H := hT.kept (fun q hq => hk q hq (fun h => h))
        have hbr_13 : r_13 = 0 ∨ r_13 = 1 := hwr_13.1
        have hp0r_13 : r_13.toInt = 0 ∨ (B (R (R (R (R h0 1) n_10) 1) 3) 4).toInt ≤ 3 := hwr_13.2.1
        have hCr_13 : C_X3_takesReceives G B R (R (R h0 1) n_10) r_13 := hwr_13.2.2
        have hzr_13 := s_rng hbr_13
        refine vx_callv (rxS (fun _ => True) (As := [.int r_13]) (rest := []) ⟨hx, hb, hml, hown, hts⟩ (c_X9_requireState l hst E z0 r_13) (cwS 1 hts (gdS ml_X9_88 st_X9_requireState in_X9 co_X9_requireState rfl) rfl rfl rfl (by decide +kernel) ⟨Nat.le_of_ble_eq_true rfl, Nat.le_of_ble_eq_true rfl⟩) trivial (fun U hU hW => hK.go hW hS hAz hU) rfl rfl hl.1 rfl (lv_room (Nat.le_of_ble_eq_true rfl)) dX9_receive_32 ⟨Nat.le_of_ble_eq_true rfl, Nat.le_of_ble_eq_true rfl⟩) hS (fun q _ h => h.elim) (fun q h => h.elim) (fun q _ h => h.elim) (fun En ce q9 _ t H locs ht hvm hw_14 hB hz hk hS hc1 hc2 hc3 => ?_) (fun _ t H locs ht hvm hw_14 hB hz hk hS => ?_)
        · have hT : TX E G B R H := hT.kept (fun q hq => hk q hq (fun h => h))
          simp only [lt_I, le_I, eq_I, i_0, i_1, i_2, i_3, i_4, i_5, i_6, i_7, i_8, i_10, i_12, i_16, i_20, i_23, i_24, i_31, i_32, i_63, i_64, i_m1] at hw_14
          subst hB
          exact vx_out (fun x hx => (hne x hx).elim) hlocks hc1 hc2 hc3 (fun t ht hA => ⟨(), trivial, ⟨(Or.inr (Or.inr ⟨c_1, c_3, n_10, hn_10, r_13, hCr_13, hw_14, rfl⟩)), by show TX E G B R t.heap; rw [ht]; exact hT⟩, hS.F ht⟩) hS.2.2 (Nat.le_of_ble_eq_true rfl) (Nat.le_of_ble_eq_true rfl)
        · have hT : TX E G B R H := hT.kept (fun q hq => hk q hq (fun h => h))
          simp only [lt_I, le_I, eq_I, i_0, i_1, i_2, i_3, i_4, i_5, i_6, i_7, i_8, i_10, i_12, i_16, i_20, i_23, i_24, i_31, i_32, i_63, i_64, i_m1] at hw_14
          refine lv_aload_n hx hb dX9_receive_35 rfl (lv_at hl 0 rfl) ?_
          have ha_15 := tx_1 hT hG
          refine va_get (D := DG E) (ci := 9) (v := .ref (R h0 1)) (C := RX9) (T := TX9) (N := 3) hx hb hts iw_X9 hown hK.1 (va_one ha_15) 0 rfl rfl 1 (by decide) (hts _ fl_X9_29) (fun _ h9 => h9) rfl dX9_receive_36 ?_
          refine lv_iload_n hx hb dX9_receive_39 rfl (lv_at hl 1 rfl) ?_
          have ha_16 := tx_3 hT hg_7
          refine va_aldq (D := DG E) hx hb hK.1 (va_one ha_16) 0 5 rfl rfl hi_9 dX9_receive_40 ?_
          refine W.eq (g2 := F0 m 41 ls [.ref (R (R h0 1) n_10)]) (by rw [en_10]; rfl) ?_
          have ha_17 := tx_8 hT hg_11
          have hg_18 : G (R (R (R h0 1) n_10) 1) = 10 := (tw_8 hW hg_11).2
          refine va_get (D := DG E) (ci := 3) (v := .ref (R (R (R h0 1) n_10) 1)) (C := RX3) (T := TX3) (N := 3) hx hb hts iw_X3 hown hK.1 (va_one ha_17) 0 rfl rfl 1 (by decide) (hts _ fl_X9_116) (fun _ h9 => h9) rfl dX9_receive_41 ?_
          have ha_19 := tx_10 hT hg_18
          have hg_20 : G (R (R (R (R h0 1) n_10) 1) 3) = 11 := (tw_10 hW hg_18).2.2.2.1
          refine va_get (D := DG E) (ci := 8) (v := .ref (R (R (R (R h0 1) n_10) 1) 3)) (C := RX8) (T := TX8) (N := 9) hx hb hts iw_X8 hown hK.1 (va_one ha_19) 0 rfl rfl 3 (by decide) (hts _ fl_X9_120) (fun _ h9 => h9) rfl dX9_receive_44 ?_
          refine lv_iconst (v := 4) hx hb dX9_receive_47 (by decide) ?_
          refine lv_iload_n hx hb dX9_receive_48 rfl (lv_at hl 2 rfl) ?_
          refine lv_iload_n hx hb dX9_receive_49 rfl (lv_at hl 3 rfl) ?_
          have hb_21 := (tw_11 hW_0 hg_20).2.2.2
          have ha_22 := tx_11 hT hg_20
          refine va_callr (rnV (fun H => TX E G B R H) (As := [.int 4, .int p1, .int p2]) (rest := []) ⟨hx, hb, hml, hown, hts⟩ (x_X5_append l E z0 G hGz B R hW (R (R (R (R h0 1) n_10) 1) 3) (4 : Int32) p1 p2 hg_20 (show 0 ≤ p2.toInt ∧ p2.toInt ≤ 12 from by have := i_4; first | decide | omega) (show (B (R (R (R (R h0 1) n_10) 1) 3) 4).toInt ≤ 3 from by have := i_4; first | decide | omega)) (cwV 3 hts (gdV ml_X9_124 im_X5_append se_X5_X5_append in_X5 co_X5_append rfl) rfl rfl rfl (by decide +kernel) ⟨Nat.le_of_ble_eq_true rfl, Nat.le_of_ble_eq_true rfl⟩) hT (fun U hU hW => hK.go hW hS hAz hU) (va_recv hK.1 (va_one ha_22) (ci := 5) (q0 := 0) rfl rfl) rfl rfl hl.1 rfl (lv_room (Nat.le_of_ble_eq_true rfl)) dX9_receive_50 ⟨Nat.le_of_ble_eq_true rfl, Nat.le_of_ble_eq_true rfl⟩) hS (fun q _ h => mL (L' := [11, 13]) (L := [11, 13]) (by decide) h) (fun q h => mL (L' := [11, 13]) (L := [11, 13]) (by decide) h) (fun U_24 r_23 t H locs ht hvm hwr_23 hB hz hk hS => ?_)
          have hRr_23 := hB.1
          have hB := hB.2
          have hT : TX E G U_24 R H := by rw [ht] at hB; exact hB
          have hgr_23 : G r_23 = 13 := hRr_23.1
          have hWr_23 : TW G U_24 R := hRr_23.2.1
          have hW := hWr_23
          have hFr_23 : Fr G [11, 13] B U_24 := hRr_23.2.2.1
          have hCr_23 : C_X5_append G B R (R (R (R (R h0 1) n_10) 1) 3) (4 : Int32) p1 p2 U_24 r_23 := hRr_23.2.2.2
          have ha_25 := tx_13 hT hgr_23
          refine va_get (D := DG E) (ci := 4) (v := .int (U_24 r_23 1)) (C := RX4) (T := TX4) (N := 10) hx hb hts iw_X4 hown hK.1 (va_one ha_25) 0 rfl rfl 1 (by decide) (hts _ fl_X9_130) (fun _ h9 => h9) rfl dX9_receive_53 ?_
          refine vx_ret ?_
          refine W.widen (k := 2) (n := 12) (Nat.le_of_ble_eq_true rfl) (Nat.le_of_ble_eq_true rfl) ?_
          exact W.iret (v := (U_24 r_23 1)) hx hb hr (fun t ht hW9 => ⟨⟨(U_24 r_23 1), U_24, rfl, ⟨hW, (Fr.c Fr.rf hFr_23 (by decide)), ⟨c_1, c_3, n_10, hn_10, r_13, hCr_13, hw_14, r_23, U_24, hFr_23, hCr_23, rfl, rfl⟩⟩, (by show TX E G U_24 R t.heap; rw [ht]; exact hT)⟩, hS.F ht⟩) hS.2.2 dX9_receive_56
theorem dX9_push_0 : decode cX9_push 0 = .ok (.iload_n 1, 1) := by decide +kernel
theorem dX9_push_1 : decode cX9_push 1 = .ok (.invokestatic 78, 3) := by decide +kernel
theorem dX9_push_4 : decode cX9_push 4 = .ok (.ifCond .eq 31, 3) := by decide +kernel
theorem dX9_push_7 : decode cX9_push 7 = .ok (.aload_n 0, 1) := by decide +kernel
theorem dX9_push_8 : decode cX9_push 8 = .ok (.getfield 29, 3) := by decide +kernel
theorem dX9_push_11 : decode cX9_push 11 = .ok (.iload_n 1, 1) := by decide +kernel
theorem dX9_push_12 : decode cX9_push 12 = .ok (.aaload, 1) := by decide +kernel
theorem dX9_push_13 : decode cX9_push 13 = .ok (.getfield 84, 3) := by decide +kernel
theorem dX9_push_16 : decode cX9_push 16 = .ok (.iconst 1, 1) := by decide +kernel
theorem dX9_push_17 : decode cX9_push 17 = .ok (.if_icmp .ne 18, 3) := by decide +kernel
theorem dX9_push_20 : decode cX9_push 20 = .ok (.aload_n 0, 1) := by decide +kernel
theorem dX9_push_21 : decode cX9_push 21 = .ok (.getfield 29, 3) := by decide +kernel
theorem dX9_push_24 : decode cX9_push 24 = .ok (.iload_n 1, 1) := by decide +kernel
theorem dX9_push_25 : decode cX9_push 25 = .ok (.aaload, 1) := by decide +kernel
theorem dX9_push_26 : decode cX9_push 26 = .ok (.getfield 105, 3) := by decide +kernel
theorem dX9_push_29 : decode cX9_push 29 = .ok (.invokevirtual 135, 3) := by decide +kernel
theorem dX9_push_32 : decode cX9_push 32 = .ok (.goto 4, 3) := by decide +kernel
theorem dX9_push_35 : decode cX9_push 35 = .ok (.iconst (-1), 1) := by decide +kernel
theorem dX9_push_36 : decode cX9_push 36 = .ok (.ireturn, 1) := by decide +kernel
set_option maxHeartbeats 8000000 in
set_option maxRecDepth 100000 in
theorem x_X9_push (l : Launch) (E : EE) (z0 : Nat) (G : Nat → Nat) (hGz : ∀ q, G q ≠ 0 → z0 ≤ q) (B : AA) (R : RR) (hW : TW G B R) (h0 : Nat) (p0 : Int32) (hG : G h0 = 1) : Met l yX9_push [Cond.code yX9_push cX9_push 2 (some .int)] ({ frames := 5, cells := 0, slots := 0, locals := 114 } : Room) (va_Pc [.ref h0, .int p0] (fun U => TX E G B R U.heap ∧ KS E z0 U)) (va_Qi (fun (r : Int32) (u : AA) => (TW G u R) ∧ (Fr G ([9, 4, 31, 32] : List Nat) B u) ∧ (C_X9_push G B R h0 p0 u r)) (fun u t => TX E G u R t.heap) (fun q : Nat => G q ∈ ([9, 4, 31, 32] : List Nat))) 0 0 (fun q : Nat => G q ∈ ([9, 4, 31, 32] : List Nat)) := by
  refine Met.ofW (cc := cX9_push) (maxL := 2) (ret := (some .int)) (by decide) rfl ?_
  intro p e s m args below meth c s₁ B9 hml hv
  obtain ⟨rfl, hT, hK⟩ := hv
  have hx := B9.exec
  have hb := B9.bytes
  have hr := B9.returns
  have hts : ∀ w ∈ TS, w.before ([.ref h0, .int p0] : List Value).toArray s = true := fun w hw => hK.2.1 w hw _
  have hown : s.vm.findClass RX9 = some m.cls := findClass_of_methodNamed B9.named
  have hlocks := B9.notSynchronized
  have hS : va_S (fun q : Nat => G q ∈ ([9, 4, 31, 32] : List Nat)) s.heap s.heap [] := va_S.rf
  have hAz : ∀ q, (fun q : Nat => G q ∈ ([9, 4, 31, 32] : List Nat)) q → z0 ≤ q := zL hGz (by decide)
  have hW_0 := hW
  have hl := lv_entry ([.ref h0, .int p0]) (n := 2) (Nat.le_of_ble_eq_true rfl)
  rw [lg_entry_eq]
  generalize (lg_sl ([.ref h0, .int p0]) ++ List.replicate (2 - (lg_sl ([.ref h0, .int p0])).length) Slot.unset).toArray = ls at hl ⊢
  have hl : lv_has ls 2 [(0, .ref h0), (1, .int p0)] := hl
  refine lv_iload_n hx hb dX9_push_0 rfl (lv_at hl 1 rfl) ?_
  refine W.callR (W.runS (As := [.int p0]) (rest := []) ⟨hx, hb, hml, hown, hts⟩ (c_X9_isPair l p0) (cwS 1 hts (gdS ml_X9_78 st_X9_isPair in_X9 co_X9_isPair rfl) rfl rfl rfl (by decide +kernel) ⟨Nat.le_of_ble_eq_true rfl, Nat.le_of_ble_eq_true rfl⟩) preEq rfl rfl hl.1 rfl (lv_room (Nat.le_of_ble_eq_true rfl)) dX9_push_1 ⟨Nat.le_of_ble_eq_true rfl, Nat.le_of_ble_eq_true rfl⟩) ?_
  refine W.eq (g2 := F0 m 4 ls [.int (bI (0 ≤ p0.toInt ∧ p0.toInt < 4))]) (by rfl) ?_
  refine lv_if_eq (tgt := 35) hx hb dX9_push_4 (by decide) (fun c_1 => ?_) (fun c_1 => ?_)
  · have c_1 := bI_0 c_1
    refine lv_iconst (v := (-1)) hx hb dX9_push_35 (by decide) ?_
    exact W.iret (v := (-1)) hx hb hr (fun t ht hW9 => ⟨⟨(-1), B, rfl, ⟨hW, Fr.rf, (Or.inl ⟨c_1, rfl, rfl⟩)⟩, (by show TX E G B R t.heap; rw [ht]; exact hT)⟩, hS.F ht⟩) hS.2.2 dX9_push_36
  · have c_1 := bI_n c_1
    refine lv_aload_n hx hb dX9_push_7 rfl (lv_at hl 0 rfl) ?_
    have ha_2 := tx_1 hT hG
    have hg_3 : G (R h0 1) = 3 := (tw_1 hW hG).2.1
    refine va_get (D := DG E) (ci := 9) (v := .ref (R h0 1)) (C := RX9) (T := TX9) (N := 3) hx hb hts iw_X9 hown hK.1 (va_one ha_2) 0 rfl rfl 1 (by decide) (hts _ fl_X9_29) (fun _ h9 => h9) rfl dX9_push_8 ?_
    refine lv_iload_n hx hb dX9_push_11 rfl (lv_at hl 1 rfl) ?_
    have ha_4 := tx_3 hT hg_3
    have hi_5 : vp_in p0 4 := vp_in_iff.mpr (by omega)
    obtain ⟨n_6, hn_6, en_6⟩ := x_nat (x := p0) (by omega)
    have hg_7 : G (R (R h0 1) n_6) = 8 := (tw_3 hW hg_3) n_6 (by omega)
    refine va_aldq (D := DG E) hx hb hK.1 (va_one ha_4) 0 5 rfl rfl hi_5 dX9_push_12 ?_
    refine W.eq (g2 := F0 m 13 ls [.ref (R (R h0 1) n_6)]) (by rw [en_6]; rfl) ?_
    have ha_8 := tx_8 hT hg_7
    refine va_get (D := DG E) (ci := 3) (v := .int (B (R (R h0 1) n_6) 2)) (C := RX3) (T := TX3) (N := 3) hx hb hts iw_X3 hown hK.1 (va_one ha_8) 0 rfl rfl 2 (by decide) (hts _ fl_X9_84) (fun _ h9 => h9) rfl dX9_push_13 ?_
    refine lv_iconst (v := 1) hx hb dX9_push_16 (by decide) ?_
    refine lv_icmp_ne (tgt := 35) hx hb dX9_push_17 (by decide) (fun c_9 => ?_) (fun c_9 => ?_)
    · simp only [lt_I, le_I, eq_I, i_0, i_1, i_2, i_3, i_4, i_5, i_6, i_7, i_8, i_10, i_12, i_16, i_20, i_23, i_24, i_31, i_32, i_63, i_64, i_m1] at c_9
      refine lv_iconst (v := (-1)) hx hb dX9_push_35 (by decide) ?_
      exact W.iret (v := (-1)) hx hb hr (fun t ht hW9 => ⟨⟨(-1), B, rfl, ⟨hW, Fr.rf, (Or.inr (Or.inl ⟨c_1, n_6, hn_6, c_9, rfl, rfl⟩))⟩, (by show TX E G B R t.heap; rw [ht]; exact hT)⟩, hS.F ht⟩) hS.2.2 dX9_push_36
    · simp only [lt_I, le_I, eq_I, i_0, i_1, i_2, i_3, i_4, i_5, i_6, i_7, i_8, i_10, i_12, i_16, i_20, i_23, i_24, i_31, i_32, i_63, i_64, i_m1] at c_9
      refine lv_aload_n hx hb dX9_push_20 rfl (lv_at hl 0 rfl) ?_
      refine va_get (D := DG E) (ci := 9) (v := .ref (R h0 1)) (C := RX9) (T := TX9) (N := 3) hx hb hts iw_X9 hown hK.1 (va_one ha_2) 0 rfl rfl 1 (by decide) (hts _ fl_X9_29) (fun _ h9 => h9) rfl dX9_push_21 ?_
      refine lv_iload_n hx hb dX9_push_24 rfl (lv_at hl 1 rfl) ?_
      refine va_aldq (D := DG E) hx hb hK.1 (va_one ha_4) 0 5 rfl rfl hi_5 dX9_push_25 ?_
      refine W.eq (g2 := F0 m 26 ls [.ref (R (R h0 1) n_6)]) (by rw [en_6]; rfl) ?_
      have hg_10 : G (R (R (R h0 1) n_6) 0) = 9 := (tw_8 hW hg_7).1
      refine va_get (D := DG E) (ci := 3) (v := .ref (R (R (R h0 1) n_6) 0)) (C := RX3) (T := TX3) (N := 3) hx hb hts iw_X3 hown hK.1 (va_one ha_8) 0 rfl rfl 0 (by decide) (hts _ fl_X9_105) (fun _ h9 => h9) rfl dX9_push_26 ?_
      have ha_11 := tx_9 hT hg_10
      refine va_calli (rnV (fun H => TX E G B R H) (As := []) (rest := []) ⟨hx, hb, hml, hown, hts⟩ (x_X7_sendNext l E z0 G hGz B R hW (R (R (R h0 1) n_6) 0) hg_10) (cwV 0 hts (gdV ml_X9_135 im_X7_sendNext se_X7_X7_sendNext in_X7 co_X7_sendNext rfl) rfl rfl rfl (by decide +kernel) ⟨Nat.le_of_ble_eq_true rfl, Nat.le_of_ble_eq_true rfl⟩) hT (fun U hU hW => hK.go hW hS hAz hU) (va_recv hK.1 (va_one ha_11) (ci := 7) (q0 := 0) rfl rfl) rfl rfl hl.1 rfl (lv_room (Nat.le_of_ble_eq_true rfl)) dX9_push_29 ⟨Nat.le_of_ble_eq_true rfl, Nat.le_of_ble_eq_true rfl⟩) hS (fun q _ h => mL (L' := [9, 4, 31, 32]) (L := [9, 4, 31, 32]) (by decide) h) (fun q h => mL (L' := [9, 4, 31, 32]) (L := [9, 4, 31, 32]) (by decide) h) (fun r_12 U_13 t H locs ht hvm hwr_12 hB hz hk hS => ?_)
      have hT : TX E G U_13 R H := by rw [ht] at hB; exact hB
      have hWr_12 : TW G U_13 R := hwr_12.1
      have hW := hWr_12
      have hFr_12 : Fr G [9, 4, 31, 32] B U_13 := hwr_12.2.1
      have hCr_12 : C_X7_sendNext G B R (R (R (R h0 1) n_6) 0) U_13 r_12 := hwr_12.2.2
      refine lv_goto (tgt := 36) hx hb dX9_push_32 (by decide) ?_
      exact W.iret (v := r_12) hx hb hr (fun t ht hW9 => ⟨⟨r_12, U_13, rfl, ⟨hW, (Fr.c Fr.rf hFr_12 (by decide)), (Or.inr (Or.inr ⟨c_1, n_6, hn_6, c_9, r_12, U_13, hFr_12, hCr_12, rfl, rfl⟩))⟩, (by show TX E G U_13 R t.heap; rw [ht]; exact hT)⟩, hS.F ht⟩) hS.2.2 dX9_push_36
theorem dX9_deliver_0 : decode cX9_deliver 0 = .ok (.aload_n 0, 1) := by decide +kernel
theorem dX9_deliver_1 : decode cX9_deliver 1 = .ok (.getfield 16, 3) := by decide +kernel
theorem dX9_deliver_4 : decode cX9_deliver 4 = .ok (.iload_n 1, 1) := by decide +kernel
theorem dX9_deliver_5 : decode cX9_deliver 5 = .ok (.invokevirtual 139, 3) := by decide +kernel
theorem dX9_deliver_8 : decode cX9_deliver 8 = .ok (.ifCond .ne 5, 3) := by decide +kernel
theorem dX9_deliver_11 : decode cX9_deliver 11 = .ok (.iconst 0, 1) := by decide +kernel
theorem dX9_deliver_12 : decode cX9_deliver 12 = .ok (.ireturn, 1) := by decide +kernel
theorem dX9_deliver_13 : decode cX9_deliver 13 = .ok (.aload_n 0, 1) := by decide +kernel
theorem dX9_deliver_14 : decode cX9_deliver 14 = .ok (.getfield 16, 3) := by decide +kernel
theorem dX9_deliver_17 : decode cX9_deliver 17 = .ok (.iload_n 1, 1) := by decide +kernel
theorem dX9_deliver_18 : decode cX9_deliver 18 = .ok (.invokevirtual 142, 3) := by decide +kernel
theorem dX9_deliver_21 : decode cX9_deliver 21 = .ok (.astore_n 2, 1) := by decide +kernel
theorem dX9_deliver_22 : decode cX9_deliver 22 = .ok (.aload_n 0, 1) := by decide +kernel
theorem dX9_deliver_23 : decode cX9_deliver 23 = .ok (.getfield 29, 3) := by decide +kernel
theorem dX9_deliver_26 : decode cX9_deliver 26 = .ok (.aload_n 2, 1) := by decide +kernel
theorem dX9_deliver_27 : decode cX9_deliver 27 = .ok (.getfield 146, 3) := by decide +kernel
theorem dX9_deliver_30 : decode cX9_deliver 30 = .ok (.aaload, 1) := by decide +kernel
theorem dX9_deliver_31 : decode cX9_deliver 31 = .ok (.aload_n 2, 1) := by decide +kernel
theorem dX9_deliver_32 : decode cX9_deliver 32 = .ok (.invokevirtual 151, 3) := by decide +kernel
theorem dX9_deliver_35 : decode cX9_deliver 35 = .ok (.iconst 1, 1) := by decide +kernel
theorem dX9_deliver_36 : decode cX9_deliver 36 = .ok (.ireturn, 1) := by decide +kernel
set_option maxHeartbeats 8000000 in
set_option maxRecDepth 100000 in
theorem x_X9_deliver (l : Launch) (E : EE) (z0 : Nat) (G : Nat → Nat) (hGz : ∀ q, G q ≠ 0 → z0 ≤ q) (B : AA) (R : RR) (hW : TW G B R) (h0 : Nat) (p0 : Int32) (hG : G h0 = 1) : Met l yX9_deliver [Cond.code yX9_deliver cX9_deliver 3 (some .boolean)] ({ frames := 7, cells := 0, slots := 0, locals := 154 } : Room) (va_Pc [.ref h0, .int p0] (fun U => TX E G B R U.heap ∧ KS E z0 U)) (va_Qi (fun (r : Int32) (u : AA × RR) => (TW G u.1 u.2) ∧ (Fr G ([8, 9, 10, 4, 31, 32, 14, 13, 5, 15, 11, 16, 17, 30] : List Nat) B u.1) ∧ (FrR G ([8, 9, 10, 4, 31, 32, 14, 13, 5, 15, 11, 16, 17, 30] : List Nat) R u.2) ∧ (r = 0 ∨ r = 1) ∧ (C_X9_deliver G B R h0 p0 u.1 u.2 r)) (fun u t => TX E G u.1 u.2 t.heap) (fun q : Nat => G q ∈ ([8, 9, 10, 4, 31, 32, 14, 13, 5, 15, 11, 16, 17, 30] : List Nat))) 0 0 (fun q : Nat => G q ∈ ([8, 9, 10, 4, 31, 32, 14, 13, 5, 15, 11, 16, 17, 30] : List Nat)) := by
  refine Met.ofW (cc := cX9_deliver) (maxL := 3) (ret := (some .boolean)) (by decide) rfl ?_
  intro p e s m args below meth c s₁ B9 hml hv
  obtain ⟨rfl, hT, hK⟩ := hv
  have hx := B9.exec
  have hb := B9.bytes
  have hr := B9.returns
  have hts : ∀ w ∈ TS, w.before ([.ref h0, .int p0] : List Value).toArray s = true := fun w hw => hK.2.1 w hw _
  have hown : s.vm.findClass RX9 = some m.cls := findClass_of_methodNamed B9.named
  have hlocks := B9.notSynchronized
  have hS : va_S (fun q : Nat => G q ∈ ([8, 9, 10, 4, 31, 32, 14, 13, 5, 15, 11, 16, 17, 30] : List Nat)) s.heap s.heap [] := va_S.rf
  have hAz : ∀ q, (fun q : Nat => G q ∈ ([8, 9, 10, 4, 31, 32, 14, 13, 5, 15, 11, 16, 17, 30] : List Nat)) q → z0 ≤ q := zL hGz (by decide)
  have hW_0 := hW
  have hl := lv_entry ([.ref h0, .int p0]) (n := 3) (Nat.le_of_ble_eq_true rfl)
  rw [lg_entry_eq]
  generalize (lg_sl ([.ref h0, .int p0]) ++ List.replicate (3 - (lg_sl ([.ref h0, .int p0])).length) Slot.unset).toArray = ls at hl ⊢
  have hl : lv_has ls 3 [(0, .ref h0), (1, .int p0)] := hl
  refine lv_aload_n hx hb dX9_deliver_0 rfl (lv_at hl 0 rfl) ?_
  have ha_1 := tx_1 hT hG
  have hg_2 : G (R h0 2) = 4 := (tw_1 hW hG).2.2
  refine va_get (D := DG E) (ci := 9) (v := .ref (R h0 2)) (C := RX9) (T := TX9) (N := 3) hx hb hts iw_X9 hown hK.1 (va_one ha_1) 0 rfl rfl 2 (by decide) (hts _ fl_X9_16) (fun _ h9 => h9) rfl dX9_deliver_1 ?_
  refine lv_iload_n hx hb dX9_deliver_4 rfl (lv_at hl 1 rfl) ?_
  have ha_3 := tx_4 hT hg_2
  refine va_calli (rnV (fun H => TX E G B R H) (As := [.int p0]) (rest := []) ⟨hx, hb, hml, hown, hts⟩ (x_X0_has l E z0 G hGz B R hW (R h0 2) p0 hg_2) (cwV 1 hts (gdV ml_X9_139 im_X0_has se_X0_X0_has in_X0 co_X0_has rfl) rfl rfl rfl (by decide +kernel) ⟨Nat.le_of_ble_eq_true rfl, Nat.le_of_ble_eq_true rfl⟩) hT (fun U hU hW => hK.go hW hS hAz hU) (va_recv hK.1 (va_one ha_3) (ci := 0) (q0 := 0) rfl rfl) rfl rfl hl.1 rfl (lv_room (Nat.le_of_ble_eq_true rfl)) dX9_deliver_5 ⟨Nat.le_of_ble_eq_true rfl, Nat.le_of_ble_eq_true rfl⟩) hS (fun q _ h => h.elim) (fun q h => h.elim) (fun r_4 _ t H locs ht hvm hwr_4 hB hz hk hS => ?_)
  have hT : TX E G B R H := hT.kept (fun q hq => hk q hq (fun h => h))
  have hbr_4 : r_4 = 0 ∨ r_4 = 1 := hwr_4.1
  have hp0r_4 : r_4.toInt = 0 ∨ (0 ≤ p0.toInt ∧ p0.toInt < (B (R h0 2) 1).toInt ∧ (B (R h0 2) 1).toInt ≤ 24) := hwr_4.2.1
  have hCr_4 : C_X0_has G B R (R h0 2) p0 r_4 := hwr_4.2.2
  have hzr_4 := s_rng hbr_4
  refine lv_if_ne (tgt := 13) hx hb dX9_deliver_8 (by decide) (fun c_5 => ?_) (fun c_5 => ?_)
  · simp only [lt_I, le_I, eq_I, i_0, i_1, i_2, i_3, i_4, i_5, i_6, i_7, i_8, i_10, i_12, i_16, i_20, i_23, i_24, i_31, i_32, i_63, i_64, i_m1] at c_5
    refine lv_aload_n hx hb dX9_deliver_13 rfl (lv_at hl 0 rfl) ?_
    have ha_6 := tx_1 hT hG
    refine va_get (D := DG E) (ci := 9) (v := .ref (R h0 2)) (C := RX9) (T := TX9) (N := 3) hx hb hts iw_X9 hown hK.1 (va_one ha_6) 0 rfl rfl 2 (by decide) (hts _ fl_X9_16) (fun _ h9 => h9) rfl dX9_deliver_14 ?_
    refine lv_iload_n hx hb dX9_deliver_17 rfl (lv_at hl 1 rfl) ?_
    have hb_7 := (tw_4 hW_0 hg_2).2.1
    have ha_8 := tx_4 hT hg_2
    refine va_callr (rnV (fun H => TX E G B R H) (As := [.int p0]) (rest := []) ⟨hx, hb, hml, hown, hts⟩ (x_X0_takeOut l E z0 G hGz B R hW (R h0 2) p0 hg_2 (show 0 ≤ p0.toInt ∧ p0.toInt ≤ 23 from by first | decide | omega) (show p0.toInt < (B (R h0 2) 1).toInt from by first | decide | omega)) (cwV 1 hts (gdV ml_X9_142 im_X0_takeOut se_X0_X0_takeOut in_X0 co_X0_takeOut rfl) rfl rfl rfl (by decide +kernel) ⟨Nat.le_of_ble_eq_true rfl, Nat.le_of_ble_eq_true rfl⟩) hT (fun U hU hW => hK.go hW hS hAz hU) (va_recv hK.1 (va_one ha_8) (ci := 0) (q0 := 0) rfl rfl) rfl rfl hl.1 rfl (lv_room (Nat.le_of_ble_eq_true rfl)) dX9_deliver_18 ⟨Nat.le_of_ble_eq_true rfl, Nat.le_of_ble_eq_true rfl⟩) hS (fun q _ h => mL (L' := [4, 30]) (L := [8, 9, 10, 4, 31, 32, 14, 13, 5, 15, 11, 16, 17, 30]) (by decide) h) (fun q h => mL (L' := [4, 30]) (L := [8, 9, 10, 4, 31, 32, 14, 13, 5, 15, 11, 16, 17, 30]) (by decide) h) (fun U_10 r_9 t H locs ht hvm hwr_9 hB hz hk hS => ?_)
    obtain ⟨B_11, R_12⟩ := U_10
    have hRr_9 := hB.1
    have hB := hB.2
    have hT : TX E G B_11 R_12 H := by rw [ht] at hB; exact hB
    have hgr_9 : G r_9 = 31 := hRr_9.1
    have hWr_9 : TW G B_11 R_12 := hRr_9.2.1
    have hW := hWr_9
    have hFr_9 : Fr G [4, 30] B B_11 := hRr_9.2.2.1
    have hQr_9 : FrR G [4, 30] R R_12 := hRr_9.2.2.2.1
    have hCr_9 : C_X0_takeOut G B R (R h0 2) p0 B_11 R_12 r_9 := hRr_9.2.2.2.2
    refine lv_astore_n (lv' := [(2, .ref r_9), (0, .ref h0), (1, .int p0)]) hx hb dX9_deliver_21 rfl hl (by decide) rfl (fun ls hl => ?_)
    refine lv_aload_n hx hb dX9_deliver_22 rfl (lv_at hl 1 rfl) ?_
    have ha_13 := tx_1 hT hG
    have hg_14 : G (R_12 h0 1) = 3 := (tw_1 hW hG).2.1
    refine va_get (D := DG E) (ci := 9) (v := .ref (R_12 h0 1)) (C := RX9) (T := TX9) (N := 3) hx hb hts iw_X9 hown hK.1 (va_one ha_13) 0 rfl rfl 1 (by decide) (hts _ fl_X9_29) (fun _ h9 => h9) rfl dX9_deliver_23 ?_
    refine lv_aload_n hx hb dX9_deliver_26 rfl (lv_at hl 0 rfl) ?_
    have ha_15 := tx_31 hT hgr_9
    have l_16 : B_11 r_9 0 = (B r_9 0) := (congrFun (hFr_9 r_9 (by rw [hgr_9]; decide)) 0)
    have hb_17 := (tw_31 hW_0 hgr_9).1
    refine va_get (D := DG E) (ci := 2) (v := .int (B_11 r_9 0)) (C := RX2) (T := TX2) (N := 8) hx hb hts iw_X2 hown hK.1 (va_one ha_15) 0 rfl rfl 0 (by decide) (hts _ fl_X9_146) (fun _ h9 => h9) rfl dX9_deliver_27 ?_
    refine W.eq (g2 := F0 m 30 ls [.int (B r_9 0), .ref (R_12 h0 1)]) (by rw [l_16]) ?_
    have ha_18 := tx_3 hT hg_14
    have hi_19 : vp_in (B r_9 0) 4 := vp_in_iff.mpr (by omega)
    obtain ⟨n_20, hn_20, en_20⟩ := x_nat (x := (B r_9 0)) (by omega)
    have hg_21 : G (R_12 (R_12 h0 1) n_20) = 8 := (tw_3 hW hg_14) n_20 (by omega)
    refine va_aldq (D := DG E) hx hb hK.1 (va_one ha_18) 0 5 rfl rfl hi_19 dX9_deliver_30 ?_
    refine W.eq (g2 := F0 m 31 ls [.ref (R_12 (R_12 h0 1) n_20)]) (by rw [en_20]; rfl) ?_
    refine lv_aload_n hx hb dX9_deliver_31 rfl (lv_at hl 0 rfl) ?_
    have ha_22 := tx_8 hT hg_21
    refine va_callv (rnV (fun H => TX E G B_11 R_12 H) (As := [.ref r_9]) (rest := []) ⟨hx, hb, hml, hown, hts⟩ (x_X3_takeIn l E z0 G hGz B_11 R_12 hW (R_12 (R_12 h0 1) n_20) r_9 hg_21 hgr_9) (cwV 1 hts (gdV ml_X9_151 im_X3_takeIn se_X3_X3_takeIn in_X3 co_X3_takeIn rfl) rfl rfl rfl (by decide +kernel) ⟨Nat.le_of_ble_eq_true rfl, Nat.le_of_ble_eq_true rfl⟩) hT (fun U hU hW => hK.go hW hS hAz hU) (va_recv hK.1 (va_one ha_22) (ci := 3) (q0 := 0) rfl rfl) rfl rfl hl.1 rfl (lv_room (Nat.le_of_ble_eq_true rfl)) dX9_deliver_32 ⟨Nat.le_of_ble_eq_true rfl, Nat.le_of_ble_eq_true rfl⟩) hS (fun q _ h => mL (L' := [8, 9, 10, 4, 31, 32, 14, 13, 5, 15, 11, 16, 17]) (L := [8, 9, 10, 4, 31, 32, 14, 13, 5, 15, 11, 16, 17, 30]) (by decide) h) (fun q h => mL (L' := [8, 9, 10, 4, 31, 32, 14, 13, 5, 15, 11, 16, 17]) (L := [8, 9, 10, 4, 31, 32, 14, 13, 5, 15, 11, 16, 17, 30]) (by decide) h) (fun U_24 t H locs ht hvm hwr_23 hB hz hk hS => ?_)
    have hT : TX E G U_24 R_12 H := by rw [ht] at hB; exact hB
    have hWr_23 : TW G U_24 R_12 := hwr_23.1
    have hW := hWr_23
    have hFr_23 : Fr G [8, 9, 10, 4, 31, 32, 14, 13, 5, 15, 11, 16, 17] B_11 U_24 := hwr_23.2.1
    have hCr_23 : C_X3_takeIn G B_11 R_12 (R_12 (R_12 h0 1) n_20) r_9 U_24 := hwr_23.2.2
    refine lv_iconst (v := 1) hx hb dX9_deliver_35 (by decide) ?_
    exact W.zret (v := 1) (ty := .boolean) hx hb hr rfl (fun t ht hW9 => ⟨⟨1, (U_24, R_12), rfl, ⟨hW, (Fr.c (Fr.c Fr.rf hFr_9 (by decide)) hFr_23 (by decide)), (FrR.c FrR.rf hQr_9 (by decide)), (by decide), (Or.inl ⟨r_4, hCr_4, c_5, r_9, B_11, R_12, hFr_9, hQr_9, hCr_9, n_20, hn_20, U_24, hFr_23, hCr_23, rfl, rfl, rfl⟩)⟩, (by show TX E G U_24 R_12 t.heap; rw [ht]; exact hT)⟩, hS.F ht⟩) hS.2.2 dX9_deliver_36
  · simp only [lt_I, le_I, eq_I, i_0, i_1, i_2, i_3, i_4, i_5, i_6, i_7, i_8, i_10, i_12, i_16, i_20, i_23, i_24, i_31, i_32, i_63, i_64, i_m1] at c_5
    refine lv_iconst (v := 0) hx hb dX9_deliver_11 (by decide) ?_
    exact W.zret (v := 0) (ty := .boolean) hx hb hr rfl (fun t ht hW9 => ⟨⟨0, (B, R), rfl, ⟨hW, Fr.rf, FrR.rf, (by decide), (Or.inr ⟨r_4, hCr_4, c_5, rfl, rfl, rfl⟩)⟩, (by show TX E G B R t.heap; rw [ht]; exact hT)⟩, hS.F ht⟩) hS.2.2 dX9_deliver_12
theorem dX9_spoil_0 : decode cX9_spoil 0 = .ok (.aload_n 0, 1) := by decide +kernel
theorem dX9_spoil_1 : decode cX9_spoil 1 = .ok (.getfield 16, 3) := by decide +kernel
theorem dX9_spoil_4 : decode cX9_spoil 4 = .ok (.iload_n 1, 1) := by decide +kernel
theorem dX9_spoil_5 : decode cX9_spoil 5 = .ok (.invokevirtual 139, 3) := by decide +kernel
theorem dX9_spoil_8 : decode cX9_spoil 8 = .ok (.ifCond .eq 17, 3) := by decide +kernel
theorem dX9_spoil_11 : decode cX9_spoil 11 = .ok (.iload_n 2, 1) := by decide +kernel
theorem dX9_spoil_12 : decode cX9_spoil 12 = .ok (.ifCond .eq 15, 3) := by decide +kernel
theorem dX9_spoil_15 : decode cX9_spoil 15 = .ok (.aload_n 0, 1) := by decide +kernel
theorem dX9_spoil_16 : decode cX9_spoil 16 = .ok (.getfield 16, 3) := by decide +kernel
theorem dX9_spoil_19 : decode cX9_spoil 19 = .ok (.invokevirtual 155, 3) := by decide +kernel
theorem dX9_spoil_22 : decode cX9_spoil 22 = .ok (.ifCond .eq 5, 3) := by decide +kernel
theorem dX9_spoil_25 : decode cX9_spoil 25 = .ok (.iconst 0, 1) := by decide +kernel
theorem dX9_spoil_26 : decode cX9_spoil 26 = .ok (.ireturn, 1) := by decide +kernel
theorem dX9_spoil_27 : decode cX9_spoil 27 = .ok (.iload_n 2, 1) := by decide +kernel
theorem dX9_spoil_28 : decode cX9_spoil 28 = .ok (.ifCond .eq 14, 3) := by decide +kernel
theorem dX9_spoil_31 : decode cX9_spoil 31 = .ok (.aload_n 0, 1) := by decide +kernel
theorem dX9_spoil_32 : decode cX9_spoil 32 = .ok (.getfield 16, 3) := by decide +kernel
theorem dX9_spoil_35 : decode cX9_spoil 35 = .ok (.iload_n 1, 1) := by decide +kernel
theorem dX9_spoil_36 : decode cX9_spoil 36 = .ok (.invokevirtual 158, 3) := by decide +kernel
theorem dX9_spoil_39 : decode cX9_spoil 39 = .ok (.goto 12, 3) := by decide +kernel
theorem dX9_spoil_42 : decode cX9_spoil 42 = .ok (.aload_n 0, 1) := by decide +kernel
theorem dX9_spoil_43 : decode cX9_spoil 43 = .ok (.getfield 16, 3) := by decide +kernel
theorem dX9_spoil_46 : decode cX9_spoil 46 = .ok (.iload_n 1, 1) := by decide +kernel
theorem dX9_spoil_47 : decode cX9_spoil 47 = .ok (.invokevirtual 142, 3) := by decide +kernel
theorem dX9_spoil_50 : decode cX9_spoil 50 = .ok (.pop, 1) := by decide +kernel
theorem dX9_spoil_51 : decode cX9_spoil 51 = .ok (.iconst 1, 1) := by decide +kernel
theorem dX9_spoil_52 : decode cX9_spoil 52 = .ok (.ireturn, 1) := by decide +kernel
set_option maxHeartbeats 8000000 in
set_option maxRecDepth 100000 in
theorem x_X9_spoil (l : Launch) (E : EE) (z0 : Nat) (G : Nat → Nat) (hGz : ∀ q, G q ≠ 0 → z0 ≤ q) (B : AA) (R : RR) (hW : TW G B R) (h0 : Nat) (p0 : Int32) (p1 : Int32) (hG : G h0 = 1) : Met l yX9_spoil [Cond.code yX9_spoil cX9_spoil 3 (some .boolean)] ({ frames := 3, cells := 0, slots := 0, locals := 66 } : Room) (va_Pc [.ref h0, .int p0, .int p1] (fun U => TX E G B R U.heap ∧ KS E z0 U)) (va_Qi (fun (r : Int32) (u : AA × RR) => (TW G u.1 u.2) ∧ (Fr G ([4, 30, 31, 32] : List Nat) B u.1) ∧ (FrR G ([4, 30, 31, 32] : List Nat) R u.2) ∧ (r = 0 ∨ r = 1) ∧ (C_X9_spoil G B R h0 p0 p1 u.1 u.2 r)) (fun u t => TX E G u.1 u.2 t.heap) (fun q : Nat => G q ∈ ([4, 30, 31, 32] : List Nat))) 0 0 (fun q : Nat => G q ∈ ([4, 30, 31, 32] : List Nat)) := by
  refine Met.ofW (cc := cX9_spoil) (maxL := 3) (ret := (some .boolean)) (by decide) rfl ?_
  intro p e s m args below meth c s₁ B9 hml hv
  obtain ⟨rfl, hT, hK⟩ := hv
  have hx := B9.exec
  have hb := B9.bytes
  have hr := B9.returns
  have hts : ∀ w ∈ TS, w.before ([.ref h0, .int p0, .int p1] : List Value).toArray s = true := fun w hw => hK.2.1 w hw _
  have hown : s.vm.findClass RX9 = some m.cls := findClass_of_methodNamed B9.named
  have hlocks := B9.notSynchronized
  have hS : va_S (fun q : Nat => G q ∈ ([4, 30, 31, 32] : List Nat)) s.heap s.heap [] := va_S.rf
  have hAz : ∀ q, (fun q : Nat => G q ∈ ([4, 30, 31, 32] : List Nat)) q → z0 ≤ q := zL hGz (by decide)
  have hW_0 := hW
  have hl := lv_entry ([.ref h0, .int p0, .int p1]) (n := 3) (Nat.le_of_ble_eq_true rfl)
  rw [lg_entry_eq]
  generalize (lg_sl ([.ref h0, .int p0, .int p1]) ++ List.replicate (3 - (lg_sl ([.ref h0, .int p0, .int p1])).length) Slot.unset).toArray = ls at hl ⊢
  have hl : lv_has ls 3 [(0, .ref h0), (1, .int p0), (2, .int p1)] := hl
  refine lv_aload_n hx hb dX9_spoil_0 rfl (lv_at hl 0 rfl) ?_
  have ha_1 := tx_1 hT hG
  have hg_2 : G (R h0 2) = 4 := (tw_1 hW hG).2.2
  refine va_get (D := DG E) (ci := 9) (v := .ref (R h0 2)) (C := RX9) (T := TX9) (N := 3) hx hb hts iw_X9 hown hK.1 (va_one ha_1) 0 rfl rfl 2 (by decide) (hts _ fl_X9_16) (fun _ h9 => h9) rfl dX9_spoil_1 ?_
  refine lv_iload_n hx hb dX9_spoil_4 rfl (lv_at hl 1 rfl) ?_
  have ha_3 := tx_4 hT hg_2
  refine va_calli (rnV (fun H => TX E G B R H) (As := [.int p0]) (rest := []) ⟨hx, hb, hml, hown, hts⟩ (x_X0_has l E z0 G hGz B R hW (R h0 2) p0 hg_2) (cwV 1 hts (gdV ml_X9_139 im_X0_has se_X0_X0_has in_X0 co_X0_has rfl) rfl rfl rfl (by decide +kernel) ⟨Nat.le_of_ble_eq_true rfl, Nat.le_of_ble_eq_true rfl⟩) hT (fun U hU hW => hK.go hW hS hAz hU) (va_recv hK.1 (va_one ha_3) (ci := 0) (q0 := 0) rfl rfl) rfl rfl hl.1 rfl (lv_room (Nat.le_of_ble_eq_true rfl)) dX9_spoil_5 ⟨Nat.le_of_ble_eq_true rfl, Nat.le_of_ble_eq_true rfl⟩) hS (fun q _ h => h.elim) (fun q h => h.elim) (fun r_4 _ t H locs ht hvm hwr_4 hB hz hk hS => ?_)
  have hT : TX E G B R H := hT.kept (fun q hq => hk q hq (fun h => h))
  have hbr_4 : r_4 = 0 ∨ r_4 = 1 := hwr_4.1
  have hp0r_4 : r_4.toInt = 0 ∨ (0 ≤ p0.toInt ∧ p0.toInt < (B (R h0 2) 1).toInt ∧ (B (R h0 2) 1).toInt ≤ 24) := hwr_4.2.1
  have hCr_4 : C_X0_has G B R (R h0 2) p0 r_4 := hwr_4.2.2
  have hzr_4 := s_rng hbr_4
  refine lv_if_eq (tgt := 25) hx hb dX9_spoil_8 (by decide) (fun c_5 => ?_) (fun c_5 => ?_)
  · simp only [lt_I, le_I, eq_I, i_0, i_1, i_2, i_3, i_4, i_5, i_6, i_7, i_8, i_10, i_12, i_16, i_20, i_23, i_24, i_31, i_32, i_63, i_64, i_m1] at c_5
    refine lv_iconst (v := 0) hx hb dX9_spoil_25 (by decide) ?_
    exact W.zret (v := 0) (ty := .boolean) hx hb hr rfl (fun t ht hW9 => ⟨⟨0, (B, R), rfl, ⟨hW, Fr.rf, FrR.rf, (by decide), (Or.inl ⟨r_4, hCr_4, c_5, rfl, rfl, rfl⟩)⟩, (by show TX E G B R t.heap; rw [ht]; exact hT)⟩, hS.F ht⟩) hS.2.2 dX9_spoil_26
  · simp only [lt_I, le_I, eq_I, i_0, i_1, i_2, i_3, i_4, i_5, i_6, i_7, i_8, i_10, i_12, i_16, i_20, i_23, i_24, i_31, i_32, i_63, i_64, i_m1] at c_5
    refine lv_iload_n hx hb dX9_spoil_11 rfl (lv_at hl 2 rfl) ?_
    refine lv_if_eq (tgt := 27) hx hb dX9_spoil_12 (by decide) (fun c_6 => ?_) (fun c_6 => ?_)
    · simp only [lt_I, le_I, eq_I, i_0, i_1, i_2, i_3, i_4, i_5, i_6, i_7, i_8, i_10, i_12, i_16, i_20, i_23, i_24, i_31, i_32, i_63, i_64, i_m1] at c_6
      refine lv_iload_n hx hb dX9_spoil_27 rfl (lv_at hl 2 rfl) ?_
      refine lv_if_eq (tgt := 42) hx hb dX9_spoil_28 (by decide) (fun c_7 => ?_) (fun c_7 => ?_)
      · simp only [lt_I, le_I, eq_I, i_0, i_1, i_2, i_3, i_4, i_5, i_6, i_7, i_8, i_10, i_12, i_16, i_20, i_23, i_24, i_31, i_32, i_63, i_64, i_m1] at c_7
        refine lv_aload_n hx hb dX9_spoil_42 rfl (lv_at hl 0 rfl) ?_
        have ha_8 := tx_1 hT hG
        refine va_get (D := DG E) (ci := 9) (v := .ref (R h0 2)) (C := RX9) (T := TX9) (N := 3) hx hb hts iw_X9 hown hK.1 (va_one ha_8) 0 rfl rfl 2 (by decide) (hts _ fl_X9_16) (fun _ h9 => h9) rfl dX9_spoil_43 ?_
        refine lv_iload_n hx hb dX9_spoil_46 rfl (lv_at hl 1 rfl) ?_
        have hb_9 := (tw_4 hW_0 hg_2).2.1
        have ha_10 := tx_4 hT hg_2
        refine va_callr (rnV (fun H => TX E G B R H) (As := [.int p0]) (rest := []) ⟨hx, hb, hml, hown, hts⟩ (x_X0_takeOut l E z0 G hGz B R hW (R h0 2) p0 hg_2 (show 0 ≤ p0.toInt ∧ p0.toInt ≤ 23 from by first | decide | omega) (show p0.toInt < (B (R h0 2) 1).toInt from by first | decide | omega)) (cwV 1 hts (gdV ml_X9_142 im_X0_takeOut se_X0_X0_takeOut in_X0 co_X0_takeOut rfl) rfl rfl rfl (by decide +kernel) ⟨Nat.le_of_ble_eq_true rfl, Nat.le_of_ble_eq_true rfl⟩) hT (fun U hU hW => hK.go hW hS hAz hU) (va_recv hK.1 (va_one ha_10) (ci := 0) (q0 := 0) rfl rfl) rfl rfl hl.1 rfl (lv_room (Nat.le_of_ble_eq_true rfl)) dX9_spoil_47 ⟨Nat.le_of_ble_eq_true rfl, Nat.le_of_ble_eq_true rfl⟩) hS (fun q _ h => mL (L' := [4, 30]) (L := [4, 30, 31, 32]) (by decide) h) (fun q h => mL (L' := [4, 30]) (L := [4, 30, 31, 32]) (by decide) h) (fun U_12 r_11 t H locs ht hvm hwr_11 hB hz hk hS => ?_)
        obtain ⟨B_13, R_14⟩ := U_12
        have hRr_11 := hB.1
        have hB := hB.2
        have hT : TX E G B_13 R_14 H := by rw [ht] at hB; exact hB
        have hgr_11 : G r_11 = 31 := hRr_11.1
        have hWr_11 : TW G B_13 R_14 := hRr_11.2.1
        have hW := hWr_11
        have hFr_11 : Fr G [4, 30] B B_13 := hRr_11.2.2.1
        have hQr_11 : FrR G [4, 30] R R_14 := hRr_11.2.2.2.1
        have hCr_11 : C_X0_takeOut G B R (R h0 2) p0 B_13 R_14 r_11 := hRr_11.2.2.2.2
        refine lv_pop hx hb dX9_spoil_50 rfl ?_
        refine lv_iconst (v := 1) hx hb dX9_spoil_51 (by decide) ?_
        exact W.zret (v := 1) (ty := .boolean) hx hb hr rfl (fun t ht hW9 => ⟨⟨1, (B_13, R_14), rfl, ⟨hW, (Fr.c Fr.rf hFr_11 (by decide)), (FrR.c FrR.rf hQr_11 (by decide)), (by decide), (Or.inr (Or.inl ⟨r_4, hCr_4, c_5, c_6, c_7, r_11, B_13, R_14, hFr_11, hQr_11, hCr_11, rfl, rfl, rfl⟩))⟩, (by show TX E G B_13 R_14 t.heap; rw [ht]; exact hT)⟩, hS.F ht⟩) hS.2.2 dX9_spoil_52
      · simp only [lt_I, le_I, eq_I, i_0, i_1, i_2, i_3, i_4, i_5, i_6, i_7, i_8, i_10, i_12, i_16, i_20, i_23, i_24, i_31, i_32, i_63, i_64, i_m1] at c_7
        refine lv_aload_n hx hb dX9_spoil_31 rfl (lv_at hl 0 rfl) ?_
        have ha_15 := tx_1 hT hG
        refine va_get (D := DG E) (ci := 9) (v := .ref (R h0 2)) (C := RX9) (T := TX9) (N := 3) hx hb hts iw_X9 hown hK.1 (va_one ha_15) 0 rfl rfl 2 (by decide) (hts _ fl_X9_16) (fun _ h9 => h9) rfl dX9_spoil_32 ?_
        refine lv_iload_n hx hb dX9_spoil_35 rfl (lv_at hl 1 rfl) ?_
        have hb_16 := (tw_4 hW_0 hg_2).2.1
        have ha_17 := tx_4 hT hg_2
        refine va_callv (rnV (fun H => TX E G B R H) (As := [.int p0]) (rest := []) ⟨hx, hb, hml, hown, hts⟩ (x_X0_copyToEnd l E z0 G hGz B R hW (R h0 2) p0 hg_2 (show 0 ≤ p0.toInt ∧ p0.toInt ≤ 23 from by first | decide | omega) (show (B (R h0 2) 1).toInt ≤ 23 from by first | decide | omega)) (cwV 1 hts (gdV ml_X9_158 im_X0_copyToEnd se_X0_X0_copyToEnd in_X0 co_X0_copyToEnd rfl) rfl rfl rfl (by decide +kernel) ⟨Nat.le_of_ble_eq_true rfl, Nat.le_of_ble_eq_true rfl⟩) hT (fun U hU hW => hK.go hW hS hAz hU) (va_recv hK.1 (va_one ha_17) (ci := 0) (q0 := 0) rfl rfl) rfl rfl hl.1 rfl (lv_room (Nat.le_of_ble_eq_true rfl)) dX9_spoil_36 ⟨Nat.le_of_ble_eq_true rfl, Nat.le_of_ble_eq_true rfl⟩) hS (fun q _ h => mL (L' := [4, 31, 32]) (L := [4, 30, 31, 32]) (by decide) h) (fun q h => mL (L' := [4, 31, 32]) (L := [4, 30, 31, 32]) (by decide) h) (fun U_19 t H locs ht hvm hwr_18 hB hz hk hS => ?_)
        have hT : TX E G U_19 R H := by rw [ht] at hB; exact hB
        have hWr_18 : TW G U_19 R := hwr_18.1
        have hW := hWr_18
        have hFr_18 : Fr G [4, 31, 32] B U_19 := hwr_18.2.1
        have hCr_18 : C_X0_copyToEnd G B R (R h0 2) p0 U_19 := hwr_18.2.2
        refine lv_goto (tgt := 51) hx hb dX9_spoil_39 (by decide) ?_
        refine lv_iconst (v := 1) hx hb dX9_spoil_51 (by decide) ?_
        exact W.zret (v := 1) (ty := .boolean) hx hb hr rfl (fun t ht hW9 => ⟨⟨1, (U_19, R), rfl, ⟨hW, (Fr.c Fr.rf hFr_18 (by decide)), FrR.rf, (by decide), (Or.inr (Or.inr (Or.inl ⟨r_4, hCr_4, c_5, c_6, c_7, U_19, hFr_18, hCr_18, rfl, rfl, rfl⟩)))⟩, (by show TX E G U_19 R t.heap; rw [ht]; exact hT)⟩, hS.F ht⟩) hS.2.2 dX9_spoil_52
    · simp only [lt_I, le_I, eq_I, i_0, i_1, i_2, i_3, i_4, i_5, i_6, i_7, i_8, i_10, i_12, i_16, i_20, i_23, i_24, i_31, i_32, i_63, i_64, i_m1] at c_6
      refine lv_aload_n hx hb dX9_spoil_15 rfl (lv_at hl 0 rfl) ?_
      have ha_20 := tx_1 hT hG
      refine va_get (D := DG E) (ci := 9) (v := .ref (R h0 2)) (C := RX9) (T := TX9) (N := 3) hx hb hts iw_X9 hown hK.1 (va_one ha_20) 0 rfl rfl 2 (by decide) (hts _ fl_X9_16) (fun _ h9 => h9) rfl dX9_spoil_16 ?_
      have ha_21 := tx_4 hT hg_2
      refine va_calli (rnV (fun H => TX E G B R H) (As := []) (rest := []) ⟨hx, hb, hml, hown, hts⟩ (x_X0_isFull l E z0 G hGz B R hW (R h0 2) hg_2) (cwV 0 hts (gdV ml_X9_155 im_X0_isFull se_X0_X0_isFull in_X0 co_X0_isFull rfl) rfl rfl rfl (by decide +kernel) ⟨Nat.le_of_ble_eq_true rfl, Nat.le_of_ble_eq_true rfl⟩) hT (fun U hU hW => hK.go hW hS hAz hU) (va_recv hK.1 (va_one ha_21) (ci := 0) (q0 := 0) rfl rfl) rfl rfl hl.1 rfl (lv_room (Nat.le_of_ble_eq_true rfl)) dX9_spoil_19 ⟨Nat.le_of_ble_eq_true rfl, Nat.le_of_ble_eq_true rfl⟩) hS (fun q _ h => h.elim) (fun q h => h.elim) (fun r_22 _ t H locs ht hvm hwr_22 hB hz hk hS => ?_)
      have hT : TX E G B R H := hT.kept (fun q hq => hk q hq (fun h => h))
      have hbr_22 : r_22 = 0 ∨ r_22 = 1 := hwr_22.1
      have hp0r_22 : r_22.toInt = 1 ∨ (B (R h0 2) 1).toInt ≤ 23 := hwr_22.2.1
      have hCr_22 : C_X0_isFull G B R (R h0 2) r_22 := hwr_22.2.2
      have hzr_22 := s_rng hbr_22
      refine lv_if_eq (tgt := 27) hx hb dX9_spoil_22 (by decide) (fun c_23 => ?_) (fun c_23 => ?_)
      · simp only [lt_I, le_I, eq_I, i_0, i_1, i_2, i_3, i_4, i_5, i_6, i_7, i_8, i_10, i_12, i_16, i_20, i_23, i_24, i_31, i_32, i_63, i_64, i_m1] at c_23
        refine lv_iload_n hx hb dX9_spoil_27 rfl (lv_at hl 2 rfl) ?_
        refine lv_if_eq (tgt := 42) hx hb dX9_spoil_28 (by decide) (fun c_24 => ?_) (fun c_24 => ?_)
        · simp only [lt_I, le_I, eq_I, i_0, i_1, i_2, i_3, i_4, i_5, i_6, i_7, i_8, i_10, i_12, i_16, i_20, i_23, i_24, i_31, i_32, i_63, i_64, i_m1] at c_24
          refine lv_aload_n hx hb dX9_spoil_42 rfl (lv_at hl 0 rfl) ?_
          have ha_25 := tx_1 hT hG
          refine va_get (D := DG E) (ci := 9) (v := .ref (R h0 2)) (C := RX9) (T := TX9) (N := 3) hx hb hts iw_X9 hown hK.1 (va_one ha_25) 0 rfl rfl 2 (by decide) (hts _ fl_X9_16) (fun _ h9 => h9) rfl dX9_spoil_43 ?_
          refine lv_iload_n hx hb dX9_spoil_46 rfl (lv_at hl 1 rfl) ?_
          have hb_26 := (tw_4 hW_0 hg_2).2.1
          have ha_27 := tx_4 hT hg_2
          refine va_callr (rnV (fun H => TX E G B R H) (As := [.int p0]) (rest := []) ⟨hx, hb, hml, hown, hts⟩ (x_X0_takeOut l E z0 G hGz B R hW (R h0 2) p0 hg_2 (show 0 ≤ p0.toInt ∧ p0.toInt ≤ 23 from by first | decide | omega) (show p0.toInt < (B (R h0 2) 1).toInt from by first | decide | omega)) (cwV 1 hts (gdV ml_X9_142 im_X0_takeOut se_X0_X0_takeOut in_X0 co_X0_takeOut rfl) rfl rfl rfl (by decide +kernel) ⟨Nat.le_of_ble_eq_true rfl, Nat.le_of_ble_eq_true rfl⟩) hT (fun U hU hW => hK.go hW hS hAz hU) (va_recv hK.1 (va_one ha_27) (ci := 0) (q0 := 0) rfl rfl) rfl rfl hl.1 rfl (lv_room (Nat.le_of_ble_eq_true rfl)) dX9_spoil_47 ⟨Nat.le_of_ble_eq_true rfl, Nat.le_of_ble_eq_true rfl⟩) hS (fun q _ h => mL (L' := [4, 30]) (L := [4, 30, 31, 32]) (by decide) h) (fun q h => mL (L' := [4, 30]) (L := [4, 30, 31, 32]) (by decide) h) (fun U_29 r_28 t H locs ht hvm hwr_28 hB hz hk hS => ?_)
          obtain ⟨B_30, R_31⟩ := U_29
          have hRr_28 := hB.1
          have hB := hB.2
          have hT : TX E G B_30 R_31 H := by rw [ht] at hB; exact hB
          have hgr_28 : G r_28 = 31 := hRr_28.1
          have hWr_28 : TW G B_30 R_31 := hRr_28.2.1
          have hW := hWr_28
          have hFr_28 : Fr G [4, 30] B B_30 := hRr_28.2.2.1
          have hQr_28 : FrR G [4, 30] R R_31 := hRr_28.2.2.2.1
          have hCr_28 : C_X0_takeOut G B R (R h0 2) p0 B_30 R_31 r_28 := hRr_28.2.2.2.2
          refine lv_pop hx hb dX9_spoil_50 rfl ?_
          refine lv_iconst (v := 1) hx hb dX9_spoil_51 (by decide) ?_
          exact W.zret (v := 1) (ty := .boolean) hx hb hr rfl (fun t ht hW9 => ⟨⟨1, (B_30, R_31), rfl, ⟨hW, (Fr.c Fr.rf hFr_28 (by decide)), (FrR.c FrR.rf hQr_28 (by decide)), (by decide), (Or.inr (Or.inr (Or.inr (Or.inl ⟨r_4, hCr_4, c_5, c_6, r_22, hCr_22, c_23, c_24, r_28, B_30, R_31, hFr_28, hQr_28, hCr_28, rfl, rfl, rfl⟩))))⟩, (by show TX E G B_30 R_31 t.heap; rw [ht]; exact hT)⟩, hS.F ht⟩) hS.2.2 dX9_spoil_52
        · simp only [lt_I, le_I, eq_I, i_0, i_1, i_2, i_3, i_4, i_5, i_6, i_7, i_8, i_10, i_12, i_16, i_20, i_23, i_24, i_31, i_32, i_63, i_64, i_m1] at c_24
          refine lv_aload_n hx hb dX9_spoil_31 rfl (lv_at hl 0 rfl) ?_
          have ha_32 := tx_1 hT hG
          refine va_get (D := DG E) (ci := 9) (v := .ref (R h0 2)) (C := RX9) (T := TX9) (N := 3) hx hb hts iw_X9 hown hK.1 (va_one ha_32) 0 rfl rfl 2 (by decide) (hts _ fl_X9_16) (fun _ h9 => h9) rfl dX9_spoil_32 ?_
          refine lv_iload_n hx hb dX9_spoil_35 rfl (lv_at hl 1 rfl) ?_
          have hb_33 := (tw_4 hW_0 hg_2).2.1
          have ha_34 := tx_4 hT hg_2
          refine va_callv (rnV (fun H => TX E G B R H) (As := [.int p0]) (rest := []) ⟨hx, hb, hml, hown, hts⟩ (x_X0_copyToEnd l E z0 G hGz B R hW (R h0 2) p0 hg_2 (show 0 ≤ p0.toInt ∧ p0.toInt ≤ 23 from by first | decide | omega) (show (B (R h0 2) 1).toInt ≤ 23 from by first | decide | omega)) (cwV 1 hts (gdV ml_X9_158 im_X0_copyToEnd se_X0_X0_copyToEnd in_X0 co_X0_copyToEnd rfl) rfl rfl rfl (by decide +kernel) ⟨Nat.le_of_ble_eq_true rfl, Nat.le_of_ble_eq_true rfl⟩) hT (fun U hU hW => hK.go hW hS hAz hU) (va_recv hK.1 (va_one ha_34) (ci := 0) (q0 := 0) rfl rfl) rfl rfl hl.1 rfl (lv_room (Nat.le_of_ble_eq_true rfl)) dX9_spoil_36 ⟨Nat.le_of_ble_eq_true rfl, Nat.le_of_ble_eq_true rfl⟩) hS (fun q _ h => mL (L' := [4, 31, 32]) (L := [4, 30, 31, 32]) (by decide) h) (fun q h => mL (L' := [4, 31, 32]) (L := [4, 30, 31, 32]) (by decide) h) (fun U_36 t H locs ht hvm hwr_35 hB hz hk hS => ?_)
          have hT : TX E G U_36 R H := by rw [ht] at hB; exact hB
          have hWr_35 : TW G U_36 R := hwr_35.1
          have hW := hWr_35
          have hFr_35 : Fr G [4, 31, 32] B U_36 := hwr_35.2.1
          have hCr_35 : C_X0_copyToEnd G B R (R h0 2) p0 U_36 := hwr_35.2.2
          refine lv_goto (tgt := 51) hx hb dX9_spoil_39 (by decide) ?_
          refine lv_iconst (v := 1) hx hb dX9_spoil_51 (by decide) ?_
          exact W.zret (v := 1) (ty := .boolean) hx hb hr rfl (fun t ht hW9 => ⟨⟨1, (U_36, R), rfl, ⟨hW, (Fr.c Fr.rf hFr_35 (by decide)), FrR.rf, (by decide), (Or.inr (Or.inr (Or.inr (Or.inr (Or.inl ⟨r_4, hCr_4, c_5, c_6, r_22, hCr_22, c_23, c_24, U_36, hFr_35, hCr_35, rfl, rfl, rfl⟩)))))⟩, (by show TX E G U_36 R t.heap; rw [ht]; exact hT)⟩, hS.F ht⟩) hS.2.2 dX9_spoil_52
      · simp only [lt_I, le_I, eq_I, i_0, i_1, i_2, i_3, i_4, i_5, i_6, i_7, i_8, i_10, i_12, i_16, i_20, i_23, i_24, i_31, i_32, i_63, i_64, i_m1] at c_23
        refine lv_iconst (v := 0) hx hb dX9_spoil_25 (by decide) ?_
        exact W.zret (v := 0) (ty := .boolean) hx hb hr rfl (fun t ht hW9 => ⟨⟨0, (B, R), rfl, ⟨hW, Fr.rf, FrR.rf, (by decide), (Or.inr (Or.inr (Or.inr (Or.inr (Or.inr ⟨r_4, hCr_4, c_5, c_6, r_22, hCr_22, c_23, rfl, rfl, rfl⟩)))))⟩, (by show TX E G B R t.heap; rw [ht]; exact hT)⟩, hS.F ht⟩) hS.2.2 dX9_spoil_26
theorem dX9_tick_0 : decode cX9_tick 0 = .ok (.iconst 0, 1) := by decide +kernel
theorem dX9_tick_1 : decode cX9_tick 1 = .ok (.istore_n 1, 1) := by decide +kernel
theorem dX9_tick_2 : decode cX9_tick 2 = .ok (.iconst 0, 1) := by decide +kernel
theorem dX9_tick_3 : decode cX9_tick 3 = .ok (.istore_n 2, 1) := by decide +kernel
theorem dX9_tick_4 : decode cX9_tick 4 = .ok (.iload_n 2, 1) := by decide +kernel
theorem dX9_tick_5 : decode cX9_tick 5 = .ok (.iconst 4, 1) := by decide +kernel
theorem dX9_tick_6 : decode cX9_tick 6 = .ok (.if_icmp .ge 24, 3) := by decide +kernel
theorem dX9_tick_9 : decode cX9_tick 9 = .ok (.aload_n 0, 1) := by decide +kernel
theorem dX9_tick_10 : decode cX9_tick 10 = .ok (.getfield 29, 3) := by decide +kernel
theorem dX9_tick_13 : decode cX9_tick 13 = .ok (.iload_n 2, 1) := by decide +kernel
theorem dX9_tick_14 : decode cX9_tick 14 = .ok (.aaload, 1) := by decide +kernel
theorem dX9_tick_15 : decode cX9_tick 15 = .ok (.invokevirtual 162, 3) := by decide +kernel
theorem dX9_tick_18 : decode cX9_tick 18 = .ok (.ifCond .eq 6, 3) := by decide +kernel
theorem dX9_tick_21 : decode cX9_tick 21 = .ok (.iinc 1 1, 3) := by decide +kernel
theorem dX9_tick_24 : decode cX9_tick 24 = .ok (.iinc 2 1, 3) := by decide +kernel
theorem dX9_tick_27 : decode cX9_tick 27 = .ok (.goto (-23), 3) := by decide +kernel
theorem dX9_tick_30 : decode cX9_tick 30 = .ok (.iload_n 1, 1) := by decide +kernel
theorem dX9_tick_31 : decode cX9_tick 31 = .ok (.ireturn, 1) := by decide +kernel
set_option maxHeartbeats 8000000 in
set_option maxRecDepth 100000 in
theorem x_X9_tick (l : Launch) (E : EE) (z0 : Nat) (G : Nat → Nat) (hGz : ∀ q, G q ≠ 0 → z0 ≤ q) (B : AA) (R : RR) (hW : TW G B R) (h0 : Nat) (hG : G h0 = 1) : Met l yX9_tick [Cond.code yX9_tick cX9_tick 3 (some .int)] ({ frames := 6, cells := 0, slots := 0, locals := 131 } : Room) (va_Pc [.ref h0] (fun U => TX E G B R U.heap ∧ KS E z0 U)) (va_Qi (fun (r : Int32) (u : AA) => (TW G u R) ∧ (Fr G ([8, 5, 15, 11, 10, 9] : List Nat) B u) ∧ (C_X9_tick G B R h0 u r)) (fun u t => TX E G u R t.heap) (fun q : Nat => G q ∈ ([8, 5, 15, 11, 10, 9] : List Nat))) 0 0 (fun q : Nat => G q ∈ ([8, 5, 15, 11, 10, 9] : List Nat)) := by
  refine Met.ofW (cc := cX9_tick) (maxL := 3) (ret := (some .int)) (by decide) rfl ?_
  intro p e s m args below meth c s₁ B9 hml hv
  obtain ⟨rfl, hT, hK⟩ := hv
  have hx := B9.exec
  have hb := B9.bytes
  have hr := B9.returns
  have hts : ∀ w ∈ TS, w.before ([.ref h0] : List Value).toArray s = true := fun w hw => hK.2.1 w hw _
  have hown : s.vm.findClass RX9 = some m.cls := findClass_of_methodNamed B9.named
  have hlocks := B9.notSynchronized
  have hS : va_S (fun q : Nat => G q ∈ ([8, 5, 15, 11, 10, 9] : List Nat)) s.heap s.heap [] := va_S.rf
  have hAz : ∀ q, (fun q : Nat => G q ∈ ([8, 5, 15, 11, 10, 9] : List Nat)) q → z0 ≤ q := zL hGz (by decide)
  have hW_0 := hW
  have hl := lv_entry ([.ref h0]) (n := 3) (Nat.le_of_ble_eq_true rfl)
  rw [lg_entry_eq]
  generalize (lg_sl ([.ref h0]) ++ List.replicate (3 - (lg_sl ([.ref h0])).length) Slot.unset).toArray = ls at hl ⊢
  have hl : lv_has ls 3 [(0, .ref h0)] := hl
  refine lv_iconst (v := 0) hx hb dX9_tick_0 (by decide) ?_
  refine lv_istore_n (lv' := [(1, .int 0), (0, .ref h0)]) hx hb dX9_tick_1 rfl hl (by decide) rfl (fun ls hl => ?_)
  refine lv_iconst (v := 0) hx hb dX9_tick_2 (by decide) ?_
  refine lv_istore_n (lv' := [(2, .int 0), (1, .int 0), (0, .ref h0)]) hx hb dX9_tick_3 rfl hl (by decide) rfl (fun ls hl => ?_)
  refine lv_iload_n hx hb dX9_tick_4 rfl (lv_at hl 0 rfl) ?_
  refine lv_iconst (v := 4) hx hb dX9_tick_5 (by decide) ?_
  refine lv_icmp_ge (tgt := 30) hx hb dX9_tick_6 (by decide) (fun c_1 => absurd c_1 (by decide)) (fun c_1 => ?_)
  refine lv_aload_n hx hb dX9_tick_9 rfl (lv_at hl 2 rfl) ?_
  have ha_2 := tx_1 hT hG
  have hg_3 : G (R h0 1) = 3 := (tw_1 hW hG).2.1
  refine va_get (D := DG E) (ci := 9) (v := .ref (R h0 1)) (C := RX9) (T := TX9) (N := 3) hx hb hts iw_X9 hown hK.1 (va_one ha_2) 0 rfl rfl 1 (by decide) (hts _ fl_X9_29) (fun _ h9 => h9) rfl dX9_tick_10 ?_
  refine lv_iload_n hx hb dX9_tick_13 rfl (lv_at hl 0 rfl) ?_
  have ha_4 := tx_3 hT hg_3
  have hg_5 : G (R (R h0 1) 0) = 8 := (tw_3 hW hg_3) 0 (by decide)
  refine va_aldq (D := DG E) hx hb hK.1 (va_one ha_4) 0 5 rfl rfl (show vp_in (0) 4 from vp_in_iff.mpr ⟨by decide, by decide⟩) dX9_tick_14 ?_
  refine W.eq (g2 := F0 m 15 ls [.ref (R (R h0 1) 0)]) (by rfl) ?_
  have ha_6 := tx_8 hT hg_5
  refine va_calli (rnV (fun H => TX E G B R H) (As := []) (rest := []) ⟨hx, hb, hml, hown, hts⟩ (x_X3_failsByTime l E z0 G hGz B R hW (R (R h0 1) 0) hg_5) (cwV 0 hts (gdV ml_X9_162 im_X3_failsByTime se_X3_X3_failsByTime in_X3 co_X3_failsByTime rfl) rfl rfl rfl (by decide +kernel) ⟨Nat.le_of_ble_eq_true rfl, Nat.le_of_ble_eq_true rfl⟩) hT (fun U hU hW => hK.go hW hS hAz hU) (va_recv hK.1 (va_one ha_6) (ci := 3) (q0 := 0) rfl rfl) rfl rfl hl.1 rfl (lv_room (Nat.le_of_ble_eq_true rfl)) dX9_tick_15 ⟨Nat.le_of_ble_eq_true rfl, Nat.le_of_ble_eq_true rfl⟩) hS (fun q _ h => mL (L' := [8, 5, 15, 11, 10, 9]) (L := [8, 5, 15, 11, 10, 9]) (by decide) h) (fun q h => mL (L' := [8, 5, 15, 11, 10, 9]) (L := [8, 5, 15, 11, 10, 9]) (by decide) h) (fun r_7 U_8 t H locs ht hvm hwr_7 hB hz hk hS => ?_)
  have hT : TX E G U_8 R H := by rw [ht] at hB; exact hB
  have hWr_7 : TW G U_8 R := hwr_7.1
  have hW := hWr_7
  have hFr_7 : Fr G [8, 5, 15, 11, 10, 9] B U_8 := hwr_7.2.1
  have hbr_7 : r_7 = 0 ∨ r_7 = 1 := hwr_7.2.2.1
  have hCr_7 : C_X3_failsByTime G B R (R (R h0 1) 0) U_8 r_7 := hwr_7.2.2.2
  have hzr_7 := s_rng hbr_7
  refine lv_if_eq (tgt := 24) hx hb dX9_tick_18 (by decide) (fun c_9 => ?_) (fun c_9 => ?_)
  · simp only [lt_I, le_I, eq_I, i_0, i_1, i_2, i_3, i_4, i_5, i_6, i_7, i_8, i_10, i_12, i_16, i_20, i_23, i_24, i_31, i_32, i_63, i_64, i_m1] at c_9
    refine lv_iinc (v := 1) (lv' := [(2, .int 1), (1, .int 0), (0, .ref h0)]) hx hb dX9_tick_24 hl (k := 0) rfl (by decide) (by decide) rfl (fun ls hl => ?_)
    refine lv_goto (tgt := 4) hx hb dX9_tick_27 (by decide) ?_
    refine lv_iload_n hx hb dX9_tick_4 rfl (lv_at hl 0 rfl) ?_
    refine lv_iconst (v := 4) hx hb dX9_tick_5 (by decide) ?_
    refine lv_icmp_ge (tgt := 30) hx hb dX9_tick_6 (by decide) (fun c_10 => absurd c_10 (by decide)) (fun c_10 => ?_)
    refine lv_aload_n hx hb dX9_tick_9 rfl (lv_at hl 2 rfl) ?_
    have ha_11 := tx_1 hT hG
    refine va_get (D := DG E) (ci := 9) (v := .ref (R h0 1)) (C := RX9) (T := TX9) (N := 3) hx hb hts iw_X9 hown hK.1 (va_one ha_11) 0 rfl rfl 1 (by decide) (hts _ fl_X9_29) (fun _ h9 => h9) rfl dX9_tick_10 ?_
    refine lv_iload_n hx hb dX9_tick_13 rfl (lv_at hl 0 rfl) ?_
    have ha_12 := tx_3 hT hg_3
    have hg_13 : G (R (R h0 1) 1) = 8 := (tw_3 hW hg_3) 1 (by decide)
    refine va_aldq (D := DG E) hx hb hK.1 (va_one ha_12) 0 5 rfl rfl (show vp_in (1) 4 from vp_in_iff.mpr ⟨by decide, by decide⟩) dX9_tick_14 ?_
    refine W.eq (g2 := F0 m 15 ls [.ref (R (R h0 1) 1)]) (by rfl) ?_
    have ha_14 := tx_8 hT hg_13
    refine va_calli (rnV (fun H => TX E G U_8 R H) (As := []) (rest := []) ⟨hx, hb, hml, hown, hts⟩ (x_X3_failsByTime l E z0 G hGz U_8 R hW (R (R h0 1) 1) hg_13) (cwV 0 hts (gdV ml_X9_162 im_X3_failsByTime se_X3_X3_failsByTime in_X3 co_X3_failsByTime rfl) rfl rfl rfl (by decide +kernel) ⟨Nat.le_of_ble_eq_true rfl, Nat.le_of_ble_eq_true rfl⟩) hT (fun U hU hW => hK.go hW hS hAz hU) (va_recv hK.1 (va_one ha_14) (ci := 3) (q0 := 0) rfl rfl) rfl rfl hl.1 rfl (lv_room (Nat.le_of_ble_eq_true rfl)) dX9_tick_15 ⟨Nat.le_of_ble_eq_true rfl, Nat.le_of_ble_eq_true rfl⟩) hS (fun q _ h => mL (L' := [8, 5, 15, 11, 10, 9]) (L := [8, 5, 15, 11, 10, 9]) (by decide) h) (fun q h => mL (L' := [8, 5, 15, 11, 10, 9]) (L := [8, 5, 15, 11, 10, 9]) (by decide) h) (fun r_15 U_16 t H locs ht hvm hwr_15 hB hz hk hS => ?_)
    have hT : TX E G U_16 R H := by rw [ht] at hB; exact hB
    have hWr_15 : TW G U_16 R := hwr_15.1
    have hW := hWr_15
    have hFr_15 : Fr G [8, 5, 15, 11, 10, 9] U_8 U_16 := hwr_15.2.1
    have hbr_15 : r_15 = 0 ∨ r_15 = 1 := hwr_15.2.2.1
    have hCr_15 : C_X3_failsByTime G U_8 R (R (R h0 1) 1) U_16 r_15 := hwr_15.2.2.2
    have hzr_15 := s_rng hbr_15
    refine lv_if_eq (tgt := 24) hx hb dX9_tick_18 (by decide) (fun c_17 => ?_) (fun c_17 => ?_)
    · simp only [lt_I, le_I, eq_I, i_0, i_1, i_2, i_3, i_4, i_5, i_6, i_7, i_8, i_10, i_12, i_16, i_20, i_23, i_24, i_31, i_32, i_63, i_64, i_m1] at c_17
      refine lv_iinc (v := 2) (lv' := [(2, .int 2), (1, .int 0), (0, .ref h0)]) hx hb dX9_tick_24 hl (k := 0) rfl (by decide) (by decide) rfl (fun ls hl => ?_)
      refine lv_goto (tgt := 4) hx hb dX9_tick_27 (by decide) ?_
      refine lv_iload_n hx hb dX9_tick_4 rfl (lv_at hl 0 rfl) ?_
      refine lv_iconst (v := 4) hx hb dX9_tick_5 (by decide) ?_
      refine lv_icmp_ge (tgt := 30) hx hb dX9_tick_6 (by decide) (fun c_18 => absurd c_18 (by decide)) (fun c_18 => ?_)
      refine lv_aload_n hx hb dX9_tick_9 rfl (lv_at hl 2 rfl) ?_
      have ha_19 := tx_1 hT hG
      refine va_get (D := DG E) (ci := 9) (v := .ref (R h0 1)) (C := RX9) (T := TX9) (N := 3) hx hb hts iw_X9 hown hK.1 (va_one ha_19) 0 rfl rfl 1 (by decide) (hts _ fl_X9_29) (fun _ h9 => h9) rfl dX9_tick_10 ?_
      refine lv_iload_n hx hb dX9_tick_13 rfl (lv_at hl 0 rfl) ?_
      have ha_20 := tx_3 hT hg_3
      have hg_21 : G (R (R h0 1) 2) = 8 := (tw_3 hW hg_3) 2 (by decide)
      refine va_aldq (D := DG E) hx hb hK.1 (va_one ha_20) 0 5 rfl rfl (show vp_in (2) 4 from vp_in_iff.mpr ⟨by decide, by decide⟩) dX9_tick_14 ?_
      refine W.eq (g2 := F0 m 15 ls [.ref (R (R h0 1) 2)]) (by rfl) ?_
      have ha_22 := tx_8 hT hg_21
      refine va_calli (rnV (fun H => TX E G U_16 R H) (As := []) (rest := []) ⟨hx, hb, hml, hown, hts⟩ (x_X3_failsByTime l E z0 G hGz U_16 R hW (R (R h0 1) 2) hg_21) (cwV 0 hts (gdV ml_X9_162 im_X3_failsByTime se_X3_X3_failsByTime in_X3 co_X3_failsByTime rfl) rfl rfl rfl (by decide +kernel) ⟨Nat.le_of_ble_eq_true rfl, Nat.le_of_ble_eq_true rfl⟩) hT (fun U hU hW => hK.go hW hS hAz hU) (va_recv hK.1 (va_one ha_22) (ci := 3) (q0 := 0) rfl rfl) rfl rfl hl.1 rfl (lv_room (Nat.le_of_ble_eq_true rfl)) dX9_tick_15 ⟨Nat.le_of_ble_eq_true rfl, Nat.le_of_ble_eq_true rfl⟩) hS (fun q _ h => mL (L' := [8, 5, 15, 11, 10, 9]) (L := [8, 5, 15, 11, 10, 9]) (by decide) h) (fun q h => mL (L' := [8, 5, 15, 11, 10, 9]) (L := [8, 5, 15, 11, 10, 9]) (by decide) h) (fun r_23 U_24 t H locs ht hvm hwr_23 hB hz hk hS => ?_)
      have hT : TX E G U_24 R H := by rw [ht] at hB; exact hB
      have hWr_23 : TW G U_24 R := hwr_23.1
      have hW := hWr_23
      have hFr_23 : Fr G [8, 5, 15, 11, 10, 9] U_16 U_24 := hwr_23.2.1
      have hbr_23 : r_23 = 0 ∨ r_23 = 1 := hwr_23.2.2.1
      have hCr_23 : C_X3_failsByTime G U_16 R (R (R h0 1) 2) U_24 r_23 := hwr_23.2.2.2
      have hzr_23 := s_rng hbr_23
      refine lv_if_eq (tgt := 24) hx hb dX9_tick_18 (by decide) (fun c_25 => ?_) (fun c_25 => ?_)
      · simp only [lt_I, le_I, eq_I, i_0, i_1, i_2, i_3, i_4, i_5, i_6, i_7, i_8, i_10, i_12, i_16, i_20, i_23, i_24, i_31, i_32, i_63, i_64, i_m1] at c_25
        refine lv_iinc (v := 3) (lv' := [(2, .int 3), (1, .int 0), (0, .ref h0)]) hx hb dX9_tick_24 hl (k := 0) rfl (by decide) (by decide) rfl (fun ls hl => ?_)
        refine lv_goto (tgt := 4) hx hb dX9_tick_27 (by decide) ?_
        refine lv_iload_n hx hb dX9_tick_4 rfl (lv_at hl 0 rfl) ?_
        refine lv_iconst (v := 4) hx hb dX9_tick_5 (by decide) ?_
        refine lv_icmp_ge (tgt := 30) hx hb dX9_tick_6 (by decide) (fun c_26 => absurd c_26 (by decide)) (fun c_26 => ?_)
        refine lv_aload_n hx hb dX9_tick_9 rfl (lv_at hl 2 rfl) ?_
        have ha_27 := tx_1 hT hG
        refine va_get (D := DG E) (ci := 9) (v := .ref (R h0 1)) (C := RX9) (T := TX9) (N := 3) hx hb hts iw_X9 hown hK.1 (va_one ha_27) 0 rfl rfl 1 (by decide) (hts _ fl_X9_29) (fun _ h9 => h9) rfl dX9_tick_10 ?_
        refine lv_iload_n hx hb dX9_tick_13 rfl (lv_at hl 0 rfl) ?_
        have ha_28 := tx_3 hT hg_3
        have hg_29 : G (R (R h0 1) 3) = 8 := (tw_3 hW hg_3) 3 (by decide)
        refine va_aldq (D := DG E) hx hb hK.1 (va_one ha_28) 0 5 rfl rfl (show vp_in (3) 4 from vp_in_iff.mpr ⟨by decide, by decide⟩) dX9_tick_14 ?_
        refine W.eq (g2 := F0 m 15 ls [.ref (R (R h0 1) 3)]) (by rfl) ?_
        have ha_30 := tx_8 hT hg_29
        refine va_calli (rnV (fun H => TX E G U_24 R H) (As := []) (rest := []) ⟨hx, hb, hml, hown, hts⟩ (x_X3_failsByTime l E z0 G hGz U_24 R hW (R (R h0 1) 3) hg_29) (cwV 0 hts (gdV ml_X9_162 im_X3_failsByTime se_X3_X3_failsByTime in_X3 co_X3_failsByTime rfl) rfl rfl rfl (by decide +kernel) ⟨Nat.le_of_ble_eq_true rfl, Nat.le_of_ble_eq_true rfl⟩) hT (fun U hU hW => hK.go hW hS hAz hU) (va_recv hK.1 (va_one ha_30) (ci := 3) (q0 := 0) rfl rfl) rfl rfl hl.1 rfl (lv_room (Nat.le_of_ble_eq_true rfl)) dX9_tick_15 ⟨Nat.le_of_ble_eq_true rfl, Nat.le_of_ble_eq_true rfl⟩) hS (fun q _ h => mL (L' := [8, 5, 15, 11, 10, 9]) (L := [8, 5, 15, 11, 10, 9]) (by decide) h) (fun q h => mL (L' := [8, 5, 15, 11, 10, 9]) (L := [8, 5, 15, 11, 10, 9]) (by decide) h) (fun r_31 U_32 t H locs ht hvm hwr_31 hB hz hk hS => ?_)
        have hT : TX E G U_32 R H := by rw [ht] at hB; exact hB
        have hWr_31 : TW G U_32 R := hwr_31.1
        have hW := hWr_31
        have hFr_31 : Fr G [8, 5, 15, 11, 10, 9] U_24 U_32 := hwr_31.2.1
        have hbr_31 : r_31 = 0 ∨ r_31 = 1 := hwr_31.2.2.1
        have hCr_31 : C_X3_failsByTime G U_24 R (R (R h0 1) 3) U_32 r_31 := hwr_31.2.2.2
        have hzr_31 := s_rng hbr_31
        refine lv_if_eq (tgt := 24) hx hb dX9_tick_18 (by decide) (fun c_33 => ?_) (fun c_33 => ?_)
        · simp only [lt_I, le_I, eq_I, i_0, i_1, i_2, i_3, i_4, i_5, i_6, i_7, i_8, i_10, i_12, i_16, i_20, i_23, i_24, i_31, i_32, i_63, i_64, i_m1] at c_33
          refine lv_iinc (v := 4) (lv' := [(2, .int 4), (1, .int 0), (0, .ref h0)]) hx hb dX9_tick_24 hl (k := 0) rfl (by decide) (by decide) rfl (fun ls hl => ?_)
          refine lv_goto (tgt := 4) hx hb dX9_tick_27 (by decide) ?_
          refine lv_iload_n hx hb dX9_tick_4 rfl (lv_at hl 0 rfl) ?_
          refine lv_iconst (v := 4) hx hb dX9_tick_5 (by decide) ?_
          refine lv_icmp_ge (tgt := 30) hx hb dX9_tick_6 (by decide) (fun c_34 => ?_) (fun c_34 => absurd c_34 (by decide))
          refine lv_iload_n hx hb dX9_tick_30 rfl (lv_at hl 1 rfl) ?_
          exact W.iret (v := 0) hx hb hr (fun t ht hW9 => ⟨⟨0, U_32, rfl, ⟨hW, (Fr.c (Fr.c (Fr.c (Fr.c Fr.rf hFr_7 (by decide)) hFr_15 (by decide)) hFr_23 (by decide)) hFr_31 (by decide)), (Or.inl ⟨r_7, U_8, hFr_7, hCr_7, c_9, r_15, U_16, hFr_15, hCr_15, c_17, r_23, U_24, hFr_23, hCr_23, c_25, r_31, U_32, hFr_31, hCr_31, c_33, rfl, rfl⟩)⟩, (by show TX E G U_32 R t.heap; rw [ht]; exact hT)⟩, hS.F ht⟩) hS.2.2 dX9_tick_31
        · simp only [lt_I, le_I, eq_I, i_0, i_1, i_2, i_3, i_4, i_5, i_6, i_7, i_8, i_10, i_12, i_16, i_20, i_23, i_24, i_31, i_32, i_63, i_64, i_m1] at c_33
          refine lv_iinc (v := 1) (lv' := [(1, .int 1), (2, .int 3), (0, .ref h0)]) hx hb dX9_tick_21 hl (k := 1) rfl (by decide) (by decide) rfl (fun ls hl => ?_)
          refine lv_iinc (v := 4) (lv' := [(2, .int 4), (1, .int 1), (0, .ref h0)]) hx hb dX9_tick_24 hl (k := 1) rfl (by decide) (by decide) rfl (fun ls hl => ?_)
          refine lv_goto (tgt := 4) hx hb dX9_tick_27 (by decide) ?_
          refine lv_iload_n hx hb dX9_tick_4 rfl (lv_at hl 0 rfl) ?_
          refine lv_iconst (v := 4) hx hb dX9_tick_5 (by decide) ?_
          refine lv_icmp_ge (tgt := 30) hx hb dX9_tick_6 (by decide) (fun c_35 => ?_) (fun c_35 => absurd c_35 (by decide))
          refine lv_iload_n hx hb dX9_tick_30 rfl (lv_at hl 1 rfl) ?_
          exact W.iret (v := 1) hx hb hr (fun t ht hW9 => ⟨⟨1, U_32, rfl, ⟨hW, (Fr.c (Fr.c (Fr.c (Fr.c Fr.rf hFr_7 (by decide)) hFr_15 (by decide)) hFr_23 (by decide)) hFr_31 (by decide)), (Or.inr (Or.inl ⟨r_7, U_8, hFr_7, hCr_7, c_9, r_15, U_16, hFr_15, hCr_15, c_17, r_23, U_24, hFr_23, hCr_23, c_25, r_31, U_32, hFr_31, hCr_31, c_33, rfl, rfl⟩))⟩, (by show TX E G U_32 R t.heap; rw [ht]; exact hT)⟩, hS.F ht⟩) hS.2.2 dX9_tick_31
      · simp only [lt_I, le_I, eq_I, i_0, i_1, i_2, i_3, i_4, i_5, i_6, i_7, i_8, i_10, i_12, i_16, i_20, i_23, i_24, i_31, i_32, i_63, i_64, i_m1] at c_25
        refine lv_iinc (v := 1) (lv' := [(1, .int 1), (2, .int 2), (0, .ref h0)]) hx hb dX9_tick_21 hl (k := 1) rfl (by decide) (by decide) rfl (fun ls hl => ?_)
        refine lv_iinc (v := 3) (lv' := [(2, .int 3), (1, .int 1), (0, .ref h0)]) hx hb dX9_tick_24 hl (k := 1) rfl (by decide) (by decide) rfl (fun ls hl => ?_)
        refine lv_goto (tgt := 4) hx hb dX9_tick_27 (by decide) ?_
        refine lv_iload_n hx hb dX9_tick_4 rfl (lv_at hl 0 rfl) ?_
        refine lv_iconst (v := 4) hx hb dX9_tick_5 (by decide) ?_
        refine lv_icmp_ge (tgt := 30) hx hb dX9_tick_6 (by decide) (fun c_36 => absurd c_36 (by decide)) (fun c_36 => ?_)
        refine lv_aload_n hx hb dX9_tick_9 rfl (lv_at hl 2 rfl) ?_
        have ha_37 := tx_1 hT hG
        refine va_get (D := DG E) (ci := 9) (v := .ref (R h0 1)) (C := RX9) (T := TX9) (N := 3) hx hb hts iw_X9 hown hK.1 (va_one ha_37) 0 rfl rfl 1 (by decide) (hts _ fl_X9_29) (fun _ h9 => h9) rfl dX9_tick_10 ?_
        refine lv_iload_n hx hb dX9_tick_13 rfl (lv_at hl 0 rfl) ?_
        have ha_38 := tx_3 hT hg_3
        have hg_39 : G (R (R h0 1) 3) = 8 := (tw_3 hW hg_3) 3 (by decide)
        refine va_aldq (D := DG E) hx hb hK.1 (va_one ha_38) 0 5 rfl rfl (show vp_in (3) 4 from vp_in_iff.mpr ⟨by decide, by decide⟩) dX9_tick_14 ?_
        refine W.eq (g2 := F0 m 15 ls [.ref (R (R h0 1) 3)]) (by rfl) ?_
        have ha_40 := tx_8 hT hg_39
        refine va_calli (rnV (fun H => TX E G U_24 R H) (As := []) (rest := []) ⟨hx, hb, hml, hown, hts⟩ (x_X3_failsByTime l E z0 G hGz U_24 R hW (R (R h0 1) 3) hg_39) (cwV 0 hts (gdV ml_X9_162 im_X3_failsByTime se_X3_X3_failsByTime in_X3 co_X3_failsByTime rfl) rfl rfl rfl (by decide +kernel) ⟨Nat.le_of_ble_eq_true rfl, Nat.le_of_ble_eq_true rfl⟩) hT (fun U hU hW => hK.go hW hS hAz hU) (va_recv hK.1 (va_one ha_40) (ci := 3) (q0 := 0) rfl rfl) rfl rfl hl.1 rfl (lv_room (Nat.le_of_ble_eq_true rfl)) dX9_tick_15 ⟨Nat.le_of_ble_eq_true rfl, Nat.le_of_ble_eq_true rfl⟩) hS (fun q _ h => mL (L' := [8, 5, 15, 11, 10, 9]) (L := [8, 5, 15, 11, 10, 9]) (by decide) h) (fun q h => mL (L' := [8, 5, 15, 11, 10, 9]) (L := [8, 5, 15, 11, 10, 9]) (by decide) h) (fun r_41 U_42 t H locs ht hvm hwr_41 hB hz hk hS => ?_)
        have hT : TX E G U_42 R H := by rw [ht] at hB; exact hB
        have hWr_41 : TW G U_42 R := hwr_41.1
        have hW := hWr_41
        have hFr_41 : Fr G [8, 5, 15, 11, 10, 9] U_24 U_42 := hwr_41.2.1
        have hbr_41 : r_41 = 0 ∨ r_41 = 1 := hwr_41.2.2.1
        have hCr_41 : C_X3_failsByTime G U_24 R (R (R h0 1) 3) U_42 r_41 := hwr_41.2.2.2
        have hzr_41 := s_rng hbr_41
        refine lv_if_eq (tgt := 24) hx hb dX9_tick_18 (by decide) (fun c_43 => ?_) (fun c_43 => ?_)
        · simp only [lt_I, le_I, eq_I, i_0, i_1, i_2, i_3, i_4, i_5, i_6, i_7, i_8, i_10, i_12, i_16, i_20, i_23, i_24, i_31, i_32, i_63, i_64, i_m1] at c_43
          refine lv_iinc (v := 4) (lv' := [(2, .int 4), (1, .int 1), (0, .ref h0)]) hx hb dX9_tick_24 hl (k := 0) rfl (by decide) (by decide) rfl (fun ls hl => ?_)
          refine lv_goto (tgt := 4) hx hb dX9_tick_27 (by decide) ?_
          refine lv_iload_n hx hb dX9_tick_4 rfl (lv_at hl 0 rfl) ?_
          refine lv_iconst (v := 4) hx hb dX9_tick_5 (by decide) ?_
          refine lv_icmp_ge (tgt := 30) hx hb dX9_tick_6 (by decide) (fun c_44 => ?_) (fun c_44 => absurd c_44 (by decide))
          refine lv_iload_n hx hb dX9_tick_30 rfl (lv_at hl 1 rfl) ?_
          exact W.iret (v := 1) hx hb hr (fun t ht hW9 => ⟨⟨1, U_42, rfl, ⟨hW, (Fr.c (Fr.c (Fr.c (Fr.c Fr.rf hFr_7 (by decide)) hFr_15 (by decide)) hFr_23 (by decide)) hFr_41 (by decide)), (Or.inr (Or.inr (Or.inl ⟨r_7, U_8, hFr_7, hCr_7, c_9, r_15, U_16, hFr_15, hCr_15, c_17, r_23, U_24, hFr_23, hCr_23, c_25, r_41, U_42, hFr_41, hCr_41, c_43, rfl, rfl⟩)))⟩, (by show TX E G U_42 R t.heap; rw [ht]; exact hT)⟩, hS.F ht⟩) hS.2.2 dX9_tick_31
        · simp only [lt_I, le_I, eq_I, i_0, i_1, i_2, i_3, i_4, i_5, i_6, i_7, i_8, i_10, i_12, i_16, i_20, i_23, i_24, i_31, i_32, i_63, i_64, i_m1] at c_43
          refine lv_iinc (v := 2) (lv' := [(1, .int 2), (2, .int 3), (0, .ref h0)]) hx hb dX9_tick_21 hl (k := 1) rfl (by decide) (by decide) rfl (fun ls hl => ?_)
          refine lv_iinc (v := 4) (lv' := [(2, .int 4), (1, .int 2), (0, .ref h0)]) hx hb dX9_tick_24 hl (k := 1) rfl (by decide) (by decide) rfl (fun ls hl => ?_)
          refine lv_goto (tgt := 4) hx hb dX9_tick_27 (by decide) ?_
          refine lv_iload_n hx hb dX9_tick_4 rfl (lv_at hl 0 rfl) ?_
          refine lv_iconst (v := 4) hx hb dX9_tick_5 (by decide) ?_
          refine lv_icmp_ge (tgt := 30) hx hb dX9_tick_6 (by decide) (fun c_45 => ?_) (fun c_45 => absurd c_45 (by decide))
          refine lv_iload_n hx hb dX9_tick_30 rfl (lv_at hl 1 rfl) ?_
          exact W.iret (v := 2) hx hb hr (fun t ht hW9 => ⟨⟨2, U_42, rfl, ⟨hW, (Fr.c (Fr.c (Fr.c (Fr.c Fr.rf hFr_7 (by decide)) hFr_15 (by decide)) hFr_23 (by decide)) hFr_41 (by decide)), (Or.inr (Or.inr (Or.inr (Or.inl ⟨r_7, U_8, hFr_7, hCr_7, c_9, r_15, U_16, hFr_15, hCr_15, c_17, r_23, U_24, hFr_23, hCr_23, c_25, r_41, U_42, hFr_41, hCr_41, c_43, rfl, rfl⟩))))⟩, (by show TX E G U_42 R t.heap; rw [ht]; exact hT)⟩, hS.F ht⟩) hS.2.2 dX9_tick_31
    · simp only [lt_I, le_I, eq_I, i_0, i_1, i_2, i_3, i_4, i_5, i_6, i_7, i_8, i_10, i_12, i_16, i_20, i_23, i_24, i_31, i_32, i_63, i_64, i_m1] at c_17
      refine lv_iinc (v := 1) (lv' := [(1, .int 1), (2, .int 1), (0, .ref h0)]) hx hb dX9_tick_21 hl (k := 1) rfl (by decide) (by decide) rfl (fun ls hl => ?_)
      refine lv_iinc (v := 2) (lv' := [(2, .int 2), (1, .int 1), (0, .ref h0)]) hx hb dX9_tick_24 hl (k := 1) rfl (by decide) (by decide) rfl (fun ls hl => ?_)
      refine lv_goto (tgt := 4) hx hb dX9_tick_27 (by decide) ?_
      refine lv_iload_n hx hb dX9_tick_4 rfl (lv_at hl 0 rfl) ?_
      refine lv_iconst (v := 4) hx hb dX9_tick_5 (by decide) ?_
      refine lv_icmp_ge (tgt := 30) hx hb dX9_tick_6 (by decide) (fun c_46 => absurd c_46 (by decide)) (fun c_46 => ?_)
      refine lv_aload_n hx hb dX9_tick_9 rfl (lv_at hl 2 rfl) ?_
      have ha_47 := tx_1 hT hG
      refine va_get (D := DG E) (ci := 9) (v := .ref (R h0 1)) (C := RX9) (T := TX9) (N := 3) hx hb hts iw_X9 hown hK.1 (va_one ha_47) 0 rfl rfl 1 (by decide) (hts _ fl_X9_29) (fun _ h9 => h9) rfl dX9_tick_10 ?_
      refine lv_iload_n hx hb dX9_tick_13 rfl (lv_at hl 0 rfl) ?_
      have ha_48 := tx_3 hT hg_3
      have hg_49 : G (R (R h0 1) 2) = 8 := (tw_3 hW hg_3) 2 (by decide)
      refine va_aldq (D := DG E) hx hb hK.1 (va_one ha_48) 0 5 rfl rfl (show vp_in (2) 4 from vp_in_iff.mpr ⟨by decide, by decide⟩) dX9_tick_14 ?_
      refine W.eq (g2 := F0 m 15 ls [.ref (R (R h0 1) 2)]) (by rfl) ?_
      have ha_50 := tx_8 hT hg_49
      refine va_calli (rnV (fun H => TX E G U_16 R H) (As := []) (rest := []) ⟨hx, hb, hml, hown, hts⟩ (x_X3_failsByTime l E z0 G hGz U_16 R hW (R (R h0 1) 2) hg_49) (cwV 0 hts (gdV ml_X9_162 im_X3_failsByTime se_X3_X3_failsByTime in_X3 co_X3_failsByTime rfl) rfl rfl rfl (by decide +kernel) ⟨Nat.le_of_ble_eq_true rfl, Nat.le_of_ble_eq_true rfl⟩) hT (fun U hU hW => hK.go hW hS hAz hU) (va_recv hK.1 (va_one ha_50) (ci := 3) (q0 := 0) rfl rfl) rfl rfl hl.1 rfl (lv_room (Nat.le_of_ble_eq_true rfl)) dX9_tick_15 ⟨Nat.le_of_ble_eq_true rfl, Nat.le_of_ble_eq_true rfl⟩) hS (fun q _ h => mL (L' := [8, 5, 15, 11, 10, 9]) (L := [8, 5, 15, 11, 10, 9]) (by decide) h) (fun q h => mL (L' := [8, 5, 15, 11, 10, 9]) (L := [8, 5, 15, 11, 10, 9]) (by decide) h) (fun r_51 U_52 t H locs ht hvm hwr_51 hB hz hk hS => ?_)
      have hT : TX E G U_52 R H := by rw [ht] at hB; exact hB
      have hWr_51 : TW G U_52 R := hwr_51.1
      have hW := hWr_51
      have hFr_51 : Fr G [8, 5, 15, 11, 10, 9] U_16 U_52 := hwr_51.2.1
      have hbr_51 : r_51 = 0 ∨ r_51 = 1 := hwr_51.2.2.1
      have hCr_51 : C_X3_failsByTime G U_16 R (R (R h0 1) 2) U_52 r_51 := hwr_51.2.2.2
      have hzr_51 := s_rng hbr_51
      refine lv_if_eq (tgt := 24) hx hb dX9_tick_18 (by decide) (fun c_53 => ?_) (fun c_53 => ?_)
      · simp only [lt_I, le_I, eq_I, i_0, i_1, i_2, i_3, i_4, i_5, i_6, i_7, i_8, i_10, i_12, i_16, i_20, i_23, i_24, i_31, i_32, i_63, i_64, i_m1] at c_53
        refine lv_iinc (v := 3) (lv' := [(2, .int 3), (1, .int 1), (0, .ref h0)]) hx hb dX9_tick_24 hl (k := 0) rfl (by decide) (by decide) rfl (fun ls hl => ?_)
        refine lv_goto (tgt := 4) hx hb dX9_tick_27 (by decide) ?_
        refine lv_iload_n hx hb dX9_tick_4 rfl (lv_at hl 0 rfl) ?_
        refine lv_iconst (v := 4) hx hb dX9_tick_5 (by decide) ?_
        refine lv_icmp_ge (tgt := 30) hx hb dX9_tick_6 (by decide) (fun c_54 => absurd c_54 (by decide)) (fun c_54 => ?_)
        refine lv_aload_n hx hb dX9_tick_9 rfl (lv_at hl 2 rfl) ?_
        have ha_55 := tx_1 hT hG
        refine va_get (D := DG E) (ci := 9) (v := .ref (R h0 1)) (C := RX9) (T := TX9) (N := 3) hx hb hts iw_X9 hown hK.1 (va_one ha_55) 0 rfl rfl 1 (by decide) (hts _ fl_X9_29) (fun _ h9 => h9) rfl dX9_tick_10 ?_
        refine lv_iload_n hx hb dX9_tick_13 rfl (lv_at hl 0 rfl) ?_
        have ha_56 := tx_3 hT hg_3
        have hg_57 : G (R (R h0 1) 3) = 8 := (tw_3 hW hg_3) 3 (by decide)
        refine va_aldq (D := DG E) hx hb hK.1 (va_one ha_56) 0 5 rfl rfl (show vp_in (3) 4 from vp_in_iff.mpr ⟨by decide, by decide⟩) dX9_tick_14 ?_
        refine W.eq (g2 := F0 m 15 ls [.ref (R (R h0 1) 3)]) (by rfl) ?_
        have ha_58 := tx_8 hT hg_57
        refine va_calli (rnV (fun H => TX E G U_52 R H) (As := []) (rest := []) ⟨hx, hb, hml, hown, hts⟩ (x_X3_failsByTime l E z0 G hGz U_52 R hW (R (R h0 1) 3) hg_57) (cwV 0 hts (gdV ml_X9_162 im_X3_failsByTime se_X3_X3_failsByTime in_X3 co_X3_failsByTime rfl) rfl rfl rfl (by decide +kernel) ⟨Nat.le_of_ble_eq_true rfl, Nat.le_of_ble_eq_true rfl⟩) hT (fun U hU hW => hK.go hW hS hAz hU) (va_recv hK.1 (va_one ha_58) (ci := 3) (q0 := 0) rfl rfl) rfl rfl hl.1 rfl (lv_room (Nat.le_of_ble_eq_true rfl)) dX9_tick_15 ⟨Nat.le_of_ble_eq_true rfl, Nat.le_of_ble_eq_true rfl⟩) hS (fun q _ h => mL (L' := [8, 5, 15, 11, 10, 9]) (L := [8, 5, 15, 11, 10, 9]) (by decide) h) (fun q h => mL (L' := [8, 5, 15, 11, 10, 9]) (L := [8, 5, 15, 11, 10, 9]) (by decide) h) (fun r_59 U_60 t H locs ht hvm hwr_59 hB hz hk hS => ?_)
        have hT : TX E G U_60 R H := by rw [ht] at hB; exact hB
        have hWr_59 : TW G U_60 R := hwr_59.1
        have hW := hWr_59
        have hFr_59 : Fr G [8, 5, 15, 11, 10, 9] U_52 U_60 := hwr_59.2.1
        have hbr_59 : r_59 = 0 ∨ r_59 = 1 := hwr_59.2.2.1
        have hCr_59 : C_X3_failsByTime G U_52 R (R (R h0 1) 3) U_60 r_59 := hwr_59.2.2.2
        have hzr_59 := s_rng hbr_59
        refine lv_if_eq (tgt := 24) hx hb dX9_tick_18 (by decide) (fun c_61 => ?_) (fun c_61 => ?_)
        · simp only [lt_I, le_I, eq_I, i_0, i_1, i_2, i_3, i_4, i_5, i_6, i_7, i_8, i_10, i_12, i_16, i_20, i_23, i_24, i_31, i_32, i_63, i_64, i_m1] at c_61
          refine lv_iinc (v := 4) (lv' := [(2, .int 4), (1, .int 1), (0, .ref h0)]) hx hb dX9_tick_24 hl (k := 0) rfl (by decide) (by decide) rfl (fun ls hl => ?_)
          refine lv_goto (tgt := 4) hx hb dX9_tick_27 (by decide) ?_
          refine lv_iload_n hx hb dX9_tick_4 rfl (lv_at hl 0 rfl) ?_
          refine lv_iconst (v := 4) hx hb dX9_tick_5 (by decide) ?_
          refine lv_icmp_ge (tgt := 30) hx hb dX9_tick_6 (by decide) (fun c_62 => ?_) (fun c_62 => absurd c_62 (by decide))
          refine lv_iload_n hx hb dX9_tick_30 rfl (lv_at hl 1 rfl) ?_
          exact W.iret (v := 1) hx hb hr (fun t ht hW9 => ⟨⟨1, U_60, rfl, ⟨hW, (Fr.c (Fr.c (Fr.c (Fr.c Fr.rf hFr_7 (by decide)) hFr_15 (by decide)) hFr_51 (by decide)) hFr_59 (by decide)), (Or.inr (Or.inr (Or.inr (Or.inr (Or.inl ⟨r_7, U_8, hFr_7, hCr_7, c_9, r_15, U_16, hFr_15, hCr_15, c_17, r_51, U_52, hFr_51, hCr_51, c_53, r_59, U_60, hFr_59, hCr_59, c_61, rfl, rfl⟩)))))⟩, (by show TX E G U_60 R t.heap; rw [ht]; exact hT)⟩, hS.F ht⟩) hS.2.2 dX9_tick_31
        · simp only [lt_I, le_I, eq_I, i_0, i_1, i_2, i_3, i_4, i_5, i_6, i_7, i_8, i_10, i_12, i_16, i_20, i_23, i_24, i_31, i_32, i_63, i_64, i_m1] at c_61
          refine lv_iinc (v := 2) (lv' := [(1, .int 2), (2, .int 3), (0, .ref h0)]) hx hb dX9_tick_21 hl (k := 1) rfl (by decide) (by decide) rfl (fun ls hl => ?_)
          refine lv_iinc (v := 4) (lv' := [(2, .int 4), (1, .int 2), (0, .ref h0)]) hx hb dX9_tick_24 hl (k := 1) rfl (by decide) (by decide) rfl (fun ls hl => ?_)
          refine lv_goto (tgt := 4) hx hb dX9_tick_27 (by decide) ?_
          refine lv_iload_n hx hb dX9_tick_4 rfl (lv_at hl 0 rfl) ?_
          refine lv_iconst (v := 4) hx hb dX9_tick_5 (by decide) ?_
          refine lv_icmp_ge (tgt := 30) hx hb dX9_tick_6 (by decide) (fun c_63 => ?_) (fun c_63 => absurd c_63 (by decide))
          refine lv_iload_n hx hb dX9_tick_30 rfl (lv_at hl 1 rfl) ?_
          exact W.iret (v := 2) hx hb hr (fun t ht hW9 => ⟨⟨2, U_60, rfl, ⟨hW, (Fr.c (Fr.c (Fr.c (Fr.c Fr.rf hFr_7 (by decide)) hFr_15 (by decide)) hFr_51 (by decide)) hFr_59 (by decide)), (Or.inr (Or.inr (Or.inr (Or.inr (Or.inr (Or.inl ⟨r_7, U_8, hFr_7, hCr_7, c_9, r_15, U_16, hFr_15, hCr_15, c_17, r_51, U_52, hFr_51, hCr_51, c_53, r_59, U_60, hFr_59, hCr_59, c_61, rfl, rfl⟩))))))⟩, (by show TX E G U_60 R t.heap; rw [ht]; exact hT)⟩, hS.F ht⟩) hS.2.2 dX9_tick_31
      · simp only [lt_I, le_I, eq_I, i_0, i_1, i_2, i_3, i_4, i_5, i_6, i_7, i_8, i_10, i_12, i_16, i_20, i_23, i_24, i_31, i_32, i_63, i_64, i_m1] at c_53
        refine lv_iinc (v := 2) (lv' := [(1, .int 2), (2, .int 2), (0, .ref h0)]) hx hb dX9_tick_21 hl (k := 1) rfl (by decide) (by decide) rfl (fun ls hl => ?_)
        refine lv_iinc (v := 3) (lv' := [(2, .int 3), (1, .int 2), (0, .ref h0)]) hx hb dX9_tick_24 hl (k := 1) rfl (by decide) (by decide) rfl (fun ls hl => ?_)
        refine lv_goto (tgt := 4) hx hb dX9_tick_27 (by decide) ?_
        refine lv_iload_n hx hb dX9_tick_4 rfl (lv_at hl 0 rfl) ?_
        refine lv_iconst (v := 4) hx hb dX9_tick_5 (by decide) ?_
        refine lv_icmp_ge (tgt := 30) hx hb dX9_tick_6 (by decide) (fun c_64 => absurd c_64 (by decide)) (fun c_64 => ?_)
        refine lv_aload_n hx hb dX9_tick_9 rfl (lv_at hl 2 rfl) ?_
        have ha_65 := tx_1 hT hG
        refine va_get (D := DG E) (ci := 9) (v := .ref (R h0 1)) (C := RX9) (T := TX9) (N := 3) hx hb hts iw_X9 hown hK.1 (va_one ha_65) 0 rfl rfl 1 (by decide) (hts _ fl_X9_29) (fun _ h9 => h9) rfl dX9_tick_10 ?_
        refine lv_iload_n hx hb dX9_tick_13 rfl (lv_at hl 0 rfl) ?_
        have ha_66 := tx_3 hT hg_3
        have hg_67 : G (R (R h0 1) 3) = 8 := (tw_3 hW hg_3) 3 (by decide)
        refine va_aldq (D := DG E) hx hb hK.1 (va_one ha_66) 0 5 rfl rfl (show vp_in (3) 4 from vp_in_iff.mpr ⟨by decide, by decide⟩) dX9_tick_14 ?_
        refine W.eq (g2 := F0 m 15 ls [.ref (R (R h0 1) 3)]) (by rfl) ?_
        have ha_68 := tx_8 hT hg_67
        refine va_calli (rnV (fun H => TX E G U_52 R H) (As := []) (rest := []) ⟨hx, hb, hml, hown, hts⟩ (x_X3_failsByTime l E z0 G hGz U_52 R hW (R (R h0 1) 3) hg_67) (cwV 0 hts (gdV ml_X9_162 im_X3_failsByTime se_X3_X3_failsByTime in_X3 co_X3_failsByTime rfl) rfl rfl rfl (by decide +kernel) ⟨Nat.le_of_ble_eq_true rfl, Nat.le_of_ble_eq_true rfl⟩) hT (fun U hU hW => hK.go hW hS hAz hU) (va_recv hK.1 (va_one ha_68) (ci := 3) (q0 := 0) rfl rfl) rfl rfl hl.1 rfl (lv_room (Nat.le_of_ble_eq_true rfl)) dX9_tick_15 ⟨Nat.le_of_ble_eq_true rfl, Nat.le_of_ble_eq_true rfl⟩) hS (fun q _ h => mL (L' := [8, 5, 15, 11, 10, 9]) (L := [8, 5, 15, 11, 10, 9]) (by decide) h) (fun q h => mL (L' := [8, 5, 15, 11, 10, 9]) (L := [8, 5, 15, 11, 10, 9]) (by decide) h) (fun r_69 U_70 t H locs ht hvm hwr_69 hB hz hk hS => ?_)
        have hT : TX E G U_70 R H := by rw [ht] at hB; exact hB
        have hWr_69 : TW G U_70 R := hwr_69.1
        have hW := hWr_69
        have hFr_69 : Fr G [8, 5, 15, 11, 10, 9] U_52 U_70 := hwr_69.2.1
        have hbr_69 : r_69 = 0 ∨ r_69 = 1 := hwr_69.2.2.1
        have hCr_69 : C_X3_failsByTime G U_52 R (R (R h0 1) 3) U_70 r_69 := hwr_69.2.2.2
        have hzr_69 := s_rng hbr_69
        refine lv_if_eq (tgt := 24) hx hb dX9_tick_18 (by decide) (fun c_71 => ?_) (fun c_71 => ?_)
        · simp only [lt_I, le_I, eq_I, i_0, i_1, i_2, i_3, i_4, i_5, i_6, i_7, i_8, i_10, i_12, i_16, i_20, i_23, i_24, i_31, i_32, i_63, i_64, i_m1] at c_71
          refine lv_iinc (v := 4) (lv' := [(2, .int 4), (1, .int 2), (0, .ref h0)]) hx hb dX9_tick_24 hl (k := 0) rfl (by decide) (by decide) rfl (fun ls hl => ?_)
          refine lv_goto (tgt := 4) hx hb dX9_tick_27 (by decide) ?_
          refine lv_iload_n hx hb dX9_tick_4 rfl (lv_at hl 0 rfl) ?_
          refine lv_iconst (v := 4) hx hb dX9_tick_5 (by decide) ?_
          refine lv_icmp_ge (tgt := 30) hx hb dX9_tick_6 (by decide) (fun c_72 => ?_) (fun c_72 => absurd c_72 (by decide))
          refine lv_iload_n hx hb dX9_tick_30 rfl (lv_at hl 1 rfl) ?_
          exact W.iret (v := 2) hx hb hr (fun t ht hW9 => ⟨⟨2, U_70, rfl, ⟨hW, (Fr.c (Fr.c (Fr.c (Fr.c Fr.rf hFr_7 (by decide)) hFr_15 (by decide)) hFr_51 (by decide)) hFr_69 (by decide)), (Or.inr (Or.inr (Or.inr (Or.inr (Or.inr (Or.inr (Or.inl ⟨r_7, U_8, hFr_7, hCr_7, c_9, r_15, U_16, hFr_15, hCr_15, c_17, r_51, U_52, hFr_51, hCr_51, c_53, r_69, U_70, hFr_69, hCr_69, c_71, rfl, rfl⟩)))))))⟩, (by show TX E G U_70 R t.heap; rw [ht]; exact hT)⟩, hS.F ht⟩) hS.2.2 dX9_tick_31
        · simp only [lt_I, le_I, eq_I, i_0, i_1, i_2, i_3, i_4, i_5, i_6, i_7, i_8, i_10, i_12, i_16, i_20, i_23, i_24, i_31, i_32, i_63, i_64, i_m1] at c_71
          refine lv_iinc (v := 3) (lv' := [(1, .int 3), (2, .int 3), (0, .ref h0)]) hx hb dX9_tick_21 hl (k := 1) rfl (by decide) (by decide) rfl (fun ls hl => ?_)
          refine lv_iinc (v := 4) (lv' := [(2, .int 4), (1, .int 3), (0, .ref h0)]) hx hb dX9_tick_24 hl (k := 1) rfl (by decide) (by decide) rfl (fun ls hl => ?_)
          refine lv_goto (tgt := 4) hx hb dX9_tick_27 (by decide) ?_
          refine lv_iload_n hx hb dX9_tick_4 rfl (lv_at hl 0 rfl) ?_
          refine lv_iconst (v := 4) hx hb dX9_tick_5 (by decide) ?_
          refine lv_icmp_ge (tgt := 30) hx hb dX9_tick_6 (by decide) (fun c_73 => ?_) (fun c_73 => absurd c_73 (by decide))
          refine lv_iload_n hx hb dX9_tick_30 rfl (lv_at hl 1 rfl) ?_
          exact W.iret (v := 3) hx hb hr (fun t ht hW9 => ⟨⟨3, U_70, rfl, ⟨hW, (Fr.c (Fr.c (Fr.c (Fr.c Fr.rf hFr_7 (by decide)) hFr_15 (by decide)) hFr_51 (by decide)) hFr_69 (by decide)), (Or.inr (Or.inr (Or.inr (Or.inr (Or.inr (Or.inr (Or.inr (Or.inl ⟨r_7, U_8, hFr_7, hCr_7, c_9, r_15, U_16, hFr_15, hCr_15, c_17, r_51, U_52, hFr_51, hCr_51, c_53, r_69, U_70, hFr_69, hCr_69, c_71, rfl, rfl⟩))))))))⟩, (by show TX E G U_70 R t.heap; rw [ht]; exact hT)⟩, hS.F ht⟩) hS.2.2 dX9_tick_31
  · simp only [lt_I, le_I, eq_I, i_0, i_1, i_2, i_3, i_4, i_5, i_6, i_7, i_8, i_10, i_12, i_16, i_20, i_23, i_24, i_31, i_32, i_63, i_64, i_m1] at c_9
    refine lv_iinc (v := 1) (lv' := [(1, .int 1), (2, .int 0), (0, .ref h0)]) hx hb dX9_tick_21 hl (k := 1) rfl (by decide) (by decide) rfl (fun ls hl => ?_)
    refine lv_iinc (v := 1) (lv' := [(2, .int 1), (1, .int 1), (0, .ref h0)]) hx hb dX9_tick_24 hl (k := 1) rfl (by decide) (by decide) rfl (fun ls hl => ?_)
    refine lv_goto (tgt := 4) hx hb dX9_tick_27 (by decide) ?_
    refine lv_iload_n hx hb dX9_tick_4 rfl (lv_at hl 0 rfl) ?_
    refine lv_iconst (v := 4) hx hb dX9_tick_5 (by decide) ?_
    refine lv_icmp_ge (tgt := 30) hx hb dX9_tick_6 (by decide) (fun c_74 => absurd c_74 (by decide)) (fun c_74 => ?_)
    refine lv_aload_n hx hb dX9_tick_9 rfl (lv_at hl 2 rfl) ?_
    have ha_75 := tx_1 hT hG
    refine va_get (D := DG E) (ci := 9) (v := .ref (R h0 1)) (C := RX9) (T := TX9) (N := 3) hx hb hts iw_X9 hown hK.1 (va_one ha_75) 0 rfl rfl 1 (by decide) (hts _ fl_X9_29) (fun _ h9 => h9) rfl dX9_tick_10 ?_
    refine lv_iload_n hx hb dX9_tick_13 rfl (lv_at hl 0 rfl) ?_
    have ha_76 := tx_3 hT hg_3
    have hg_77 : G (R (R h0 1) 1) = 8 := (tw_3 hW hg_3) 1 (by decide)
    refine va_aldq (D := DG E) hx hb hK.1 (va_one ha_76) 0 5 rfl rfl (show vp_in (1) 4 from vp_in_iff.mpr ⟨by decide, by decide⟩) dX9_tick_14 ?_
    refine W.eq (g2 := F0 m 15 ls [.ref (R (R h0 1) 1)]) (by rfl) ?_
    have ha_78 := tx_8 hT hg_77
    refine va_calli (rnV (fun H => TX E G U_8 R H) (As := []) (rest := []) ⟨hx, hb, hml, hown, hts⟩ (x_X3_failsByTime l E z0 G hGz U_8 R hW (R (R h0 1) 1) hg_77) (cwV 0 hts (gdV ml_X9_162 im_X3_failsByTime se_X3_X3_failsByTime in_X3 co_X3_failsByTime rfl) rfl rfl rfl (by decide +kernel) ⟨Nat.le_of_ble_eq_true rfl, Nat.le_of_ble_eq_true rfl⟩) hT (fun U hU hW => hK.go hW hS hAz hU) (va_recv hK.1 (va_one ha_78) (ci := 3) (q0 := 0) rfl rfl) rfl rfl hl.1 rfl (lv_room (Nat.le_of_ble_eq_true rfl)) dX9_tick_15 ⟨Nat.le_of_ble_eq_true rfl, Nat.le_of_ble_eq_true rfl⟩) hS (fun q _ h => mL (L' := [8, 5, 15, 11, 10, 9]) (L := [8, 5, 15, 11, 10, 9]) (by decide) h) (fun q h => mL (L' := [8, 5, 15, 11, 10, 9]) (L := [8, 5, 15, 11, 10, 9]) (by decide) h) (fun r_79 U_80 t H locs ht hvm hwr_79 hB hz hk hS => ?_)
    have hT : TX E G U_80 R H := by rw [ht] at hB; exact hB
    have hWr_79 : TW G U_80 R := hwr_79.1
    have hW := hWr_79
    have hFr_79 : Fr G [8, 5, 15, 11, 10, 9] U_8 U_80 := hwr_79.2.1
    have hbr_79 : r_79 = 0 ∨ r_79 = 1 := hwr_79.2.2.1
    have hCr_79 : C_X3_failsByTime G U_8 R (R (R h0 1) 1) U_80 r_79 := hwr_79.2.2.2
    have hzr_79 := s_rng hbr_79
    refine lv_if_eq (tgt := 24) hx hb dX9_tick_18 (by decide) (fun c_81 => ?_) (fun c_81 => ?_)
    · simp only [lt_I, le_I, eq_I, i_0, i_1, i_2, i_3, i_4, i_5, i_6, i_7, i_8, i_10, i_12, i_16, i_20, i_23, i_24, i_31, i_32, i_63, i_64, i_m1] at c_81
      refine lv_iinc (v := 2) (lv' := [(2, .int 2), (1, .int 1), (0, .ref h0)]) hx hb dX9_tick_24 hl (k := 0) rfl (by decide) (by decide) rfl (fun ls hl => ?_)
      refine lv_goto (tgt := 4) hx hb dX9_tick_27 (by decide) ?_
      refine lv_iload_n hx hb dX9_tick_4 rfl (lv_at hl 0 rfl) ?_
      refine lv_iconst (v := 4) hx hb dX9_tick_5 (by decide) ?_
      refine lv_icmp_ge (tgt := 30) hx hb dX9_tick_6 (by decide) (fun c_82 => absurd c_82 (by decide)) (fun c_82 => ?_)
      refine lv_aload_n hx hb dX9_tick_9 rfl (lv_at hl 2 rfl) ?_
      have ha_83 := tx_1 hT hG
      refine va_get (D := DG E) (ci := 9) (v := .ref (R h0 1)) (C := RX9) (T := TX9) (N := 3) hx hb hts iw_X9 hown hK.1 (va_one ha_83) 0 rfl rfl 1 (by decide) (hts _ fl_X9_29) (fun _ h9 => h9) rfl dX9_tick_10 ?_
      refine lv_iload_n hx hb dX9_tick_13 rfl (lv_at hl 0 rfl) ?_
      have ha_84 := tx_3 hT hg_3
      have hg_85 : G (R (R h0 1) 2) = 8 := (tw_3 hW hg_3) 2 (by decide)
      refine va_aldq (D := DG E) hx hb hK.1 (va_one ha_84) 0 5 rfl rfl (show vp_in (2) 4 from vp_in_iff.mpr ⟨by decide, by decide⟩) dX9_tick_14 ?_
      refine W.eq (g2 := F0 m 15 ls [.ref (R (R h0 1) 2)]) (by rfl) ?_
      have ha_86 := tx_8 hT hg_85
      refine va_calli (rnV (fun H => TX E G U_80 R H) (As := []) (rest := []) ⟨hx, hb, hml, hown, hts⟩ (x_X3_failsByTime l E z0 G hGz U_80 R hW (R (R h0 1) 2) hg_85) (cwV 0 hts (gdV ml_X9_162 im_X3_failsByTime se_X3_X3_failsByTime in_X3 co_X3_failsByTime rfl) rfl rfl rfl (by decide +kernel) ⟨Nat.le_of_ble_eq_true rfl, Nat.le_of_ble_eq_true rfl⟩) hT (fun U hU hW => hK.go hW hS hAz hU) (va_recv hK.1 (va_one ha_86) (ci := 3) (q0 := 0) rfl rfl) rfl rfl hl.1 rfl (lv_room (Nat.le_of_ble_eq_true rfl)) dX9_tick_15 ⟨Nat.le_of_ble_eq_true rfl, Nat.le_of_ble_eq_true rfl⟩) hS (fun q _ h => mL (L' := [8, 5, 15, 11, 10, 9]) (L := [8, 5, 15, 11, 10, 9]) (by decide) h) (fun q h => mL (L' := [8, 5, 15, 11, 10, 9]) (L := [8, 5, 15, 11, 10, 9]) (by decide) h) (fun r_87 U_88 t H locs ht hvm hwr_87 hB hz hk hS => ?_)
      have hT : TX E G U_88 R H := by rw [ht] at hB; exact hB
      have hWr_87 : TW G U_88 R := hwr_87.1
      have hW := hWr_87
      have hFr_87 : Fr G [8, 5, 15, 11, 10, 9] U_80 U_88 := hwr_87.2.1
      have hbr_87 : r_87 = 0 ∨ r_87 = 1 := hwr_87.2.2.1
      have hCr_87 : C_X3_failsByTime G U_80 R (R (R h0 1) 2) U_88 r_87 := hwr_87.2.2.2
      have hzr_87 := s_rng hbr_87
      refine lv_if_eq (tgt := 24) hx hb dX9_tick_18 (by decide) (fun c_89 => ?_) (fun c_89 => ?_)
      · simp only [lt_I, le_I, eq_I, i_0, i_1, i_2, i_3, i_4, i_5, i_6, i_7, i_8, i_10, i_12, i_16, i_20, i_23, i_24, i_31, i_32, i_63, i_64, i_m1] at c_89
        refine lv_iinc (v := 3) (lv' := [(2, .int 3), (1, .int 1), (0, .ref h0)]) hx hb dX9_tick_24 hl (k := 0) rfl (by decide) (by decide) rfl (fun ls hl => ?_)
        refine lv_goto (tgt := 4) hx hb dX9_tick_27 (by decide) ?_
        refine lv_iload_n hx hb dX9_tick_4 rfl (lv_at hl 0 rfl) ?_
        refine lv_iconst (v := 4) hx hb dX9_tick_5 (by decide) ?_
        refine lv_icmp_ge (tgt := 30) hx hb dX9_tick_6 (by decide) (fun c_90 => absurd c_90 (by decide)) (fun c_90 => ?_)
        refine lv_aload_n hx hb dX9_tick_9 rfl (lv_at hl 2 rfl) ?_
        have ha_91 := tx_1 hT hG
        refine va_get (D := DG E) (ci := 9) (v := .ref (R h0 1)) (C := RX9) (T := TX9) (N := 3) hx hb hts iw_X9 hown hK.1 (va_one ha_91) 0 rfl rfl 1 (by decide) (hts _ fl_X9_29) (fun _ h9 => h9) rfl dX9_tick_10 ?_
        refine lv_iload_n hx hb dX9_tick_13 rfl (lv_at hl 0 rfl) ?_
        have ha_92 := tx_3 hT hg_3
        have hg_93 : G (R (R h0 1) 3) = 8 := (tw_3 hW hg_3) 3 (by decide)
        refine va_aldq (D := DG E) hx hb hK.1 (va_one ha_92) 0 5 rfl rfl (show vp_in (3) 4 from vp_in_iff.mpr ⟨by decide, by decide⟩) dX9_tick_14 ?_
        refine W.eq (g2 := F0 m 15 ls [.ref (R (R h0 1) 3)]) (by rfl) ?_
        have ha_94 := tx_8 hT hg_93
        refine va_calli (rnV (fun H => TX E G U_88 R H) (As := []) (rest := []) ⟨hx, hb, hml, hown, hts⟩ (x_X3_failsByTime l E z0 G hGz U_88 R hW (R (R h0 1) 3) hg_93) (cwV 0 hts (gdV ml_X9_162 im_X3_failsByTime se_X3_X3_failsByTime in_X3 co_X3_failsByTime rfl) rfl rfl rfl (by decide +kernel) ⟨Nat.le_of_ble_eq_true rfl, Nat.le_of_ble_eq_true rfl⟩) hT (fun U hU hW => hK.go hW hS hAz hU) (va_recv hK.1 (va_one ha_94) (ci := 3) (q0 := 0) rfl rfl) rfl rfl hl.1 rfl (lv_room (Nat.le_of_ble_eq_true rfl)) dX9_tick_15 ⟨Nat.le_of_ble_eq_true rfl, Nat.le_of_ble_eq_true rfl⟩) hS (fun q _ h => mL (L' := [8, 5, 15, 11, 10, 9]) (L := [8, 5, 15, 11, 10, 9]) (by decide) h) (fun q h => mL (L' := [8, 5, 15, 11, 10, 9]) (L := [8, 5, 15, 11, 10, 9]) (by decide) h) (fun r_95 U_96 t H locs ht hvm hwr_95 hB hz hk hS => ?_)
        have hT : TX E G U_96 R H := by rw [ht] at hB; exact hB
        have hWr_95 : TW G U_96 R := hwr_95.1
        have hW := hWr_95
        have hFr_95 : Fr G [8, 5, 15, 11, 10, 9] U_88 U_96 := hwr_95.2.1
        have hbr_95 : r_95 = 0 ∨ r_95 = 1 := hwr_95.2.2.1
        have hCr_95 : C_X3_failsByTime G U_88 R (R (R h0 1) 3) U_96 r_95 := hwr_95.2.2.2
        have hzr_95 := s_rng hbr_95
        refine lv_if_eq (tgt := 24) hx hb dX9_tick_18 (by decide) (fun c_97 => ?_) (fun c_97 => ?_)
        · simp only [lt_I, le_I, eq_I, i_0, i_1, i_2, i_3, i_4, i_5, i_6, i_7, i_8, i_10, i_12, i_16, i_20, i_23, i_24, i_31, i_32, i_63, i_64, i_m1] at c_97
          refine lv_iinc (v := 4) (lv' := [(2, .int 4), (1, .int 1), (0, .ref h0)]) hx hb dX9_tick_24 hl (k := 0) rfl (by decide) (by decide) rfl (fun ls hl => ?_)
          refine lv_goto (tgt := 4) hx hb dX9_tick_27 (by decide) ?_
          refine lv_iload_n hx hb dX9_tick_4 rfl (lv_at hl 0 rfl) ?_
          refine lv_iconst (v := 4) hx hb dX9_tick_5 (by decide) ?_
          refine lv_icmp_ge (tgt := 30) hx hb dX9_tick_6 (by decide) (fun c_98 => ?_) (fun c_98 => absurd c_98 (by decide))
          refine lv_iload_n hx hb dX9_tick_30 rfl (lv_at hl 1 rfl) ?_
          exact W.iret (v := 1) hx hb hr (fun t ht hW9 => ⟨⟨1, U_96, rfl, ⟨hW, (Fr.c (Fr.c (Fr.c (Fr.c Fr.rf hFr_7 (by decide)) hFr_79 (by decide)) hFr_87 (by decide)) hFr_95 (by decide)), (Or.inr (Or.inr (Or.inr (Or.inr (Or.inr (Or.inr (Or.inr (Or.inr (Or.inl ⟨r_7, U_8, hFr_7, hCr_7, c_9, r_79, U_80, hFr_79, hCr_79, c_81, r_87, U_88, hFr_87, hCr_87, c_89, r_95, U_96, hFr_95, hCr_95, c_97, rfl, rfl⟩)))))))))⟩, (by show TX E G U_96 R t.heap; rw [ht]; exact hT)⟩, hS.F ht⟩) hS.2.2 dX9_tick_31
        · simp only [lt_I, le_I, eq_I, i_0, i_1, i_2, i_3, i_4, i_5, i_6, i_7, i_8, i_10, i_12, i_16, i_20, i_23, i_24, i_31, i_32, i_63, i_64, i_m1] at c_97
          refine lv_iinc (v := 2) (lv' := [(1, .int 2), (2, .int 3), (0, .ref h0)]) hx hb dX9_tick_21 hl (k := 1) rfl (by decide) (by decide) rfl (fun ls hl => ?_)
          refine lv_iinc (v := 4) (lv' := [(2, .int 4), (1, .int 2), (0, .ref h0)]) hx hb dX9_tick_24 hl (k := 1) rfl (by decide) (by decide) rfl (fun ls hl => ?_)
          refine lv_goto (tgt := 4) hx hb dX9_tick_27 (by decide) ?_
          refine lv_iload_n hx hb dX9_tick_4 rfl (lv_at hl 0 rfl) ?_
          refine lv_iconst (v := 4) hx hb dX9_tick_5 (by decide) ?_
          refine lv_icmp_ge (tgt := 30) hx hb dX9_tick_6 (by decide) (fun c_99 => ?_) (fun c_99 => absurd c_99 (by decide))
          refine lv_iload_n hx hb dX9_tick_30 rfl (lv_at hl 1 rfl) ?_
          exact W.iret (v := 2) hx hb hr (fun t ht hW9 => ⟨⟨2, U_96, rfl, ⟨hW, (Fr.c (Fr.c (Fr.c (Fr.c Fr.rf hFr_7 (by decide)) hFr_79 (by decide)) hFr_87 (by decide)) hFr_95 (by decide)), (Or.inr (Or.inr (Or.inr (Or.inr (Or.inr (Or.inr (Or.inr (Or.inr (Or.inr (Or.inl ⟨r_7, U_8, hFr_7, hCr_7, c_9, r_79, U_80, hFr_79, hCr_79, c_81, r_87, U_88, hFr_87, hCr_87, c_89, r_95, U_96, hFr_95, hCr_95, c_97, rfl, rfl⟩))))))))))⟩, (by show TX E G U_96 R t.heap; rw [ht]; exact hT)⟩, hS.F ht⟩) hS.2.2 dX9_tick_31
      · simp only [lt_I, le_I, eq_I, i_0, i_1, i_2, i_3, i_4, i_5, i_6, i_7, i_8, i_10, i_12, i_16, i_20, i_23, i_24, i_31, i_32, i_63, i_64, i_m1] at c_89
        refine lv_iinc (v := 2) (lv' := [(1, .int 2), (2, .int 2), (0, .ref h0)]) hx hb dX9_tick_21 hl (k := 1) rfl (by decide) (by decide) rfl (fun ls hl => ?_)
        refine lv_iinc (v := 3) (lv' := [(2, .int 3), (1, .int 2), (0, .ref h0)]) hx hb dX9_tick_24 hl (k := 1) rfl (by decide) (by decide) rfl (fun ls hl => ?_)
        refine lv_goto (tgt := 4) hx hb dX9_tick_27 (by decide) ?_
        refine lv_iload_n hx hb dX9_tick_4 rfl (lv_at hl 0 rfl) ?_
        refine lv_iconst (v := 4) hx hb dX9_tick_5 (by decide) ?_
        refine lv_icmp_ge (tgt := 30) hx hb dX9_tick_6 (by decide) (fun c_100 => absurd c_100 (by decide)) (fun c_100 => ?_)
        refine lv_aload_n hx hb dX9_tick_9 rfl (lv_at hl 2 rfl) ?_
        have ha_101 := tx_1 hT hG
        refine va_get (D := DG E) (ci := 9) (v := .ref (R h0 1)) (C := RX9) (T := TX9) (N := 3) hx hb hts iw_X9 hown hK.1 (va_one ha_101) 0 rfl rfl 1 (by decide) (hts _ fl_X9_29) (fun _ h9 => h9) rfl dX9_tick_10 ?_
        refine lv_iload_n hx hb dX9_tick_13 rfl (lv_at hl 0 rfl) ?_
        have ha_102 := tx_3 hT hg_3
        have hg_103 : G (R (R h0 1) 3) = 8 := (tw_3 hW hg_3) 3 (by decide)
        refine va_aldq (D := DG E) hx hb hK.1 (va_one ha_102) 0 5 rfl rfl (show vp_in (3) 4 from vp_in_iff.mpr ⟨by decide, by decide⟩) dX9_tick_14 ?_
        refine W.eq (g2 := F0 m 15 ls [.ref (R (R h0 1) 3)]) (by rfl) ?_
        have ha_104 := tx_8 hT hg_103
        refine va_calli (rnV (fun H => TX E G U_88 R H) (As := []) (rest := []) ⟨hx, hb, hml, hown, hts⟩ (x_X3_failsByTime l E z0 G hGz U_88 R hW (R (R h0 1) 3) hg_103) (cwV 0 hts (gdV ml_X9_162 im_X3_failsByTime se_X3_X3_failsByTime in_X3 co_X3_failsByTime rfl) rfl rfl rfl (by decide +kernel) ⟨Nat.le_of_ble_eq_true rfl, Nat.le_of_ble_eq_true rfl⟩) hT (fun U hU hW => hK.go hW hS hAz hU) (va_recv hK.1 (va_one ha_104) (ci := 3) (q0 := 0) rfl rfl) rfl rfl hl.1 rfl (lv_room (Nat.le_of_ble_eq_true rfl)) dX9_tick_15 ⟨Nat.le_of_ble_eq_true rfl, Nat.le_of_ble_eq_true rfl⟩) hS (fun q _ h => mL (L' := [8, 5, 15, 11, 10, 9]) (L := [8, 5, 15, 11, 10, 9]) (by decide) h) (fun q h => mL (L' := [8, 5, 15, 11, 10, 9]) (L := [8, 5, 15, 11, 10, 9]) (by decide) h) (fun r_105 U_106 t H locs ht hvm hwr_105 hB hz hk hS => ?_)
        have hT : TX E G U_106 R H := by rw [ht] at hB; exact hB
        have hWr_105 : TW G U_106 R := hwr_105.1
        have hW := hWr_105
        have hFr_105 : Fr G [8, 5, 15, 11, 10, 9] U_88 U_106 := hwr_105.2.1
        have hbr_105 : r_105 = 0 ∨ r_105 = 1 := hwr_105.2.2.1
        have hCr_105 : C_X3_failsByTime G U_88 R (R (R h0 1) 3) U_106 r_105 := hwr_105.2.2.2
        have hzr_105 := s_rng hbr_105
        refine lv_if_eq (tgt := 24) hx hb dX9_tick_18 (by decide) (fun c_107 => ?_) (fun c_107 => ?_)
        · simp only [lt_I, le_I, eq_I, i_0, i_1, i_2, i_3, i_4, i_5, i_6, i_7, i_8, i_10, i_12, i_16, i_20, i_23, i_24, i_31, i_32, i_63, i_64, i_m1] at c_107
          refine lv_iinc (v := 4) (lv' := [(2, .int 4), (1, .int 2), (0, .ref h0)]) hx hb dX9_tick_24 hl (k := 0) rfl (by decide) (by decide) rfl (fun ls hl => ?_)
          refine lv_goto (tgt := 4) hx hb dX9_tick_27 (by decide) ?_
          refine lv_iload_n hx hb dX9_tick_4 rfl (lv_at hl 0 rfl) ?_
          refine lv_iconst (v := 4) hx hb dX9_tick_5 (by decide) ?_
          refine lv_icmp_ge (tgt := 30) hx hb dX9_tick_6 (by decide) (fun c_108 => ?_) (fun c_108 => absurd c_108 (by decide))
          refine lv_iload_n hx hb dX9_tick_30 rfl (lv_at hl 1 rfl) ?_
          exact W.iret (v := 2) hx hb hr (fun t ht hW9 => ⟨⟨2, U_106, rfl, ⟨hW, (Fr.c (Fr.c (Fr.c (Fr.c Fr.rf hFr_7 (by decide)) hFr_79 (by decide)) hFr_87 (by decide)) hFr_105 (by decide)), (Or.inr (Or.inr (Or.inr (Or.inr (Or.inr (Or.inr (Or.inr (Or.inr (Or.inr (Or.inr (Or.inl ⟨r_7, U_8, hFr_7, hCr_7, c_9, r_79, U_80, hFr_79, hCr_79, c_81, r_87, U_88, hFr_87, hCr_87, c_89, r_105, U_106, hFr_105, hCr_105, c_107, rfl, rfl⟩)))))))))))⟩, (by show TX E G U_106 R t.heap; rw [ht]; exact hT)⟩, hS.F ht⟩) hS.2.2 dX9_tick_31
        · simp only [lt_I, le_I, eq_I, i_0, i_1, i_2, i_3, i_4, i_5, i_6, i_7, i_8, i_10, i_12, i_16, i_20, i_23, i_24, i_31, i_32, i_63, i_64, i_m1] at c_107
          refine lv_iinc (v := 3) (lv' := [(1, .int 3), (2, .int 3), (0, .ref h0)]) hx hb dX9_tick_21 hl (k := 1) rfl (by decide) (by decide) rfl (fun ls hl => ?_)
          refine lv_iinc (v := 4) (lv' := [(2, .int 4), (1, .int 3), (0, .ref h0)]) hx hb dX9_tick_24 hl (k := 1) rfl (by decide) (by decide) rfl (fun ls hl => ?_)
          refine lv_goto (tgt := 4) hx hb dX9_tick_27 (by decide) ?_
          refine lv_iload_n hx hb dX9_tick_4 rfl (lv_at hl 0 rfl) ?_
          refine lv_iconst (v := 4) hx hb dX9_tick_5 (by decide) ?_
          refine lv_icmp_ge (tgt := 30) hx hb dX9_tick_6 (by decide) (fun c_109 => ?_) (fun c_109 => absurd c_109 (by decide))
          refine lv_iload_n hx hb dX9_tick_30 rfl (lv_at hl 1 rfl) ?_
          exact W.iret (v := 3) hx hb hr (fun t ht hW9 => ⟨⟨3, U_106, rfl, ⟨hW, (Fr.c (Fr.c (Fr.c (Fr.c Fr.rf hFr_7 (by decide)) hFr_79 (by decide)) hFr_87 (by decide)) hFr_105 (by decide)), (Or.inr (Or.inr (Or.inr (Or.inr (Or.inr (Or.inr (Or.inr (Or.inr (Or.inr (Or.inr (Or.inr (Or.inl ⟨r_7, U_8, hFr_7, hCr_7, c_9, r_79, U_80, hFr_79, hCr_79, c_81, r_87, U_88, hFr_87, hCr_87, c_89, r_105, U_106, hFr_105, hCr_105, c_107, rfl, rfl⟩))))))))))))⟩, (by show TX E G U_106 R t.heap; rw [ht]; exact hT)⟩, hS.F ht⟩) hS.2.2 dX9_tick_31
    · simp only [lt_I, le_I, eq_I, i_0, i_1, i_2, i_3, i_4, i_5, i_6, i_7, i_8, i_10, i_12, i_16, i_20, i_23, i_24, i_31, i_32, i_63, i_64, i_m1] at c_81
      refine lv_iinc (v := 2) (lv' := [(1, .int 2), (2, .int 1), (0, .ref h0)]) hx hb dX9_tick_21 hl (k := 1) rfl (by decide) (by decide) rfl (fun ls hl => ?_)
      refine lv_iinc (v := 2) (lv' := [(2, .int 2), (1, .int 2), (0, .ref h0)]) hx hb dX9_tick_24 hl (k := 1) rfl (by decide) (by decide) rfl (fun ls hl => ?_)
      refine lv_goto (tgt := 4) hx hb dX9_tick_27 (by decide) ?_
      refine lv_iload_n hx hb dX9_tick_4 rfl (lv_at hl 0 rfl) ?_
      refine lv_iconst (v := 4) hx hb dX9_tick_5 (by decide) ?_
      refine lv_icmp_ge (tgt := 30) hx hb dX9_tick_6 (by decide) (fun c_110 => absurd c_110 (by decide)) (fun c_110 => ?_)
      refine lv_aload_n hx hb dX9_tick_9 rfl (lv_at hl 2 rfl) ?_
      have ha_111 := tx_1 hT hG
      refine va_get (D := DG E) (ci := 9) (v := .ref (R h0 1)) (C := RX9) (T := TX9) (N := 3) hx hb hts iw_X9 hown hK.1 (va_one ha_111) 0 rfl rfl 1 (by decide) (hts _ fl_X9_29) (fun _ h9 => h9) rfl dX9_tick_10 ?_
      refine lv_iload_n hx hb dX9_tick_13 rfl (lv_at hl 0 rfl) ?_
      have ha_112 := tx_3 hT hg_3
      have hg_113 : G (R (R h0 1) 2) = 8 := (tw_3 hW hg_3) 2 (by decide)
      refine va_aldq (D := DG E) hx hb hK.1 (va_one ha_112) 0 5 rfl rfl (show vp_in (2) 4 from vp_in_iff.mpr ⟨by decide, by decide⟩) dX9_tick_14 ?_
      refine W.eq (g2 := F0 m 15 ls [.ref (R (R h0 1) 2)]) (by rfl) ?_
      have ha_114 := tx_8 hT hg_113
      refine va_calli (rnV (fun H => TX E G U_80 R H) (As := []) (rest := []) ⟨hx, hb, hml, hown, hts⟩ (x_X3_failsByTime l E z0 G hGz U_80 R hW (R (R h0 1) 2) hg_113) (cwV 0 hts (gdV ml_X9_162 im_X3_failsByTime se_X3_X3_failsByTime in_X3 co_X3_failsByTime rfl) rfl rfl rfl (by decide +kernel) ⟨Nat.le_of_ble_eq_true rfl, Nat.le_of_ble_eq_true rfl⟩) hT (fun U hU hW => hK.go hW hS hAz hU) (va_recv hK.1 (va_one ha_114) (ci := 3) (q0 := 0) rfl rfl) rfl rfl hl.1 rfl (lv_room (Nat.le_of_ble_eq_true rfl)) dX9_tick_15 ⟨Nat.le_of_ble_eq_true rfl, Nat.le_of_ble_eq_true rfl⟩) hS (fun q _ h => mL (L' := [8, 5, 15, 11, 10, 9]) (L := [8, 5, 15, 11, 10, 9]) (by decide) h) (fun q h => mL (L' := [8, 5, 15, 11, 10, 9]) (L := [8, 5, 15, 11, 10, 9]) (by decide) h) (fun r_115 U_116 t H locs ht hvm hwr_115 hB hz hk hS => ?_)
      have hT : TX E G U_116 R H := by rw [ht] at hB; exact hB
      have hWr_115 : TW G U_116 R := hwr_115.1
      have hW := hWr_115
      have hFr_115 : Fr G [8, 5, 15, 11, 10, 9] U_80 U_116 := hwr_115.2.1
      have hbr_115 : r_115 = 0 ∨ r_115 = 1 := hwr_115.2.2.1
      have hCr_115 : C_X3_failsByTime G U_80 R (R (R h0 1) 2) U_116 r_115 := hwr_115.2.2.2
      have hzr_115 := s_rng hbr_115
      refine lv_if_eq (tgt := 24) hx hb dX9_tick_18 (by decide) (fun c_117 => ?_) (fun c_117 => ?_)
      · simp only [lt_I, le_I, eq_I, i_0, i_1, i_2, i_3, i_4, i_5, i_6, i_7, i_8, i_10, i_12, i_16, i_20, i_23, i_24, i_31, i_32, i_63, i_64, i_m1] at c_117
        refine lv_iinc (v := 3) (lv' := [(2, .int 3), (1, .int 2), (0, .ref h0)]) hx hb dX9_tick_24 hl (k := 0) rfl (by decide) (by decide) rfl (fun ls hl => ?_)
        refine lv_goto (tgt := 4) hx hb dX9_tick_27 (by decide) ?_
        refine lv_iload_n hx hb dX9_tick_4 rfl (lv_at hl 0 rfl) ?_
        refine lv_iconst (v := 4) hx hb dX9_tick_5 (by decide) ?_
        refine lv_icmp_ge (tgt := 30) hx hb dX9_tick_6 (by decide) (fun c_118 => absurd c_118 (by decide)) (fun c_118 => ?_)
        refine lv_aload_n hx hb dX9_tick_9 rfl (lv_at hl 2 rfl) ?_
        have ha_119 := tx_1 hT hG
        refine va_get (D := DG E) (ci := 9) (v := .ref (R h0 1)) (C := RX9) (T := TX9) (N := 3) hx hb hts iw_X9 hown hK.1 (va_one ha_119) 0 rfl rfl 1 (by decide) (hts _ fl_X9_29) (fun _ h9 => h9) rfl dX9_tick_10 ?_
        refine lv_iload_n hx hb dX9_tick_13 rfl (lv_at hl 0 rfl) ?_
        have ha_120 := tx_3 hT hg_3
        have hg_121 : G (R (R h0 1) 3) = 8 := (tw_3 hW hg_3) 3 (by decide)
        refine va_aldq (D := DG E) hx hb hK.1 (va_one ha_120) 0 5 rfl rfl (show vp_in (3) 4 from vp_in_iff.mpr ⟨by decide, by decide⟩) dX9_tick_14 ?_
        refine W.eq (g2 := F0 m 15 ls [.ref (R (R h0 1) 3)]) (by rfl) ?_
        have ha_122 := tx_8 hT hg_121
        refine va_calli (rnV (fun H => TX E G U_116 R H) (As := []) (rest := []) ⟨hx, hb, hml, hown, hts⟩ (x_X3_failsByTime l E z0 G hGz U_116 R hW (R (R h0 1) 3) hg_121) (cwV 0 hts (gdV ml_X9_162 im_X3_failsByTime se_X3_X3_failsByTime in_X3 co_X3_failsByTime rfl) rfl rfl rfl (by decide +kernel) ⟨Nat.le_of_ble_eq_true rfl, Nat.le_of_ble_eq_true rfl⟩) hT (fun U hU hW => hK.go hW hS hAz hU) (va_recv hK.1 (va_one ha_122) (ci := 3) (q0 := 0) rfl rfl) rfl rfl hl.1 rfl (lv_room (Nat.le_of_ble_eq_true rfl)) dX9_tick_15 ⟨Nat.le_of_ble_eq_true rfl, Nat.le_of_ble_eq_true rfl⟩) hS (fun q _ h => mL (L' := [8, 5, 15, 11, 10, 9]) (L := [8, 5, 15, 11, 10, 9]) (by decide) h) (fun q h => mL (L' := [8, 5, 15, 11, 10, 9]) (L := [8, 5, 15, 11, 10, 9]) (by decide) h) (fun r_123 U_124 t H locs ht hvm hwr_123 hB hz hk hS => ?_)
        have hT : TX E G U_124 R H := by rw [ht] at hB; exact hB
        have hWr_123 : TW G U_124 R := hwr_123.1
        have hW := hWr_123
        have hFr_123 : Fr G [8, 5, 15, 11, 10, 9] U_116 U_124 := hwr_123.2.1
        have hbr_123 : r_123 = 0 ∨ r_123 = 1 := hwr_123.2.2.1
        have hCr_123 : C_X3_failsByTime G U_116 R (R (R h0 1) 3) U_124 r_123 := hwr_123.2.2.2
        have hzr_123 := s_rng hbr_123
        refine lv_if_eq (tgt := 24) hx hb dX9_tick_18 (by decide) (fun c_125 => ?_) (fun c_125 => ?_)
        · simp only [lt_I, le_I, eq_I, i_0, i_1, i_2, i_3, i_4, i_5, i_6, i_7, i_8, i_10, i_12, i_16, i_20, i_23, i_24, i_31, i_32, i_63, i_64, i_m1] at c_125
          refine lv_iinc (v := 4) (lv' := [(2, .int 4), (1, .int 2), (0, .ref h0)]) hx hb dX9_tick_24 hl (k := 0) rfl (by decide) (by decide) rfl (fun ls hl => ?_)
          refine lv_goto (tgt := 4) hx hb dX9_tick_27 (by decide) ?_
          refine lv_iload_n hx hb dX9_tick_4 rfl (lv_at hl 0 rfl) ?_
          refine lv_iconst (v := 4) hx hb dX9_tick_5 (by decide) ?_
          refine lv_icmp_ge (tgt := 30) hx hb dX9_tick_6 (by decide) (fun c_126 => ?_) (fun c_126 => absurd c_126 (by decide))
          refine lv_iload_n hx hb dX9_tick_30 rfl (lv_at hl 1 rfl) ?_
          exact W.iret (v := 2) hx hb hr (fun t ht hW9 => ⟨⟨2, U_124, rfl, ⟨hW, (Fr.c (Fr.c (Fr.c (Fr.c Fr.rf hFr_7 (by decide)) hFr_79 (by decide)) hFr_115 (by decide)) hFr_123 (by decide)), (Or.inr (Or.inr (Or.inr (Or.inr (Or.inr (Or.inr (Or.inr (Or.inr (Or.inr (Or.inr (Or.inr (Or.inr (Or.inl ⟨r_7, U_8, hFr_7, hCr_7, c_9, r_79, U_80, hFr_79, hCr_79, c_81, r_115, U_116, hFr_115, hCr_115, c_117, r_123, U_124, hFr_123, hCr_123, c_125, rfl, rfl⟩)))))))))))))⟩, (by show TX E G U_124 R t.heap; rw [ht]; exact hT)⟩, hS.F ht⟩) hS.2.2 dX9_tick_31
        · simp only [lt_I, le_I, eq_I, i_0, i_1, i_2, i_3, i_4, i_5, i_6, i_7, i_8, i_10, i_12, i_16, i_20, i_23, i_24, i_31, i_32, i_63, i_64, i_m1] at c_125
          refine lv_iinc (v := 3) (lv' := [(1, .int 3), (2, .int 3), (0, .ref h0)]) hx hb dX9_tick_21 hl (k := 1) rfl (by decide) (by decide) rfl (fun ls hl => ?_)
          refine lv_iinc (v := 4) (lv' := [(2, .int 4), (1, .int 3), (0, .ref h0)]) hx hb dX9_tick_24 hl (k := 1) rfl (by decide) (by decide) rfl (fun ls hl => ?_)
          refine lv_goto (tgt := 4) hx hb dX9_tick_27 (by decide) ?_
          refine lv_iload_n hx hb dX9_tick_4 rfl (lv_at hl 0 rfl) ?_
          refine lv_iconst (v := 4) hx hb dX9_tick_5 (by decide) ?_
          refine lv_icmp_ge (tgt := 30) hx hb dX9_tick_6 (by decide) (fun c_127 => ?_) (fun c_127 => absurd c_127 (by decide))
          refine lv_iload_n hx hb dX9_tick_30 rfl (lv_at hl 1 rfl) ?_
          exact W.iret (v := 3) hx hb hr (fun t ht hW9 => ⟨⟨3, U_124, rfl, ⟨hW, (Fr.c (Fr.c (Fr.c (Fr.c Fr.rf hFr_7 (by decide)) hFr_79 (by decide)) hFr_115 (by decide)) hFr_123 (by decide)), (Or.inr (Or.inr (Or.inr (Or.inr (Or.inr (Or.inr (Or.inr (Or.inr (Or.inr (Or.inr (Or.inr (Or.inr (Or.inr (Or.inl ⟨r_7, U_8, hFr_7, hCr_7, c_9, r_79, U_80, hFr_79, hCr_79, c_81, r_115, U_116, hFr_115, hCr_115, c_117, r_123, U_124, hFr_123, hCr_123, c_125, rfl, rfl⟩))))))))))))))⟩, (by show TX E G U_124 R t.heap; rw [ht]; exact hT)⟩, hS.F ht⟩) hS.2.2 dX9_tick_31
      · simp only [lt_I, le_I, eq_I, i_0, i_1, i_2, i_3, i_4, i_5, i_6, i_7, i_8, i_10, i_12, i_16, i_20, i_23, i_24, i_31, i_32, i_63, i_64, i_m1] at c_117
        refine lv_iinc (v := 3) (lv' := [(1, .int 3), (2, .int 2), (0, .ref h0)]) hx hb dX9_tick_21 hl (k := 1) rfl (by decide) (by decide) rfl (fun ls hl => ?_)
        refine lv_iinc (v := 3) (lv' := [(2, .int 3), (1, .int 3), (0, .ref h0)]) hx hb dX9_tick_24 hl (k := 1) rfl (by decide) (by decide) rfl (fun ls hl => ?_)
        refine lv_goto (tgt := 4) hx hb dX9_tick_27 (by decide) ?_
        refine lv_iload_n hx hb dX9_tick_4 rfl (lv_at hl 0 rfl) ?_
        refine lv_iconst (v := 4) hx hb dX9_tick_5 (by decide) ?_
        refine lv_icmp_ge (tgt := 30) hx hb dX9_tick_6 (by decide) (fun c_128 => absurd c_128 (by decide)) (fun c_128 => ?_)
        refine lv_aload_n hx hb dX9_tick_9 rfl (lv_at hl 2 rfl) ?_
        have ha_129 := tx_1 hT hG
        refine va_get (D := DG E) (ci := 9) (v := .ref (R h0 1)) (C := RX9) (T := TX9) (N := 3) hx hb hts iw_X9 hown hK.1 (va_one ha_129) 0 rfl rfl 1 (by decide) (hts _ fl_X9_29) (fun _ h9 => h9) rfl dX9_tick_10 ?_
        refine lv_iload_n hx hb dX9_tick_13 rfl (lv_at hl 0 rfl) ?_
        have ha_130 := tx_3 hT hg_3
        have hg_131 : G (R (R h0 1) 3) = 8 := (tw_3 hW hg_3) 3 (by decide)
        refine va_aldq (D := DG E) hx hb hK.1 (va_one ha_130) 0 5 rfl rfl (show vp_in (3) 4 from vp_in_iff.mpr ⟨by decide, by decide⟩) dX9_tick_14 ?_
        refine W.eq (g2 := F0 m 15 ls [.ref (R (R h0 1) 3)]) (by rfl) ?_
        have ha_132 := tx_8 hT hg_131
        refine va_calli (rnV (fun H => TX E G U_116 R H) (As := []) (rest := []) ⟨hx, hb, hml, hown, hts⟩ (x_X3_failsByTime l E z0 G hGz U_116 R hW (R (R h0 1) 3) hg_131) (cwV 0 hts (gdV ml_X9_162 im_X3_failsByTime se_X3_X3_failsByTime in_X3 co_X3_failsByTime rfl) rfl rfl rfl (by decide +kernel) ⟨Nat.le_of_ble_eq_true rfl, Nat.le_of_ble_eq_true rfl⟩) hT (fun U hU hW => hK.go hW hS hAz hU) (va_recv hK.1 (va_one ha_132) (ci := 3) (q0 := 0) rfl rfl) rfl rfl hl.1 rfl (lv_room (Nat.le_of_ble_eq_true rfl)) dX9_tick_15 ⟨Nat.le_of_ble_eq_true rfl, Nat.le_of_ble_eq_true rfl⟩) hS (fun q _ h => mL (L' := [8, 5, 15, 11, 10, 9]) (L := [8, 5, 15, 11, 10, 9]) (by decide) h) (fun q h => mL (L' := [8, 5, 15, 11, 10, 9]) (L := [8, 5, 15, 11, 10, 9]) (by decide) h) (fun r_133 U_134 t H locs ht hvm hwr_133 hB hz hk hS => ?_)
        have hT : TX E G U_134 R H := by rw [ht] at hB; exact hB
        have hWr_133 : TW G U_134 R := hwr_133.1
        have hW := hWr_133
        have hFr_133 : Fr G [8, 5, 15, 11, 10, 9] U_116 U_134 := hwr_133.2.1
        have hbr_133 : r_133 = 0 ∨ r_133 = 1 := hwr_133.2.2.1
        have hCr_133 : C_X3_failsByTime G U_116 R (R (R h0 1) 3) U_134 r_133 := hwr_133.2.2.2
        have hzr_133 := s_rng hbr_133
        refine lv_if_eq (tgt := 24) hx hb dX9_tick_18 (by decide) (fun c_135 => ?_) (fun c_135 => ?_)
        · simp only [lt_I, le_I, eq_I, i_0, i_1, i_2, i_3, i_4, i_5, i_6, i_7, i_8, i_10, i_12, i_16, i_20, i_23, i_24, i_31, i_32, i_63, i_64, i_m1] at c_135
          refine lv_iinc (v := 4) (lv' := [(2, .int 4), (1, .int 3), (0, .ref h0)]) hx hb dX9_tick_24 hl (k := 0) rfl (by decide) (by decide) rfl (fun ls hl => ?_)
          refine lv_goto (tgt := 4) hx hb dX9_tick_27 (by decide) ?_
          refine lv_iload_n hx hb dX9_tick_4 rfl (lv_at hl 0 rfl) ?_
          refine lv_iconst (v := 4) hx hb dX9_tick_5 (by decide) ?_
          refine lv_icmp_ge (tgt := 30) hx hb dX9_tick_6 (by decide) (fun c_136 => ?_) (fun c_136 => absurd c_136 (by decide))
          refine lv_iload_n hx hb dX9_tick_30 rfl (lv_at hl 1 rfl) ?_
          exact W.iret (v := 3) hx hb hr (fun t ht hW9 => ⟨⟨3, U_134, rfl, ⟨hW, (Fr.c (Fr.c (Fr.c (Fr.c Fr.rf hFr_7 (by decide)) hFr_79 (by decide)) hFr_115 (by decide)) hFr_133 (by decide)), (Or.inr (Or.inr (Or.inr (Or.inr (Or.inr (Or.inr (Or.inr (Or.inr (Or.inr (Or.inr (Or.inr (Or.inr (Or.inr (Or.inr (Or.inl ⟨r_7, U_8, hFr_7, hCr_7, c_9, r_79, U_80, hFr_79, hCr_79, c_81, r_115, U_116, hFr_115, hCr_115, c_117, r_133, U_134, hFr_133, hCr_133, c_135, rfl, rfl⟩)))))))))))))))⟩, (by show TX E G U_134 R t.heap; rw [ht]; exact hT)⟩, hS.F ht⟩) hS.2.2 dX9_tick_31
        · simp only [lt_I, le_I, eq_I, i_0, i_1, i_2, i_3, i_4, i_5, i_6, i_7, i_8, i_10, i_12, i_16, i_20, i_23, i_24, i_31, i_32, i_63, i_64, i_m1] at c_135
          refine lv_iinc (v := 4) (lv' := [(1, .int 4), (2, .int 3), (0, .ref h0)]) hx hb dX9_tick_21 hl (k := 1) rfl (by decide) (by decide) rfl (fun ls hl => ?_)
          refine lv_iinc (v := 4) (lv' := [(2, .int 4), (1, .int 4), (0, .ref h0)]) hx hb dX9_tick_24 hl (k := 1) rfl (by decide) (by decide) rfl (fun ls hl => ?_)
          refine lv_goto (tgt := 4) hx hb dX9_tick_27 (by decide) ?_
          refine lv_iload_n hx hb dX9_tick_4 rfl (lv_at hl 0 rfl) ?_
          refine lv_iconst (v := 4) hx hb dX9_tick_5 (by decide) ?_
          refine lv_icmp_ge (tgt := 30) hx hb dX9_tick_6 (by decide) (fun c_137 => ?_) (fun c_137 => absurd c_137 (by decide))
          refine lv_iload_n hx hb dX9_tick_30 rfl (lv_at hl 1 rfl) ?_
          exact W.iret (v := 4) hx hb hr (fun t ht hW9 => ⟨⟨4, U_134, rfl, ⟨hW, (Fr.c (Fr.c (Fr.c (Fr.c Fr.rf hFr_7 (by decide)) hFr_79 (by decide)) hFr_115 (by decide)) hFr_133 (by decide)), (Or.inr (Or.inr (Or.inr (Or.inr (Or.inr (Or.inr (Or.inr (Or.inr (Or.inr (Or.inr (Or.inr (Or.inr (Or.inr (Or.inr (Or.inr ⟨r_7, U_8, hFr_7, hCr_7, c_9, r_79, U_80, hFr_79, hCr_79, c_81, r_115, U_116, hFr_115, hCr_115, c_117, r_133, U_134, hFr_133, hCr_133, c_135, rfl, rfl⟩)))))))))))))))⟩, (by show TX E G U_134 R t.heap; rw [ht]; exact hT)⟩, hS.F ht⟩) hS.2.2 dX9_tick_31
theorem dX9_packets_0 : decode cX9_packets 0 = .ok (.aload_n 0, 1) := by decide +kernel
theorem dX9_packets_1 : decode cX9_packets 1 = .ok (.getfield 16, 3) := by decide +kernel
theorem dX9_packets_4 : decode cX9_packets 4 = .ok (.getfield 165, 3) := by decide +kernel
theorem dX9_packets_7 : decode cX9_packets 7 = .ok (.ireturn, 1) := by decide +kernel
set_option maxHeartbeats 8000000 in
set_option maxRecDepth 100000 in
theorem x_X9_packets (l : Launch) (E : EE) (z0 : Nat) (G : Nat → Nat) (hGz : ∀ q, G q ≠ 0 → z0 ≤ q) (B : AA) (R : RR) (hW : TW G B R) (h0 : Nat) (hG : G h0 = 1) : Met l yX9_packets [Cond.code yX9_packets cX9_packets 1 (some .int)] ({ frames := 0, cells := 0, slots := 0, locals := 0 } : Room) (va_Pc [.ref h0] (fun U => TX E G B R U.heap ∧ KS E z0 U)) (va_Qi (fun (r : Int32) (u : Unit) => (C_X9_packets G B R h0 r)) (fun u t => True) (fun _ : Nat => False)) 0 0 (fun _ : Nat => False) := by
  refine Met.ofW (cc := cX9_packets) (maxL := 1) (ret := (some .int)) (by decide) rfl ?_
  intro p e s m args below meth c s₁ B9 hml hv
  obtain ⟨rfl, hT, hK⟩ := hv
  have hx := B9.exec
  have hb := B9.bytes
  have hr := B9.returns
  have hts : ∀ w ∈ TS, w.before ([.ref h0] : List Value).toArray s = true := fun w hw => hK.2.1 w hw _
  have hown : s.vm.findClass RX9 = some m.cls := findClass_of_methodNamed B9.named
  have hlocks := B9.notSynchronized
  have hS : va_S (fun _ : Nat => False) s.heap s.heap [] := va_S.rf
  have hAz : ∀ q, (fun _ : Nat => False) q → z0 ≤ q := fun _ h => h.elim
  have hW_0 := hW
  have hl := lv_entry ([.ref h0]) (n := 1) (Nat.le_of_ble_eq_true rfl)
  rw [lg_entry_eq]
  generalize (lg_sl ([.ref h0]) ++ List.replicate (1 - (lg_sl ([.ref h0])).length) Slot.unset).toArray = ls at hl ⊢
  have hl : lv_has ls 1 [(0, .ref h0)] := hl
  refine lv_aload_n hx hb dX9_packets_0 rfl (lv_at hl 0 rfl) ?_
  have ha_1 := tx_1 hT hG
  have hg_2 : G (R h0 2) = 4 := (tw_1 hW hG).2.2
  refine va_get (D := DG E) (ci := 9) (v := .ref (R h0 2)) (C := RX9) (T := TX9) (N := 3) hx hb hts iw_X9 hown hK.1 (va_one ha_1) 0 rfl rfl 2 (by decide) (hts _ fl_X9_16) (fun _ h9 => h9) rfl dX9_packets_1 ?_
  have ha_3 := tx_4 hT hg_2
  have hb_4 := (tw_4 hW_0 hg_2).2.1
  refine va_get (D := DG E) (ci := 0) (v := .int (B (R h0 2) 1)) (C := RX0) (T := TX0) (N := 4) hx hb hts iw_X0 hown hK.1 (va_one ha_3) 0 rfl rfl 1 (by decide) (hts _ fl_X9_165) (fun _ h9 => h9) rfl dX9_packets_4 ?_
  exact W.iret (v := (B (R h0 2) 1)) hx hb hr (fun t ht hW9 => ⟨⟨(B (R h0 2) 1), (), rfl, rfl, trivial⟩, hS.F ht⟩) hS.2.2 dX9_packets_7
theorem dX9_packet_0 : decode cX9_packet 0 = .ok (.aload_n 0, 1) := by decide +kernel
theorem dX9_packet_1 : decode cX9_packet 1 = .ok (.getfield 16, 3) := by decide +kernel
theorem dX9_packet_4 : decode cX9_packet 4 = .ok (.iload_n 1, 1) := by decide +kernel
theorem dX9_packet_5 : decode cX9_packet 5 = .ok (.invokevirtual 139, 3) := by decide +kernel
theorem dX9_packet_8 : decode cX9_packet 8 = .ok (.ifCond .eq 19, 3) := by decide +kernel
theorem dX9_packet_11 : decode cX9_packet 11 = .ok (.aload_n 0, 1) := by decide +kernel
theorem dX9_packet_12 : decode cX9_packet 12 = .ok (.getfield 16, 3) := by decide +kernel
theorem dX9_packet_15 : decode cX9_packet 15 = .ok (.getfield 168, 3) := by decide +kernel
theorem dX9_packet_18 : decode cX9_packet 18 = .ok (.iload_n 1, 1) := by decide +kernel
theorem dX9_packet_19 : decode cX9_packet 19 = .ok (.aaload, 1) := by decide +kernel
theorem dX9_packet_20 : decode cX9_packet 20 = .ok (.iload_n 2, 1) := by decide +kernel
theorem dX9_packet_21 : decode cX9_packet 21 = .ok (.invokevirtual 172, 3) := by decide +kernel
theorem dX9_packet_24 : decode cX9_packet 24 = .ok (.goto 4, 3) := by decide +kernel
theorem dX9_packet_27 : decode cX9_packet 27 = .ok (.iconst (-1), 1) := by decide +kernel
theorem dX9_packet_28 : decode cX9_packet 28 = .ok (.ireturn, 1) := by decide +kernel
set_option maxHeartbeats 8000000 in
set_option maxRecDepth 100000 in
theorem x_X9_packet (l : Launch) (E : EE) (z0 : Nat) (G : Nat → Nat) (hGz : ∀ q, G q ≠ 0 → z0 ≤ q) (B : AA) (R : RR) (hW : TW G B R) (h0 : Nat) (p0 : Int32) (p1 : Int32) (hG : G h0 = 1) : Met l yX9_packet [Cond.code yX9_packet cX9_packet 3 (some .int)] ({ frames := 1, cells := 0, slots := 0, locals := 21 } : Room) (va_Pc [.ref h0, .int p0, .int p1] (fun U => TX E G B R U.heap ∧ KS E z0 U)) (va_Qi (fun (r : Int32) (u : Unit) => (C_X9_packet G B R h0 p0 p1 r)) (fun u t => True) (fun _ : Nat => False)) 0 0 (fun _ : Nat => False) := by
  refine Met.ofW (cc := cX9_packet) (maxL := 3) (ret := (some .int)) (by decide) rfl ?_
  intro p e s m args below meth c s₁ B9 hml hv
  obtain ⟨rfl, hT, hK⟩ := hv
  have hx := B9.exec
  have hb := B9.bytes
  have hr := B9.returns
  have hts : ∀ w ∈ TS, w.before ([.ref h0, .int p0, .int p1] : List Value).toArray s = true := fun w hw => hK.2.1 w hw _
  have hown : s.vm.findClass RX9 = some m.cls := findClass_of_methodNamed B9.named
  have hlocks := B9.notSynchronized
  have hS : va_S (fun _ : Nat => False) s.heap s.heap [] := va_S.rf
  have hAz : ∀ q, (fun _ : Nat => False) q → z0 ≤ q := fun _ h => h.elim
  have hW_0 := hW
  have hl := lv_entry ([.ref h0, .int p0, .int p1]) (n := 3) (Nat.le_of_ble_eq_true rfl)
  rw [lg_entry_eq]
  generalize (lg_sl ([.ref h0, .int p0, .int p1]) ++ List.replicate (3 - (lg_sl ([.ref h0, .int p0, .int p1])).length) Slot.unset).toArray = ls at hl ⊢
  have hl : lv_has ls 3 [(0, .ref h0), (1, .int p0), (2, .int p1)] := hl
  refine lv_aload_n hx hb dX9_packet_0 rfl (lv_at hl 0 rfl) ?_
  have ha_1 := tx_1 hT hG
  have hg_2 : G (R h0 2) = 4 := (tw_1 hW hG).2.2
  refine va_get (D := DG E) (ci := 9) (v := .ref (R h0 2)) (C := RX9) (T := TX9) (N := 3) hx hb hts iw_X9 hown hK.1 (va_one ha_1) 0 rfl rfl 2 (by decide) (hts _ fl_X9_16) (fun _ h9 => h9) rfl dX9_packet_1 ?_
  refine lv_iload_n hx hb dX9_packet_4 rfl (lv_at hl 1 rfl) ?_
  have ha_3 := tx_4 hT hg_2
  refine va_calli (rnV (fun H => TX E G B R H) (As := [.int p0]) (rest := []) ⟨hx, hb, hml, hown, hts⟩ (x_X0_has l E z0 G hGz B R hW (R h0 2) p0 hg_2) (cwV 1 hts (gdV ml_X9_139 im_X0_has se_X0_X0_has in_X0 co_X0_has rfl) rfl rfl rfl (by decide +kernel) ⟨Nat.le_of_ble_eq_true rfl, Nat.le_of_ble_eq_true rfl⟩) hT (fun U hU hW => hK.go hW hS hAz hU) (va_recv hK.1 (va_one ha_3) (ci := 0) (q0 := 0) rfl rfl) rfl rfl hl.1 rfl (lv_room (Nat.le_of_ble_eq_true rfl)) dX9_packet_5 ⟨Nat.le_of_ble_eq_true rfl, Nat.le_of_ble_eq_true rfl⟩) hS (fun q _ h => h.elim) (fun q h => h.elim) (fun r_4 _ t H locs ht hvm hwr_4 hB hz hk hS => ?_)
  have hT : TX E G B R H := hT.kept (fun q hq => hk q hq (fun h => h))
  have hbr_4 : r_4 = 0 ∨ r_4 = 1 := hwr_4.1
  have hp0r_4 : r_4.toInt = 0 ∨ (0 ≤ p0.toInt ∧ p0.toInt < (B (R h0 2) 1).toInt ∧ (B (R h0 2) 1).toInt ≤ 24) := hwr_4.2.1
  have hCr_4 : C_X0_has G B R (R h0 2) p0 r_4 := hwr_4.2.2
  have hzr_4 := s_rng hbr_4
  refine lv_if_eq (tgt := 27) hx hb dX9_packet_8 (by decide) (fun c_5 => ?_) (fun c_5 => ?_)
  · simp only [lt_I, le_I, eq_I, i_0, i_1, i_2, i_3, i_4, i_5, i_6, i_7, i_8, i_10, i_12, i_16, i_20, i_23, i_24, i_31, i_32, i_63, i_64, i_m1] at c_5
    refine lv_iconst (v := (-1)) hx hb dX9_packet_27 (by decide) ?_
    exact W.iret (v := (-1)) hx hb hr (fun t ht hW9 => ⟨⟨(-1), (), rfl, (Or.inl ⟨r_4, hCr_4, c_5, rfl⟩), trivial⟩, hS.F ht⟩) hS.2.2 dX9_packet_28
  · simp only [lt_I, le_I, eq_I, i_0, i_1, i_2, i_3, i_4, i_5, i_6, i_7, i_8, i_10, i_12, i_16, i_20, i_23, i_24, i_31, i_32, i_63, i_64, i_m1] at c_5
    refine lv_aload_n hx hb dX9_packet_11 rfl (lv_at hl 0 rfl) ?_
    have ha_6 := tx_1 hT hG
    refine va_get (D := DG E) (ci := 9) (v := .ref (R h0 2)) (C := RX9) (T := TX9) (N := 3) hx hb hts iw_X9 hown hK.1 (va_one ha_6) 0 rfl rfl 2 (by decide) (hts _ fl_X9_16) (fun _ h9 => h9) rfl dX9_packet_12 ?_
    have ha_7 := tx_4 hT hg_2
    have hg_8 : G (R (R h0 2) 0) = 30 := (tw_4 hW hg_2).1
    refine va_get (D := DG E) (ci := 0) (v := .ref (R (R h0 2) 0)) (C := RX0) (T := TX0) (N := 4) hx hb hts iw_X0 hown hK.1 (va_one ha_7) 0 rfl rfl 0 (by decide) (hts _ fl_X9_168) (fun _ h9 => h9) rfl dX9_packet_15 ?_
    refine lv_iload_n hx hb dX9_packet_18 rfl (lv_at hl 1 rfl) ?_
    have ha_9 := tx_30 hT hg_8
    have hi_10 : vp_in p0 24 := vp_in_iff.mpr (by omega)
    obtain ⟨n_11, hn_11, en_11⟩ := x_nat (x := p0) (by omega)
    have hg_12 : G (R (R (R h0 2) 0) n_11) = 31 := (tw_30 hW hg_8) n_11 (by omega)
    refine va_aldq (D := DG E) hx hb hK.1 (va_one ha_9) 0 7 rfl rfl hi_10 dX9_packet_19 ?_
    refine W.eq (g2 := F0 m 20 ls [.ref (R (R (R h0 2) 0) n_11)]) (by rw [en_11]; rfl) ?_
    refine lv_iload_n hx hb dX9_packet_20 rfl (lv_at hl 2 rfl) ?_
    have ha_13 := tx_31 hT hg_12
    refine va_calli (rnV (fun H => TX E G B R H) (As := [.int p1]) (rest := []) ⟨hx, hb, hml, hown, hts⟩ (x_X2_tell l E z0 G hGz B R hW (R (R (R h0 2) 0) n_11) p1 hg_12) (cwV 1 hts (gdV ml_X9_172 im_X2_tell se_X2_X2_tell in_X2 co_X2_tell rfl) rfl rfl rfl (by decide +kernel) ⟨Nat.le_of_ble_eq_true rfl, Nat.le_of_ble_eq_true rfl⟩) hT (fun U hU hW => hK.go hW hS hAz hU) (va_recv hK.1 (va_one ha_13) (ci := 2) (q0 := 0) rfl rfl) rfl rfl hl.1 rfl (lv_room (Nat.le_of_ble_eq_true rfl)) dX9_packet_21 ⟨Nat.le_of_ble_eq_true rfl, Nat.le_of_ble_eq_true rfl⟩) hS (fun q _ h => h.elim) (fun q h => h.elim) (fun r_14 _ t H locs ht hvm hwr_14 hB hz hk hS => ?_)
    have hT : TX E G B R H := hT.kept (fun q hq => hk q hq (fun h => h))
    have hCr_14 : C_X2_tell G B R (R (R (R h0 2) 0) n_11) p1 r_14 := hwr_14
    refine lv_goto (tgt := 28) hx hb dX9_packet_24 (by decide) ?_
    exact W.iret (v := r_14) hx hb hr (fun t ht hW9 => ⟨⟨r_14, (), rfl, (Or.inr ⟨r_4, hCr_4, c_5, n_11, hn_11, r_14, hCr_14, rfl⟩), trivial⟩, hS.F ht⟩) hS.2.2 dX9_packet_28
theorem dX9_pair_0 : decode cX9_pair 0 = .ok (.iload_n 1, 1) := by decide +kernel
theorem dX9_pair_1 : decode cX9_pair 1 = .ok (.invokestatic 78, 3) := by decide +kernel
theorem dX9_pair_4 : decode cX9_pair 4 = .ok (.ifCond .eq 16, 3) := by decide +kernel
theorem dX9_pair_7 : decode cX9_pair 7 = .ok (.aload_n 0, 1) := by decide +kernel
theorem dX9_pair_8 : decode cX9_pair 8 = .ok (.getfield 29, 3) := by decide +kernel
theorem dX9_pair_11 : decode cX9_pair 11 = .ok (.iload_n 1, 1) := by decide +kernel
theorem dX9_pair_12 : decode cX9_pair 12 = .ok (.aaload, 1) := by decide +kernel
theorem dX9_pair_13 : decode cX9_pair 13 = .ok (.iload_n 2, 1) := by decide +kernel
theorem dX9_pair_14 : decode cX9_pair 14 = .ok (.invokevirtual 175, 3) := by decide +kernel
theorem dX9_pair_17 : decode cX9_pair 17 = .ok (.goto 4, 3) := by decide +kernel
theorem dX9_pair_20 : decode cX9_pair 20 = .ok (.iconst (-1), 1) := by decide +kernel
theorem dX9_pair_21 : decode cX9_pair 21 = .ok (.ireturn, 1) := by decide +kernel
set_option maxHeartbeats 8000000 in
set_option maxRecDepth 100000 in
theorem x_X9_pair (l : Launch) (E : EE) (z0 : Nat) (G : Nat → Nat) (hGz : ∀ q, G q ≠ 0 → z0 ≤ q) (B : AA) (R : RR) (hW : TW G B R) (h0 : Nat) (p0 : Int32) (p1 : Int32) (hG : G h0 = 1) : Met l yX9_pair [Cond.code yX9_pair cX9_pair 3 (some .int)] ({ frames := 1, cells := 0, slots := 0, locals := 21 } : Room) (va_Pc [.ref h0, .int p0, .int p1] (fun U => TX E G B R U.heap ∧ KS E z0 U)) (va_Qi (fun (r : Int32) (u : Unit) => (C_X9_pair G B R h0 p0 p1 r)) (fun u t => True) (fun _ : Nat => False)) 0 0 (fun _ : Nat => False) := by
  refine Met.ofW (cc := cX9_pair) (maxL := 3) (ret := (some .int)) (by decide) rfl ?_
  intro p e s m args below meth c s₁ B9 hml hv
  obtain ⟨rfl, hT, hK⟩ := hv
  have hx := B9.exec
  have hb := B9.bytes
  have hr := B9.returns
  have hts : ∀ w ∈ TS, w.before ([.ref h0, .int p0, .int p1] : List Value).toArray s = true := fun w hw => hK.2.1 w hw _
  have hown : s.vm.findClass RX9 = some m.cls := findClass_of_methodNamed B9.named
  have hlocks := B9.notSynchronized
  have hS : va_S (fun _ : Nat => False) s.heap s.heap [] := va_S.rf
  have hAz : ∀ q, (fun _ : Nat => False) q → z0 ≤ q := fun _ h => h.elim
  have hW_0 := hW
  have hl := lv_entry ([.ref h0, .int p0, .int p1]) (n := 3) (Nat.le_of_ble_eq_true rfl)
  rw [lg_entry_eq]
  generalize (lg_sl ([.ref h0, .int p0, .int p1]) ++ List.replicate (3 - (lg_sl ([.ref h0, .int p0, .int p1])).length) Slot.unset).toArray = ls at hl ⊢
  have hl : lv_has ls 3 [(0, .ref h0), (1, .int p0), (2, .int p1)] := hl
  refine lv_iload_n hx hb dX9_pair_0 rfl (lv_at hl 1 rfl) ?_
  refine W.callR (W.runS (As := [.int p0]) (rest := []) ⟨hx, hb, hml, hown, hts⟩ (c_X9_isPair l p0) (cwS 1 hts (gdS ml_X9_78 st_X9_isPair in_X9 co_X9_isPair rfl) rfl rfl rfl (by decide +kernel) ⟨Nat.le_of_ble_eq_true rfl, Nat.le_of_ble_eq_true rfl⟩) preEq rfl rfl hl.1 rfl (lv_room (Nat.le_of_ble_eq_true rfl)) dX9_pair_1 ⟨Nat.le_of_ble_eq_true rfl, Nat.le_of_ble_eq_true rfl⟩) ?_
  refine W.eq (g2 := F0 m 4 ls [.int (bI (0 ≤ p0.toInt ∧ p0.toInt < 4))]) (by rfl) ?_
  refine lv_if_eq (tgt := 20) hx hb dX9_pair_4 (by decide) (fun c_1 => ?_) (fun c_1 => ?_)
  · have c_1 := bI_0 c_1
    refine lv_iconst (v := (-1)) hx hb dX9_pair_20 (by decide) ?_
    exact W.iret (v := (-1)) hx hb hr (fun t ht hW9 => ⟨⟨(-1), (), rfl, (Or.inl ⟨c_1, rfl⟩), trivial⟩, hS.F ht⟩) hS.2.2 dX9_pair_21
  · have c_1 := bI_n c_1
    refine lv_aload_n hx hb dX9_pair_7 rfl (lv_at hl 0 rfl) ?_
    have ha_2 := tx_1 hT hG
    have hg_3 : G (R h0 1) = 3 := (tw_1 hW hG).2.1
    refine va_get (D := DG E) (ci := 9) (v := .ref (R h0 1)) (C := RX9) (T := TX9) (N := 3) hx hb hts iw_X9 hown hK.1 (va_one ha_2) 0 rfl rfl 1 (by decide) (hts _ fl_X9_29) (fun _ h9 => h9) rfl dX9_pair_8 ?_
    refine lv_iload_n hx hb dX9_pair_11 rfl (lv_at hl 1 rfl) ?_
    have ha_4 := tx_3 hT hg_3
    have hi_5 : vp_in p0 4 := vp_in_iff.mpr (by omega)
    obtain ⟨n_6, hn_6, en_6⟩ := x_nat (x := p0) (by omega)
    have hg_7 : G (R (R h0 1) n_6) = 8 := (tw_3 hW hg_3) n_6 (by omega)
    refine va_aldq (D := DG E) hx hb hK.1 (va_one ha_4) 0 5 rfl rfl hi_5 dX9_pair_12 ?_
    refine W.eq (g2 := F0 m 13 ls [.ref (R (R h0 1) n_6)]) (by rw [en_6]; rfl) ?_
    refine lv_iload_n hx hb dX9_pair_13 rfl (lv_at hl 2 rfl) ?_
    have ha_8 := tx_8 hT hg_7
    refine va_calli (rnV (fun H => TX E G B R H) (As := [.int p1]) (rest := []) ⟨hx, hb, hml, hown, hts⟩ (x_X3_tell l E z0 G hGz B R hW (R (R h0 1) n_6) p1 hg_7) (cwV 1 hts (gdV ml_X9_175 im_X3_tell se_X3_X3_tell in_X3 co_X3_tell rfl) rfl rfl rfl (by decide +kernel) ⟨Nat.le_of_ble_eq_true rfl, Nat.le_of_ble_eq_true rfl⟩) hT (fun U hU hW => hK.go hW hS hAz hU) (va_recv hK.1 (va_one ha_8) (ci := 3) (q0 := 0) rfl rfl) rfl rfl hl.1 rfl (lv_room (Nat.le_of_ble_eq_true rfl)) dX9_pair_14 ⟨Nat.le_of_ble_eq_true rfl, Nat.le_of_ble_eq_true rfl⟩) hS (fun q _ h => h.elim) (fun q h => h.elim) (fun r_9 _ t H locs ht hvm hwr_9 hB hz hk hS => ?_)
    have hT : TX E G B R H := hT.kept (fun q hq => hk q hq (fun h => h))
    have hCr_9 : C_X3_tell G B R (R (R h0 1) n_6) p1 r_9 := hwr_9
    refine lv_goto (tgt := 21) hx hb dX9_pair_17 (by decide) ?_
    exact W.iret (v := r_9) hx hb hr (fun t ht hW9 => ⟨⟨r_9, (), rfl, (Or.inr ⟨c_1, n_6, hn_6, r_9, hCr_9, rfl⟩), trivial⟩, hS.F ht⟩) hS.2.2 dX9_pair_21
theorem dX9_completions_0 : decode cX9_completions 0 = .ok (.iload_n 1, 1) := by decide +kernel
theorem dX9_completions_1 : decode cX9_completions 1 = .ok (.invokestatic 46, 3) := by decide +kernel
theorem dX9_completions_4 : decode cX9_completions 4 = .ok (.ifCond .eq 15, 3) := by decide +kernel
theorem dX9_completions_7 : decode cX9_completions 7 = .ok (.aload_n 0, 1) := by decide +kernel
theorem dX9_completions_8 : decode cX9_completions 8 = .ok (.getfield 22, 3) := by decide +kernel
theorem dX9_completions_11 : decode cX9_completions 11 = .ok (.iload_n 1, 1) := by decide +kernel
theorem dX9_completions_12 : decode cX9_completions 12 = .ok (.aaload, 1) := by decide +kernel
theorem dX9_completions_13 : decode cX9_completions 13 = .ok (.getfield 176, 3) := by decide +kernel
theorem dX9_completions_16 : decode cX9_completions 16 = .ok (.goto 4, 3) := by decide +kernel
theorem dX9_completions_19 : decode cX9_completions 19 = .ok (.iconst (-1), 1) := by decide +kernel
theorem dX9_completions_20 : decode cX9_completions 20 = .ok (.ireturn, 1) := by decide +kernel
set_option maxHeartbeats 8000000 in
set_option maxRecDepth 100000 in
theorem x_X9_completions (l : Launch) (E : EE) (z0 : Nat) (G : Nat → Nat) (hGz : ∀ q, G q ≠ 0 → z0 ≤ q) (B : AA) (R : RR) (hW : TW G B R) (h0 : Nat) (p0 : Int32) (hG : G h0 = 1) : Met l yX9_completions [Cond.code yX9_completions cX9_completions 2 (some .int)] ({ frames := 1, cells := 0, slots := 0, locals := 20 } : Room) (va_Pc [.ref h0, .int p0] (fun U => TX E G B R U.heap ∧ KS E z0 U)) (va_Qi (fun (r : Int32) (u : Unit) => (C_X9_completions G B R h0 p0 r)) (fun u t => True) (fun _ : Nat => False)) 0 0 (fun _ : Nat => False) := by
  refine Met.ofW (cc := cX9_completions) (maxL := 2) (ret := (some .int)) (by decide) rfl ?_
  intro p e s m args below meth c s₁ B9 hml hv
  obtain ⟨rfl, hT, hK⟩ := hv
  have hx := B9.exec
  have hb := B9.bytes
  have hr := B9.returns
  have hts : ∀ w ∈ TS, w.before ([.ref h0, .int p0] : List Value).toArray s = true := fun w hw => hK.2.1 w hw _
  have hown : s.vm.findClass RX9 = some m.cls := findClass_of_methodNamed B9.named
  have hlocks := B9.notSynchronized
  have hS : va_S (fun _ : Nat => False) s.heap s.heap [] := va_S.rf
  have hAz : ∀ q, (fun _ : Nat => False) q → z0 ≤ q := fun _ h => h.elim
  have hW_0 := hW
  have hl := lv_entry ([.ref h0, .int p0]) (n := 2) (Nat.le_of_ble_eq_true rfl)
  rw [lg_entry_eq]
  generalize (lg_sl ([.ref h0, .int p0]) ++ List.replicate (2 - (lg_sl ([.ref h0, .int p0])).length) Slot.unset).toArray = ls at hl ⊢
  have hl : lv_has ls 2 [(0, .ref h0), (1, .int p0)] := hl
  refine lv_iload_n hx hb dX9_completions_0 rfl (lv_at hl 1 rfl) ?_
  refine W.callR (W.runS (As := [.int p0]) (rest := []) ⟨hx, hb, hml, hown, hts⟩ (c_X9_isNode l p0) (cwS 1 hts (gdS ml_X9_46 st_X9_isNode in_X9 co_X9_isNode rfl) rfl rfl rfl (by decide +kernel) ⟨Nat.le_of_ble_eq_true rfl, Nat.le_of_ble_eq_true rfl⟩) preEq rfl rfl hl.1 rfl (lv_room (Nat.le_of_ble_eq_true rfl)) dX9_completions_1 ⟨Nat.le_of_ble_eq_true rfl, Nat.le_of_ble_eq_true rfl⟩) ?_
  refine W.eq (g2 := F0 m 4 ls [.int (bI (0 ≤ p0.toInt ∧ p0.toInt < 2))]) (by rfl) ?_
  refine lv_if_eq (tgt := 19) hx hb dX9_completions_4 (by decide) (fun c_1 => ?_) (fun c_1 => ?_)
  · have c_1 := bI_0 c_1
    refine lv_iconst (v := (-1)) hx hb dX9_completions_19 (by decide) ?_
    exact W.iret (v := (-1)) hx hb hr (fun t ht hW9 => ⟨⟨(-1), (), rfl, (Or.inl ⟨c_1, rfl⟩), trivial⟩, hS.F ht⟩) hS.2.2 dX9_completions_20
  · have c_1 := bI_n c_1
    refine lv_aload_n hx hb dX9_completions_7 rfl (lv_at hl 0 rfl) ?_
    have ha_2 := tx_1 hT hG
    have hg_3 : G (R h0 0) = 2 := (tw_1 hW hG).1
    refine va_get (D := DG E) (ci := 9) (v := .ref (R h0 0)) (C := RX9) (T := TX9) (N := 3) hx hb hts iw_X9 hown hK.1 (va_one ha_2) 0 rfl rfl 0 (by decide) (hts _ fl_X9_22) (fun _ h9 => h9) rfl dX9_completions_8 ?_
    refine lv_iload_n hx hb dX9_completions_11 rfl (lv_at hl 1 rfl) ?_
    have ha_4 := tx_2 hT hg_3
    have hi_5 : vp_in p0 2 := vp_in_iff.mpr (by omega)
    obtain ⟨n_6, hn_6, en_6⟩ := x_nat (x := p0) (by omega)
    have hg_7 : G (R (R h0 0) n_6) = 5 := (tw_2 hW hg_3) n_6 (by omega)
    refine va_aldq (D := DG E) hx hb hK.1 (va_one ha_4) 0 3 rfl rfl hi_5 dX9_completions_12 ?_
    refine W.eq (g2 := F0 m 13 ls [.ref (R (R h0 0) n_6)]) (by rw [en_6]; rfl) ?_
    have ha_8 := tx_5 hT hg_7
    have hb_9 := (tw_5 hW_0 hg_7).2.2.2.2
    refine va_get (D := DG E) (ci := 1) (v := .int (B (R (R h0 0) n_6) 4)) (C := RX1) (T := TX1) (N := 5) hx hb hts iw_X1 hown hK.1 (va_one ha_8) 0 rfl rfl 4 (by decide) (hts _ fl_X9_176) (fun _ h9 => h9) rfl dX9_completions_13 ?_
    refine lv_goto (tgt := 20) hx hb dX9_completions_16 (by decide) ?_
    exact W.iret (v := (B (R (R h0 0) n_6) 4)) hx hb hr (fun t ht hW9 => ⟨⟨(B (R (R h0 0) n_6) 4), (), rfl, (Or.inr ⟨c_1, n_6, hn_6, rfl⟩), trivial⟩, hS.F ht⟩) hS.2.2 dX9_completions_20
theorem dX9_poll_0 : decode cX9_poll 0 = .ok (.iload_n 1, 1) := by decide +kernel
theorem dX9_poll_1 : decode cX9_poll 1 = .ok (.invokestatic 46, 3) := by decide +kernel
theorem dX9_poll_4 : decode cX9_poll 4 = .ok (.ifCond .eq 17, 3) := by decide +kernel
theorem dX9_poll_7 : decode cX9_poll 7 = .ok (.iload_n 2, 1) := by decide +kernel
theorem dX9_poll_8 : decode cX9_poll 8 = .ok (.iconst (-1), 1) := by decide +kernel
theorem dX9_poll_9 : decode cX9_poll 9 = .ok (.if_icmp .lt 12, 3) := by decide +kernel
theorem dX9_poll_12 : decode cX9_poll 12 = .ok (.iload_n 2, 1) := by decide +kernel
theorem dX9_poll_13 : decode cX9_poll 13 = .ok (.iconst 5, 1) := by decide +kernel
theorem dX9_poll_14 : decode cX9_poll 14 = .ok (.if_icmp .ge 7, 3) := by decide +kernel
theorem dX9_poll_17 : decode cX9_poll 17 = .ok (.iconst 1, 1) := by decide +kernel
theorem dX9_poll_18 : decode cX9_poll 18 = .ok (.goto 4, 3) := by decide +kernel
theorem dX9_poll_21 : decode cX9_poll 21 = .ok (.iconst 0, 1) := by decide +kernel
theorem dX9_poll_22 : decode cX9_poll 22 = .ok (.invokestatic 53, 3) := by decide +kernel
theorem dX9_poll_25 : decode cX9_poll 25 = .ok (.aload_n 0, 1) := by decide +kernel
theorem dX9_poll_26 : decode cX9_poll 26 = .ok (.getfield 22, 3) := by decide +kernel
theorem dX9_poll_29 : decode cX9_poll 29 = .ok (.iload_n 1, 1) := by decide +kernel
theorem dX9_poll_30 : decode cX9_poll 30 = .ok (.aaload, 1) := by decide +kernel
theorem dX9_poll_31 : decode cX9_poll 31 = .ok (.getfield 176, 3) := by decide +kernel
theorem dX9_poll_34 : decode cX9_poll 34 = .ok (.ifCond .ne 11, 3) := by decide +kernel
theorem dX9_poll_37 : decode cX9_poll 37 = .ok (.new 179, 3) := by decide +kernel
theorem dX9_poll_40 : decode cX9_poll 40 = .ok (.dup, 1) := by decide +kernel
theorem dX9_poll_41 : decode cX9_poll 41 = .ok (.invokespecial 181, 3) := by decide +kernel
theorem dX9_poll_44 : decode cX9_poll 44 = .ok (.athrow, 1) := by decide +kernel
theorem dX9_poll_45 : decode cX9_poll 45 = .ok (.iload_n 2, 1) := by decide +kernel
theorem dX9_poll_46 : decode cX9_poll 46 = .ok (.ifCond .lt 14, 3) := by decide +kernel
theorem dX9_poll_49 : decode cX9_poll 49 = .ok (.aload_n 0, 1) := by decide +kernel
theorem dX9_poll_50 : decode cX9_poll 50 = .ok (.getfield 22, 3) := by decide +kernel
theorem dX9_poll_53 : decode cX9_poll 53 = .ok (.iload_n 1, 1) := by decide +kernel
theorem dX9_poll_54 : decode cX9_poll 54 = .ok (.aaload, 1) := by decide +kernel
theorem dX9_poll_55 : decode cX9_poll 55 = .ok (.iload_n 2, 1) := by decide +kernel
theorem dX9_poll_56 : decode cX9_poll 56 = .ok (.invokevirtual 182, 3) := by decide +kernel
theorem dX9_poll_59 : decode cX9_poll 59 = .ok (.ireturn, 1) := by decide +kernel
theorem dX9_poll_60 : decode cX9_poll 60 = .ok (.aload_n 0, 1) := by decide +kernel
theorem dX9_poll_61 : decode cX9_poll 61 = .ok (.getfield 22, 3) := by decide +kernel
theorem dX9_poll_64 : decode cX9_poll 64 = .ok (.iload_n 1, 1) := by decide +kernel
theorem dX9_poll_65 : decode cX9_poll 65 = .ok (.aaload, 1) := by decide +kernel
theorem dX9_poll_66 : decode cX9_poll 66 = .ok (.invokevirtual 185, 3) := by decide +kernel
theorem dX9_poll_69 : decode cX9_poll 69 = .ok (.iconst 0, 1) := by decide +kernel
theorem dX9_poll_70 : decode cX9_poll 70 = .ok (.ireturn, 1) := by decide +kernel
set_option maxHeartbeats 8000000 in
set_option maxRecDepth 100000 in
theorem x_X9_poll (l : Launch) (hst : l.stackTraces = false) (E : EE) (z0 : Nat) (G : Nat → Nat) (hGz : ∀ q, G q ≠ 0 → z0 ≤ q) (B : AA) (R : RR) (hW : TW G B R) (h0 : Nat) (p0 : Int32) (p1 : Int32) (hG : G h0 = 1) : vx_Met l yX9_poll [Cond.code yX9_poll cX9_poll 3 (some .int)] ({ frames := 7, cells := 2, slots := 12, locals := 101 } : Room) (va_Pc [.ref h0, .int p0, .int p1] (fun U => TX E G B R U.heap ∧ KS E z0 U)) (va_Qi (fun (r : Int32) (u : AA) => (TW G u R) ∧ (Fr G ([5] : List Nat) B u) ∧ (C_X9_poll G B R h0 p0 p1 u r)) (fun u t => TX E G u R t.heap) (fun q : Nat => G q ∈ ([5] : List Nat))) (vx_X (fun (_ : Unit) => True) (fun En _ t => (X_X9_poll G B R h0 p0 p1 En) ∧ TX E G B R t.heap) (fun q : Nat => G q ∈ ([5] : List Nat))) 2 12 (fun q : Nat => G q ∈ ([5] : List Nat)) := by
  refine vx_ofW (cc := cX9_poll) (maxL := 3) (ret := (some .int)) (by decide) rfl ?_
  intro p e s m args below meth c s₁ B9 hml hne hv
  obtain ⟨rfl, hT, hK⟩ := hv
  have hx := B9.exec
  have hb := B9.bytes
  have hr := B9.returns
  have hts : ∀ w ∈ TS, w.before ([.ref h0, .int p0, .int p1] : List Value).toArray s = true := fun w hw => hK.2.1 w hw _
  have hown : s.vm.findClass RX9 = some m.cls := findClass_of_methodNamed B9.named
  have hlocks := B9.notSynchronized
  have hS : va_S (fun q : Nat => G q ∈ ([5] : List Nat)) s.heap s.heap [] := va_S.rf
  have hAz : ∀ q, (fun q : Nat => G q ∈ ([5] : List Nat)) q → z0 ≤ q := zL hGz (by decide)
  have hW_0 := hW
  have hl := lv_entry ([.ref h0, .int p0, .int p1]) (n := 3) (Nat.le_of_ble_eq_true rfl)
  rw [lg_entry_eq]
  generalize (lg_sl ([.ref h0, .int p0, .int p1]) ++ List.replicate (3 - (lg_sl ([.ref h0, .int p0, .int p1])).length) Slot.unset).toArray = ls at hl ⊢
  have hl : lv_has ls 3 [(0, .ref h0), (1, .int p0), (2, .int p1)] := hl
  refine lv_iload_n hx hb dX9_poll_0 rfl (lv_at hl 1 rfl) ?_
  refine W.callR (W.runS (As := [.int p0]) (rest := []) ⟨hx, hb, hml, hown, hts⟩ (c_X9_isNode l p0) (cwS 1 hts (gdS ml_X9_46 st_X9_isNode in_X9 co_X9_isNode rfl) rfl rfl rfl (by decide +kernel) ⟨Nat.le_of_ble_eq_true rfl, Nat.le_of_ble_eq_true rfl⟩) preEq rfl rfl hl.1 rfl (lv_room (Nat.le_of_ble_eq_true rfl)) dX9_poll_1 ⟨Nat.le_of_ble_eq_true rfl, Nat.le_of_ble_eq_true rfl⟩) ?_
  refine W.eq (g2 := F0 m 4 ls [.int (bI (0 ≤ p0.toInt ∧ p0.toInt < 2))]) (by rfl) ?_
  refine lv_if_eq (tgt := 21) hx hb dX9_poll_4 (by decide) (fun c_1 => ?_) (fun c_1 => ?_)
  · have c_1 := bI_0 c_1
    refine lv_iconst (v := 0) hx hb dX9_poll_21 (by decide) ?_
    refine vx_callv (rxS (fun _ => True) (As := [.int 0]) (rest := []) ⟨hx, hb, hml, hown, hts⟩ (c_X9_require l hst E z0 0) (cwS 1 hts (gdS ml_X9_53 st_X9_require in_X9 co_X9_require rfl) rfl rfl rfl (by decide +kernel) ⟨Nat.le_of_ble_eq_true rfl, Nat.le_of_ble_eq_true rfl⟩) trivial (fun U hU hW => hK.go hW hS hAz hU) rfl rfl hl.1 rfl (lv_room (Nat.le_of_ble_eq_true rfl)) dX9_poll_22 ⟨Nat.le_of_ble_eq_true rfl, Nat.le_of_ble_eq_true rfl⟩) hS (fun q _ h => h.elim) (fun q h => h.elim) (fun q _ h => h.elim) (fun En ce q9 _ t H locs ht hvm hw_2 hB hz hk hS hc1 hc2 hc3 => ?_) (fun _ t H locs ht hvm hw_2 hB hz hk hS => ?_)
    · have hT : TX E G B R H := hT.kept (fun q hq => hk q hq (fun h => h))
      subst hB
      exact vx_out (fun x hx => (hne x hx).elim) hlocks hc1 hc2 hc3 (fun t ht hA => ⟨(), trivial, ⟨(Or.inl ⟨c_1, rfl⟩), by show TX E G B R t.heap; rw [ht]; exact hT⟩, hS.F ht⟩) hS.2.2 (Nat.le_of_ble_eq_true rfl) (Nat.le_of_ble_eq_true rfl)
    · exact absurd rfl hw_2
  · have c_1 := bI_n c_1
    refine lv_iload_n hx hb dX9_poll_7 rfl (lv_at hl 2 rfl) ?_
    refine lv_iconst (v := (-1)) hx hb dX9_poll_8 (by decide) ?_
    refine lv_icmp_lt (tgt := 21) hx hb dX9_poll_9 (by decide) (fun c_3 => ?_) (fun c_3 => ?_)
    · simp only [lt_I, le_I, eq_I, i_0, i_1, i_2, i_3, i_4, i_5, i_6, i_7, i_8, i_10, i_12, i_16, i_20, i_23, i_24, i_31, i_32, i_63, i_64, i_m1] at c_3
      refine lv_iconst (v := 0) hx hb dX9_poll_21 (by decide) ?_
      refine vx_callv (rxS (fun _ => True) (As := [.int 0]) (rest := []) ⟨hx, hb, hml, hown, hts⟩ (c_X9_require l hst E z0 0) (cwS 1 hts (gdS ml_X9_53 st_X9_require in_X9 co_X9_require rfl) rfl rfl rfl (by decide +kernel) ⟨Nat.le_of_ble_eq_true rfl, Nat.le_of_ble_eq_true rfl⟩) trivial (fun U hU hW => hK.go hW hS hAz hU) rfl rfl hl.1 rfl (lv_room (Nat.le_of_ble_eq_true rfl)) dX9_poll_22 ⟨Nat.le_of_ble_eq_true rfl, Nat.le_of_ble_eq_true rfl⟩) hS (fun q _ h => h.elim) (fun q h => h.elim) (fun q _ h => h.elim) (fun En ce q9 _ t H locs ht hvm hw_4 hB hz hk hS hc1 hc2 hc3 => ?_) (fun _ t H locs ht hvm hw_4 hB hz hk hS => ?_)
      · have hT : TX E G B R H := hT.kept (fun q hq => hk q hq (fun h => h))
        subst hB
        exact vx_out (fun x hx => (hne x hx).elim) hlocks hc1 hc2 hc3 (fun t ht hA => ⟨(), trivial, ⟨(Or.inr (Or.inl ⟨c_1, c_3, rfl⟩)), by show TX E G B R t.heap; rw [ht]; exact hT⟩, hS.F ht⟩) hS.2.2 (Nat.le_of_ble_eq_true rfl) (Nat.le_of_ble_eq_true rfl)
      · exact absurd rfl hw_4
    · simp only [lt_I, le_I, eq_I, i_0, i_1, i_2, i_3, i_4, i_5, i_6, i_7, i_8, i_10, i_12, i_16, i_20, i_23, i_24, i_31, i_32, i_63, i_64, i_m1] at c_3
      refine lv_iload_n hx hb dX9_poll_12 rfl (lv_at hl 2 rfl) ?_
      refine lv_iconst (v := 5) hx hb dX9_poll_13 (by decide) ?_
      refine lv_icmp_ge (tgt := 21) hx hb dX9_poll_14 (by decide) (fun c_5 => ?_) (fun c_5 => ?_)
      · simp only [lt_I, le_I, eq_I, i_0, i_1, i_2, i_3, i_4, i_5, i_6, i_7, i_8, i_10, i_12, i_16, i_20, i_23, i_24, i_31, i_32, i_63, i_64, i_m1] at c_5
        refine lv_iconst (v := 0) hx hb dX9_poll_21 (by decide) ?_
        refine vx_callv (rxS (fun _ => True) (As := [.int 0]) (rest := []) ⟨hx, hb, hml, hown, hts⟩ (c_X9_require l hst E z0 0) (cwS 1 hts (gdS ml_X9_53 st_X9_require in_X9 co_X9_require rfl) rfl rfl rfl (by decide +kernel) ⟨Nat.le_of_ble_eq_true rfl, Nat.le_of_ble_eq_true rfl⟩) trivial (fun U hU hW => hK.go hW hS hAz hU) rfl rfl hl.1 rfl (lv_room (Nat.le_of_ble_eq_true rfl)) dX9_poll_22 ⟨Nat.le_of_ble_eq_true rfl, Nat.le_of_ble_eq_true rfl⟩) hS (fun q _ h => h.elim) (fun q h => h.elim) (fun q _ h => h.elim) (fun En ce q9 _ t H locs ht hvm hw_6 hB hz hk hS hc1 hc2 hc3 => ?_) (fun _ t H locs ht hvm hw_6 hB hz hk hS => ?_)
        · have hT : TX E G B R H := hT.kept (fun q hq => hk q hq (fun h => h))
          subst hB
          exact vx_out (fun x hx => (hne x hx).elim) hlocks hc1 hc2 hc3 (fun t ht hA => ⟨(), trivial, ⟨(Or.inr (Or.inr (Or.inl ⟨c_1, c_3, c_5, rfl⟩))), by show TX E G B R t.heap; rw [ht]; exact hT⟩, hS.F ht⟩) hS.2.2 (Nat.le_of_ble_eq_true rfl) (Nat.le_of_ble_eq_true rfl)
        · exact absurd rfl hw_6
      · simp only [lt_I, le_I, eq_I, i_0, i_1, i_2, i_3, i_4, i_5, i_6, i_7, i_8, i_10, i_12, i_16, i_20, i_23, i_24, i_31, i_32, i_63, i_64, i_m1] at c_5
        refine lv_iconst (v := 1) hx hb dX9_poll_17 (by decide) ?_
        refine lv_goto (tgt := 22) hx hb dX9_poll_18 (by decide) ?_
        refine vx_callv (rxS (fun _ => True) (As := [.int 1]) (rest := []) ⟨hx, hb, hml, hown, hts⟩ (c_X9_require l hst E z0 1) (cwS 1 hts (gdS ml_X9_53 st_X9_require in_X9 co_X9_require rfl) rfl rfl rfl (by decide +kernel) ⟨Nat.le_of_ble_eq_true rfl, Nat.le_of_ble_eq_true rfl⟩) trivial (fun U hU hW => hK.go hW hS hAz hU) rfl rfl hl.1 rfl (lv_room (Nat.le_of_ble_eq_true rfl)) dX9_poll_22 ⟨Nat.le_of_ble_eq_true rfl, Nat.le_of_ble_eq_true rfl⟩) hS (fun q _ h => h.elim) (fun q h => h.elim) (fun q _ h => h.elim) (fun En ce q9 _ t H locs ht hvm hw_7 hB hz hk hS hc1 hc2 hc3 => ?_) (fun _ t H locs ht hvm hw_7 hB hz hk hS => ?_)
        · exact absurd hw_7 (by decide)
        · have hT : TX E G B R H := hT.kept (fun q hq => hk q hq (fun h => h))
          refine lv_aload_n hx hb dX9_poll_25 rfl (lv_at hl 0 rfl) ?_
          have ha_8 := tx_1 hT hG
          have hg_9 : G (R h0 0) = 2 := (tw_1 hW hG).1
          refine va_get (D := DG E) (ci := 9) (v := .ref (R h0 0)) (C := RX9) (T := TX9) (N := 3) hx hb hts iw_X9 hown hK.1 (va_one ha_8) 0 rfl rfl 0 (by decide) (hts _ fl_X9_22) (fun _ h9 => h9) rfl dX9_poll_26 ?_
          refine lv_iload_n hx hb dX9_poll_29 rfl (lv_at hl 1 rfl) ?_
          have ha_10 := tx_2 hT hg_9
          have hi_11 : vp_in p0 2 := vp_in_iff.mpr (by omega)
          obtain ⟨n_12, hn_12, en_12⟩ := x_nat (x := p0) (by omega)
          have hg_13 : G (R (R h0 0) n_12) = 5 := (tw_2 hW hg_9) n_12 (by omega)
          refine va_aldq (D := DG E) hx hb hK.1 (va_one ha_10) 0 3 rfl rfl hi_11 dX9_poll_30 ?_
          refine W.eq (g2 := F0 m 31 ls [.ref (R (R h0 0) n_12)]) (by rw [en_12]; rfl) ?_
          have ha_14 := tx_5 hT hg_13
          have hb_15 := (tw_5 hW_0 hg_13).2.2.2.2
          refine va_get (D := DG E) (ci := 1) (v := .int (B (R (R h0 0) n_12) 4)) (C := RX1) (T := TX1) (N := 5) hx hb hts iw_X1 hown hK.1 (va_one ha_14) 0 rfl rfl 4 (by decide) (hts _ fl_X9_176) (fun _ h9 => h9) rfl dX9_poll_31 ?_
          refine lv_if_ne (tgt := 45) hx hb dX9_poll_34 (by decide) (fun c_16 => ?_) (fun c_16 => ?_)
          · simp only [lt_I, le_I, eq_I, i_0, i_1, i_2, i_3, i_4, i_5, i_6, i_7, i_8, i_10, i_12, i_16, i_20, i_23, i_24, i_31, i_32, i_63, i_64, i_m1] at c_16
            refine lv_iload_n hx hb dX9_poll_45 rfl (lv_at hl 2 rfl) ?_
            refine lv_if_lt (tgt := 60) hx hb dX9_poll_46 (by decide) (fun c_17 => ?_) (fun c_17 => ?_)
            · simp only [lt_I, le_I, eq_I, i_0, i_1, i_2, i_3, i_4, i_5, i_6, i_7, i_8, i_10, i_12, i_16, i_20, i_23, i_24, i_31, i_32, i_63, i_64, i_m1] at c_17
              refine lv_aload_n hx hb dX9_poll_60 rfl (lv_at hl 0 rfl) ?_
              refine va_get (D := DG E) (ci := 9) (v := .ref (R h0 0)) (C := RX9) (T := TX9) (N := 3) hx hb hts iw_X9 hown hK.1 (va_one ha_8) 0 rfl rfl 0 (by decide) (hts _ fl_X9_22) (fun _ h9 => h9) rfl dX9_poll_61 ?_
              refine lv_iload_n hx hb dX9_poll_64 rfl (lv_at hl 1 rfl) ?_
              refine va_aldq (D := DG E) hx hb hK.1 (va_one ha_10) 0 3 rfl rfl hi_11 dX9_poll_65 ?_
              refine W.eq (g2 := F0 m 66 ls [.ref (R (R h0 0) n_12)]) (by rw [en_12]; rfl) ?_
              refine va_callv (rnV (fun H => TX E G B R H) (As := []) (rest := []) ⟨hx, hb, hml, hown, hts⟩ (x_X1_dropFirst l E z0 G hGz B R hW (R (R h0 0) n_12) hg_13 (show 1 ≤ (B (R (R h0 0) n_12) 4).toInt from by first | decide | omega)) (cwV 0 hts (gdV ml_X9_185 im_X1_dropFirst se_X1_X1_dropFirst in_X1 co_X1_dropFirst rfl) rfl rfl rfl (by decide +kernel) ⟨Nat.le_of_ble_eq_true rfl, Nat.le_of_ble_eq_true rfl⟩) hT (fun U hU hW => hK.go hW hS hAz hU) (va_recv hK.1 (va_one ha_14) (ci := 1) (q0 := 0) rfl rfl) rfl rfl hl.1 rfl (lv_room (Nat.le_of_ble_eq_true rfl)) dX9_poll_66 ⟨Nat.le_of_ble_eq_true rfl, Nat.le_of_ble_eq_true rfl⟩) hS (fun q _ h => mL (L' := [5]) (L := [5]) (by decide) h) (fun q h => mL (L' := [5]) (L := [5]) (by decide) h) (fun U_19 t H locs ht hvm hwr_18 hB hz hk hS => ?_)
              have hT : TX E G U_19 R H := by rw [ht] at hB; exact hB
              have hWr_18 : TW G U_19 R := hwr_18.1
              have hW := hWr_18
              have hFr_18 : Fr G [5] B U_19 := hwr_18.2.1
              have hCr_18 : C_X1_dropFirst G B R (R (R h0 0) n_12) U_19 := hwr_18.2.2
              refine lv_iconst (v := 0) hx hb dX9_poll_69 (by decide) ?_
              refine vx_ret ?_
              refine W.widen (k := 2) (n := 12) (Nat.le_of_ble_eq_true rfl) (Nat.le_of_ble_eq_true rfl) ?_
              exact W.iret (v := 0) hx hb hr (fun t ht hW9 => ⟨⟨0, U_19, rfl, ⟨hW, (Fr.c Fr.rf hFr_18 (by decide)), (Or.inl ⟨c_1, c_3, c_5, n_12, hn_12, c_16, c_17, U_19, hFr_18, hCr_18, rfl, rfl⟩)⟩, (by show TX E G U_19 R t.heap; rw [ht]; exact hT)⟩, hS.F ht⟩) hS.2.2 dX9_poll_70
            · simp only [lt_I, le_I, eq_I, i_0, i_1, i_2, i_3, i_4, i_5, i_6, i_7, i_8, i_10, i_12, i_16, i_20, i_23, i_24, i_31, i_32, i_63, i_64, i_m1] at c_17
              refine lv_aload_n hx hb dX9_poll_49 rfl (lv_at hl 0 rfl) ?_
              refine va_get (D := DG E) (ci := 9) (v := .ref (R h0 0)) (C := RX9) (T := TX9) (N := 3) hx hb hts iw_X9 hown hK.1 (va_one ha_8) 0 rfl rfl 0 (by decide) (hts _ fl_X9_22) (fun _ h9 => h9) rfl dX9_poll_50 ?_
              refine lv_iload_n hx hb dX9_poll_53 rfl (lv_at hl 1 rfl) ?_
              refine va_aldq (D := DG E) hx hb hK.1 (va_one ha_10) 0 3 rfl rfl hi_11 dX9_poll_54 ?_
              refine W.eq (g2 := F0 m 55 ls [.ref (R (R h0 0) n_12)]) (by rw [en_12]; rfl) ?_
              refine lv_iload_n hx hb dX9_poll_55 rfl (lv_at hl 2 rfl) ?_
              refine va_calli (rnV (fun H => TX E G B R H) (As := [.int p1]) (rest := []) ⟨hx, hb, hml, hown, hts⟩ (x_X1_tellFirst l E z0 G hGz B R hW (R (R h0 0) n_12) p1 hg_13 (show 0 ≤ p1.toInt ∧ p1.toInt ≤ 4 from by first | decide | omega)) (cwV 1 hts (gdV ml_X9_182 im_X1_tellFirst se_X1_X1_tellFirst in_X1 co_X1_tellFirst rfl) rfl rfl rfl (by decide +kernel) ⟨Nat.le_of_ble_eq_true rfl, Nat.le_of_ble_eq_true rfl⟩) hT (fun U hU hW => hK.go hW hS hAz hU) (va_recv hK.1 (va_one ha_14) (ci := 1) (q0 := 0) rfl rfl) rfl rfl hl.1 rfl (lv_room (Nat.le_of_ble_eq_true rfl)) dX9_poll_56 ⟨Nat.le_of_ble_eq_true rfl, Nat.le_of_ble_eq_true rfl⟩) hS (fun q _ h => h.elim) (fun q h => h.elim) (fun r_20 _ t H locs ht hvm hwr_20 hB hz hk hS => ?_)
              have hT : TX E G B R H := hT.kept (fun q hq => hk q hq (fun h => h))
              have hCr_20 : C_X1_tellFirst G B R (R (R h0 0) n_12) p1 r_20 := hwr_20
              refine vx_ret ?_
              refine W.widen (k := 2) (n := 12) (Nat.le_of_ble_eq_true rfl) (Nat.le_of_ble_eq_true rfl) ?_
              exact W.iret (v := r_20) hx hb hr (fun t ht hW9 => ⟨⟨r_20, B, rfl, ⟨hW, Fr.rf, (Or.inr ⟨c_1, c_3, c_5, n_12, hn_12, c_16, c_17, r_20, hCr_20, rfl, rfl⟩)⟩, (by show TX E G B R t.heap; rw [ht]; exact hT)⟩, hS.F ht⟩) hS.2.2 dX9_poll_59
          · simp only [lt_I, le_I, eq_I, i_0, i_1, i_2, i_3, i_4, i_5, i_6, i_7, i_8, i_10, i_12, i_16, i_20, i_23, i_24, i_31, i_32, i_63, i_64, i_m1] at c_16
            exact vx_throw0 (A := AZ z0) hx hb hst (own := RX9) (cls := NSE) (names := upn) (ik := 179) (ic := 181) hown (by decide +kernel) (by decide +kernel) (hts _ cl_X9_179) (hts _ in_NoSuchElementException) (fun w hw => hts w (tw_NSE w hw)) tg_NSE hK.2.2.1 hK.2.2.2 (SS_mono hS hAz) (by rw [hml]; exact hl.1) dX9_poll_37 dX9_poll_40 dX9_poll_41 dX9_poll_44 (fun x hx => (hne x hx).elim) (by decide) (by decide) (by decide) (by decide) hlocks (fun t hA hz hk => ⟨(), trivial, ⟨(Or.inr (Or.inr (Or.inr ⟨c_1, c_3, c_5, n_12, hn_12, c_16, rfl⟩))), hT.kept hk⟩, SS_F hS hz hk⟩) hS.2.2 (by decide) (by decide)

