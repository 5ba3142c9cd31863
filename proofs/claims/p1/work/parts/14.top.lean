theorem dX9_region_0 : decode cX9_region 0 = .ok (.iload_n 1, 1) := by decide +kernel
theorem dX9_region_1 : decode cX9_region 1 = .ok (.invokestatic 46, 3) := by decide +kernel
theorem dX9_region_4 : decode cX9_region 4 = .ok (.ifCond .eq 26, 3) := by decide +kernel
theorem dX9_region_7 : decode cX9_region 7 = .ok (.iload_n 2, 1) := by decide +kernel
theorem dX9_region_8 : decode cX9_region 8 = .ok (.invokestatic 50, 3) := by decide +kernel
theorem dX9_region_11 : decode cX9_region 11 = .ok (.ifCond .eq 19, 3) := by decide +kernel
theorem dX9_region_14 : decode cX9_region 14 = .ok (.iload 5, 2) := by decide +kernel
theorem dX9_region_16 : decode cX9_region 16 = .ok (.ifCond .lt 14, 3) := by decide +kernel
theorem dX9_region_19 : decode cX9_region 19 = .ok (.iload 5, 2) := by decide +kernel
theorem dX9_region_21 : decode cX9_region 21 = .ok (.bipush 7, 2) := by decide +kernel
theorem dX9_region_23 : decode cX9_region 23 = .ok (.if_icmp .gt 7, 3) := by decide +kernel
theorem dX9_region_26 : decode cX9_region 26 = .ok (.iconst 1, 1) := by decide +kernel
theorem dX9_region_27 : decode cX9_region 27 = .ok (.goto 4, 3) := by decide +kernel
theorem dX9_region_30 : decode cX9_region 30 = .ok (.iconst 0, 1) := by decide +kernel
theorem dX9_region_31 : decode cX9_region 31 = .ok (.invokestatic 53, 3) := by decide +kernel
theorem dX9_region_34 : decode cX9_region 34 = .ok (.iload_n 3, 1) := by decide +kernel
theorem dX9_region_35 : decode cX9_region 35 = .ok (.ifCond .lt 21, 3) := by decide +kernel
theorem dX9_region_38 : decode cX9_region 38 = .ok (.iload 4, 2) := by decide +kernel
theorem dX9_region_40 : decode cX9_region 40 = .ok (.ifCond .lt 16, 3) := by decide +kernel
theorem dX9_region_43 : decode cX9_region 43 = .ok (.iload 4, 2) := by decide +kernel
theorem dX9_region_45 : decode cX9_region 45 = .ok (.bipush 32, 2) := by decide +kernel
theorem dX9_region_47 : decode cX9_region 47 = .ok (.iload_n 3, 1) := by decide +kernel
theorem dX9_region_48 : decode cX9_region 48 = .ok (.isub, 1) := by decide +kernel
theorem dX9_region_49 : decode cX9_region 49 = .ok (.if_icmp .gt 7, 3) := by decide +kernel
theorem dX9_region_52 : decode cX9_region 52 = .ok (.iconst 1, 1) := by decide +kernel
theorem dX9_region_53 : decode cX9_region 53 = .ok (.goto 4, 3) := by decide +kernel
theorem dX9_region_56 : decode cX9_region 56 = .ok (.iconst 0, 1) := by decide +kernel
theorem dX9_region_57 : decode cX9_region 57 = .ok (.invokestatic 53, 3) := by decide +kernel
theorem dX9_region_60 : decode cX9_region 60 = .ok (.aload_n 0, 1) := by decide +kernel
theorem dX9_region_61 : decode cX9_region 61 = .ok (.getfield 22, 3) := by decide +kernel
theorem dX9_region_64 : decode cX9_region 64 = .ok (.iload_n 1, 1) := by decide +kernel
theorem dX9_region_65 : decode cX9_region 65 = .ok (.aaload, 1) := by decide +kernel
theorem dX9_region_66 : decode cX9_region 66 = .ok (.getfield 57, 3) := by decide +kernel
theorem dX9_region_69 : decode cX9_region 69 = .ok (.iload_n 2, 1) := by decide +kernel
theorem dX9_region_70 : decode cX9_region 70 = .ok (.aaload, 1) := by decide +kernel
theorem dX9_region_71 : decode cX9_region 71 = .ok (.iload_n 3, 1) := by decide +kernel
theorem dX9_region_72 : decode cX9_region 72 = .ok (.iload 4, 2) := by decide +kernel
theorem dX9_region_74 : decode cX9_region 74 = .ok (.iload 5, 2) := by decide +kernel
theorem dX9_region_76 : decode cX9_region 76 = .ok (.invokevirtual 61, 3) := by decide +kernel
theorem dX9_region_79 : decode cX9_region 79 = .ok (.return_, 1) := by decide +kernel
set_option maxHeartbeats 4000000 in
set_option maxRecDepth 100000 in
theorem c_X9_region (l : Launch) (hst : l.stackTraces = false) (E : EE) (z0 : Nat) (G : Nat → Nat) (hGz : ∀ q, G q ≠ 0 → z0 ≤ q) (h0 : Nat) (p0 p1 p2 p3 p4 : Int32) (hG : G h0 = 1) : vx_Met l yX9_region [Cond.code yX9_region cX9_region 6 none] ({ frames := 7, cells := 2, slots := 12, locals := 101 } : Room) (va_Pc [.ref h0, .int p0, .int p1, .int p2, .int p3, .int p4] (fun U => TH E (T0 E) G [] U.heap ∧ KS E z0 U)) (va_Qv (fun (_ : Unit) => (0 ≤ p0.toInt ∧ p0.toInt < 2 ∧ 0 ≤ p1.toInt ∧ p1.toInt < 6 ∧ 0 ≤ p4.toInt ∧ p4.toInt ≤ 7 ∧ 0 ≤ p2.toInt ∧ 0 ≤ p3.toInt ∧ p3.toInt ≤ 32 - p2.toInt)) (fun _ _ => True) (fun q : Nat => G q ≠ 0)) (vx_X (fun (_ : Unit) => True) (fun En _ _ => En = IAE ∧ ¬ (0 ≤ p0.toInt ∧ p0.toInt < 2 ∧ 0 ≤ p1.toInt ∧ p1.toInt < 6 ∧ 0 ≤ p4.toInt ∧ p4.toInt ≤ 7 ∧ 0 ≤ p2.toInt ∧ 0 ≤ p3.toInt ∧ p3.toInt ≤ 32 - p2.toInt)) (fun q : Nat => G q ≠ 0)) 2 12 (fun q : Nat => G q ≠ 0) := by
  refine vx_ofW (cc := cX9_region) (maxL := 6) (ret := none) (by decide) rfl ?_
  intro p e s m args below meth c s₁ B hml hne hv
  obtain ⟨rfl, hT, hK⟩ := hv
  have hx := B.exec
  have hb := B.bytes
  have hr := B.returns
  have hts : ∀ w ∈ TS, w.before ([.ref h0, .int p0, .int p1, .int p2, .int p3, .int p4] : List Value).toArray s = true := fun w hw => hK.2.1 w hw _
  have hown : s.vm.findClass RX9 = some m.cls := findClass_of_methodNamed B.named
  have hlocks := B.notSynchronized
  have hS : va_S (fun q : Nat => G q ≠ 0) s.heap s.heap [] := va_S.rf
  have hAz : ∀ q, (fun q : Nat => G q ≠ 0) q → z0 ≤ q := hGz
  have hl := lv_entry ([.ref h0, .int p0, .int p1, .int p2, .int p3, .int p4]) (n := 6) (Nat.le_of_ble_eq_true rfl)
  rw [lg_entry_eq]
  generalize (lg_sl ([.ref h0, .int p0, .int p1, .int p2, .int p3, .int p4]) ++ List.replicate (6 - (lg_sl ([.ref h0, .int p0, .int p1, .int p2, .int p3, .int p4])).length) Slot.unset).toArray = ls at hl ⊢
  have hl : lv_has ls 6 [(0, .ref h0), (1, .int p0), (2, .int p1), (3, .int p2), (4, .int p3), (5, .int p4)] := hl
  refine lv_iload_n hx hb dX9_region_0 rfl (lv_at hl 1 rfl) ?_
  refine W.callR (W.runS (As := [.int p0]) (rest := []) ⟨hx, hb, hml, hown, hts⟩ (c_X9_isNode l p0) (cwS 1 hts (gdS ml_X9_46 st_X9_isNode in_X9 co_X9_isNode rfl) rfl rfl rfl (by decide +kernel) ⟨Nat.le_of_ble_eq_true rfl, Nat.le_of_ble_eq_true rfl⟩) preEq rfl rfl hl.1 rfl (lv_room (Nat.le_of_ble_eq_true rfl)) dX9_region_1 ⟨Nat.le_of_ble_eq_true rfl, Nat.le_of_ble_eq_true rfl⟩) ?_
  refine W.eq (g2 := F0 m 4 ls [.int (bI (0 ≤ p0.toInt ∧ p0.toInt < 2))]) (by rfl) ?_
  refine lv_if_eq (tgt := 30) hx hb dX9_region_4 (by decide) (fun c_1 => ?_) (fun c_1 => ?_)
  · have c_1 := bI_0 c_1
    refine lv_iconst (v := 0) hx hb dX9_region_30 (by decide) ?_
    refine vx_callv (rxS (fun _ => True) (As := [.int 0]) (rest := []) ⟨hx, hb, hml, hown, hts⟩ (c_X9_require l hst E z0 0) (cwS 1 hts (gdS ml_X9_53 st_X9_require in_X9 co_X9_require rfl) rfl rfl rfl (by decide +kernel) ⟨Nat.le_of_ble_eq_true rfl, Nat.le_of_ble_eq_true rfl⟩) trivial (fun U hU hW => hK.go hW hS hAz hU) rfl rfl hl.1 rfl (lv_room (Nat.le_of_ble_eq_true rfl)) dX9_region_31 ⟨Nat.le_of_ble_eq_true rfl, Nat.le_of_ble_eq_true rfl⟩) hS (fun q _ h => h.elim) (fun q h => h.elim) (fun q _ h => h.elim) (fun En ce q9 _ t H locs ht hvm hw hB hz hk hS hc1 hc2 hc3 => ?_) (fun _ t H locs ht hvm hw hB hz hk hS => absurd rfl hw)
    subst hB
    exact vx_out (fun x hx => (hne x hx).elim) hlocks hc1 hc2 hc3 (fun t ht hA => ⟨(), trivial, ⟨rfl, by omega⟩, hS.F ht⟩) hS.2.2 (Nat.le_of_ble_eq_true rfl) (Nat.le_of_ble_eq_true rfl)
  · have c_1 := bI_n c_1
    refine lv_iload_n hx hb dX9_region_7 rfl (lv_at hl 2 rfl) ?_
    refine W.callR (W.runS (As := [.int p1]) (rest := []) ⟨hx, hb, hml, hown, hts⟩ (c_X9_isRegion l p1) (cwS 1 hts (gdS ml_X9_50 st_X9_isRegion in_X9 co_X9_isRegion rfl) rfl rfl rfl (by decide +kernel) ⟨Nat.le_of_ble_eq_true rfl, Nat.le_of_ble_eq_true rfl⟩) preEq rfl rfl hl.1 rfl (lv_room (Nat.le_of_ble_eq_true rfl)) dX9_region_8 ⟨Nat.le_of_ble_eq_true rfl, Nat.le_of_ble_eq_true rfl⟩) ?_
    refine W.eq (g2 := F0 m 11 ls [.int (bI (0 ≤ p1.toInt ∧ p1.toInt < 6))]) (by rfl) ?_
    refine lv_if_eq (tgt := 30) hx hb dX9_region_11 (by decide) (fun c_2 => ?_) (fun c_2 => ?_)
    · have c_2 := bI_0 c_2
      refine lv_iconst (v := 0) hx hb dX9_region_30 (by decide) ?_
      refine vx_callv (rxS (fun _ => True) (As := [.int 0]) (rest := []) ⟨hx, hb, hml, hown, hts⟩ (c_X9_require l hst E z0 0) (cwS 1 hts (gdS ml_X9_53 st_X9_require in_X9 co_X9_require rfl) rfl rfl rfl (by decide +kernel) ⟨Nat.le_of_ble_eq_true rfl, Nat.le_of_ble_eq_true rfl⟩) trivial (fun U hU hW => hK.go hW hS hAz hU) rfl rfl hl.1 rfl (lv_room (Nat.le_of_ble_eq_true rfl)) dX9_region_31 ⟨Nat.le_of_ble_eq_true rfl, Nat.le_of_ble_eq_true rfl⟩) hS (fun q _ h => h.elim) (fun q h => h.elim) (fun q _ h => h.elim) (fun En ce q9 _ t H locs ht hvm hw hB hz hk hS hc1 hc2 hc3 => ?_) (fun _ t H locs ht hvm hw hB hz hk hS => absurd rfl hw)
      subst hB
      exact vx_out (fun x hx => (hne x hx).elim) hlocks hc1 hc2 hc3 (fun t ht hA => ⟨(), trivial, ⟨rfl, by omega⟩, hS.F ht⟩) hS.2.2 (Nat.le_of_ble_eq_true rfl) (Nat.le_of_ble_eq_true rfl)
    · have c_2 := bI_n c_2
      refine lv_iload hx hb dX9_region_14 (lv_at hl 5 rfl) ?_
      refine lv_if_lt (tgt := 30) hx hb dX9_region_16 (by decide) (fun c_3 => ?_) (fun c_3 => ?_)
      · simp only [lt_I, le_I, eq_I, i_0, i_1, i_2, i_3, i_4, i_5, i_6, i_7, i_8, i_10, i_12, i_16, i_20, i_23, i_24, i_31, i_32, i_63, i_64, i_m1] at c_3
        refine lv_iconst (v := 0) hx hb dX9_region_30 (by decide) ?_
        refine vx_callv (rxS (fun _ => True) (As := [.int 0]) (rest := []) ⟨hx, hb, hml, hown, hts⟩ (c_X9_require l hst E z0 0) (cwS 1 hts (gdS ml_X9_53 st_X9_require in_X9 co_X9_require rfl) rfl rfl rfl (by decide +kernel) ⟨Nat.le_of_ble_eq_true rfl, Nat.le_of_ble_eq_true rfl⟩) trivial (fun U hU hW => hK.go hW hS hAz hU) rfl rfl hl.1 rfl (lv_room (Nat.le_of_ble_eq_true rfl)) dX9_region_31 ⟨Nat.le_of_ble_eq_true rfl, Nat.le_of_ble_eq_true rfl⟩) hS (fun q _ h => h.elim) (fun q h => h.elim) (fun q _ h => h.elim) (fun En ce q9 _ t H locs ht hvm hw hB hz hk hS hc1 hc2 hc3 => ?_) (fun _ t H locs ht hvm hw hB hz hk hS => absurd rfl hw)
        subst hB
        exact vx_out (fun x hx => (hne x hx).elim) hlocks hc1 hc2 hc3 (fun t ht hA => ⟨(), trivial, ⟨rfl, by omega⟩, hS.F ht⟩) hS.2.2 (Nat.le_of_ble_eq_true rfl) (Nat.le_of_ble_eq_true rfl)
      · simp only [lt_I, le_I, eq_I, i_0, i_1, i_2, i_3, i_4, i_5, i_6, i_7, i_8, i_10, i_12, i_16, i_20, i_23, i_24, i_31, i_32, i_63, i_64, i_m1] at c_3
        refine lv_iload hx hb dX9_region_19 (lv_at hl 5 rfl) ?_
        refine lv_bipush (v := 7) hx hb dX9_region_21 (by decide) ?_
        refine lv_icmp_gt (tgt := 30) hx hb dX9_region_23 (by decide) (fun c_4 => ?_) (fun c_4 => ?_)
        · simp only [lt_I, le_I, eq_I, i_0, i_1, i_2, i_3, i_4, i_5, i_6, i_7, i_8, i_10, i_12, i_16, i_20, i_23, i_24, i_31, i_32, i_63, i_64, i_m1] at c_4
          refine lv_iconst (v := 0) hx hb dX9_region_30 (by decide) ?_
          refine vx_callv (rxS (fun _ => True) (As := [.int 0]) (rest := []) ⟨hx, hb, hml, hown, hts⟩ (c_X9_require l hst E z0 0) (cwS 1 hts (gdS ml_X9_53 st_X9_require in_X9 co_X9_require rfl) rfl rfl rfl (by decide +kernel) ⟨Nat.le_of_ble_eq_true rfl, Nat.le_of_ble_eq_true rfl⟩) trivial (fun U hU hW => hK.go hW hS hAz hU) rfl rfl hl.1 rfl (lv_room (Nat.le_of_ble_eq_true rfl)) dX9_region_31 ⟨Nat.le_of_ble_eq_true rfl, Nat.le_of_ble_eq_true rfl⟩) hS (fun q _ h => h.elim) (fun q h => h.elim) (fun q _ h => h.elim) (fun En ce q9 _ t H locs ht hvm hw hB hz hk hS hc1 hc2 hc3 => ?_) (fun _ t H locs ht hvm hw hB hz hk hS => absurd rfl hw)
          subst hB
          exact vx_out (fun x hx => (hne x hx).elim) hlocks hc1 hc2 hc3 (fun t ht hA => ⟨(), trivial, ⟨rfl, by omega⟩, hS.F ht⟩) hS.2.2 (Nat.le_of_ble_eq_true rfl) (Nat.le_of_ble_eq_true rfl)
        · simp only [lt_I, le_I, eq_I, i_0, i_1, i_2, i_3, i_4, i_5, i_6, i_7, i_8, i_10, i_12, i_16, i_20, i_23, i_24, i_31, i_32, i_63, i_64, i_m1] at c_4
          refine lv_iconst (v := 1) hx hb dX9_region_26 (by decide) ?_
          refine lv_goto (tgt := 31) hx hb dX9_region_27 (by decide) ?_
          refine vx_callv (rxS (fun _ => True) (As := [.int 1]) (rest := []) ⟨hx, hb, hml, hown, hts⟩ (c_X9_require l hst E z0 1) (cwS 1 hts (gdS ml_X9_53 st_X9_require in_X9 co_X9_require rfl) rfl rfl rfl (by decide +kernel) ⟨Nat.le_of_ble_eq_true rfl, Nat.le_of_ble_eq_true rfl⟩) trivial (fun U hU hW => hK.go hW hS hAz hU) rfl rfl hl.1 rfl (lv_room (Nat.le_of_ble_eq_true rfl)) dX9_region_31 ⟨Nat.le_of_ble_eq_true rfl, Nat.le_of_ble_eq_true rfl⟩) hS (fun q _ h => h.elim) (fun q h => h.elim) (fun q _ h => h.elim) (fun En ce q9 _ t H locs ht hvm hw hB hz hk hS hc1 hc2 hc3 => absurd hw (by decide)) (fun _ t H locs ht hvm hw hB hz hk hS => ?_)
          have hT : TH E (T0 E) G [] H := hT.kept (fun q hq => hk q hq (fun h => h))
          refine lv_iload_n hx hb dX9_region_34 rfl (lv_at hl 3 rfl) ?_
          refine lv_if_lt (tgt := 56) hx hb dX9_region_35 (by decide) (fun c_5 => ?_) (fun c_5 => ?_)
          · simp only [lt_I, le_I, eq_I, i_0, i_1, i_2, i_3, i_4, i_5, i_6, i_7, i_8, i_10, i_12, i_16, i_20, i_23, i_24, i_31, i_32, i_63, i_64, i_m1] at c_5
            refine lv_iconst (v := 0) hx hb dX9_region_56 (by decide) ?_
            refine vx_callv (rxS (fun _ => True) (As := [.int 0]) (rest := []) ⟨hx, hb, hml, hown, hts⟩ (c_X9_require l hst E z0 0) (cwS 1 hts (gdS ml_X9_53 st_X9_require in_X9 co_X9_require rfl) rfl rfl rfl (by decide +kernel) ⟨Nat.le_of_ble_eq_true rfl, Nat.le_of_ble_eq_true rfl⟩) trivial (fun U hU hW => hK.go hW hS hAz hU) rfl rfl hl.1 rfl (lv_room (Nat.le_of_ble_eq_true rfl)) dX9_region_57 ⟨Nat.le_of_ble_eq_true rfl, Nat.le_of_ble_eq_true rfl⟩) hS (fun q _ h => h.elim) (fun q h => h.elim) (fun q _ h => h.elim) (fun En ce q9 _ t H locs ht hvm hw hB hz hk hS hc1 hc2 hc3 => ?_) (fun _ t H locs ht hvm hw hB hz hk hS => absurd rfl hw)
            subst hB
            exact vx_out (fun x hx => (hne x hx).elim) hlocks hc1 hc2 hc3 (fun t ht hA => ⟨(), trivial, ⟨rfl, by omega⟩, hS.F ht⟩) hS.2.2 (Nat.le_of_ble_eq_true rfl) (Nat.le_of_ble_eq_true rfl)
          · simp only [lt_I, le_I, eq_I, i_0, i_1, i_2, i_3, i_4, i_5, i_6, i_7, i_8, i_10, i_12, i_16, i_20, i_23, i_24, i_31, i_32, i_63, i_64, i_m1] at c_5
            refine lv_iload hx hb dX9_region_38 (lv_at hl 4 rfl) ?_
            refine lv_if_lt (tgt := 56) hx hb dX9_region_40 (by decide) (fun c_6 => ?_) (fun c_6 => ?_)
            · simp only [lt_I, le_I, eq_I, i_0, i_1, i_2, i_3, i_4, i_5, i_6, i_7, i_8, i_10, i_12, i_16, i_20, i_23, i_24, i_31, i_32, i_63, i_64, i_m1] at c_6
              refine lv_iconst (v := 0) hx hb dX9_region_56 (by decide) ?_
              refine vx_callv (rxS (fun _ => True) (As := [.int 0]) (rest := []) ⟨hx, hb, hml, hown, hts⟩ (c_X9_require l hst E z0 0) (cwS 1 hts (gdS ml_X9_53 st_X9_require in_X9 co_X9_require rfl) rfl rfl rfl (by decide +kernel) ⟨Nat.le_of_ble_eq_true rfl, Nat.le_of_ble_eq_true rfl⟩) trivial (fun U hU hW => hK.go hW hS hAz hU) rfl rfl hl.1 rfl (lv_room (Nat.le_of_ble_eq_true rfl)) dX9_region_57 ⟨Nat.le_of_ble_eq_true rfl, Nat.le_of_ble_eq_true rfl⟩) hS (fun q _ h => h.elim) (fun q h => h.elim) (fun q _ h => h.elim) (fun En ce q9 _ t H locs ht hvm hw hB hz hk hS hc1 hc2 hc3 => ?_) (fun _ t H locs ht hvm hw hB hz hk hS => absurd rfl hw)
              subst hB
              exact vx_out (fun x hx => (hne x hx).elim) hlocks hc1 hc2 hc3 (fun t ht hA => ⟨(), trivial, ⟨rfl, by omega⟩, hS.F ht⟩) hS.2.2 (Nat.le_of_ble_eq_true rfl) (Nat.le_of_ble_eq_true rfl)
            · simp only [lt_I, le_I, eq_I, i_0, i_1, i_2, i_3, i_4, i_5, i_6, i_7, i_8, i_10, i_12, i_16, i_20, i_23, i_24, i_31, i_32, i_63, i_64, i_m1] at c_6
              refine lv_iload hx hb dX9_region_43 (lv_at hl 4 rfl) ?_
              refine lv_bipush (v := 32) hx hb dX9_region_45 (by decide) ?_
              refine lv_iload_n hx hb dX9_region_47 rfl (lv_at hl 3 rfl) ?_
              refine lv_isub hx hb dX9_region_48 ?_
              have bd_7 := s_bd p2
              have fs_7 : (32 - p2 : Int32).toInt = 32 - p2.toInt := by have h9 := s_sub (x := 32) (y := p2) (by rw [i_32]; omega) (by rw [i_32]; omega); rw [i_32] at h9; exact h9
              refine lv_icmp_gt (tgt := 56) hx hb dX9_region_49 (by decide) (fun c_8 => ?_) (fun c_8 => ?_)
              · simp only [lt_I, le_I, eq_I, i_0, i_1, i_2, i_3, i_4, i_5, i_6, i_7, i_8, i_10, i_12, i_16, i_20, i_23, i_24, i_31, i_32, i_63, i_64, i_m1] at c_8
                refine lv_iconst (v := 0) hx hb dX9_region_56 (by decide) ?_
                refine vx_callv (rxS (fun _ => True) (As := [.int 0]) (rest := []) ⟨hx, hb, hml, hown, hts⟩ (c_X9_require l hst E z0 0) (cwS 1 hts (gdS ml_X9_53 st_X9_require in_X9 co_X9_require rfl) rfl rfl rfl (by decide +kernel) ⟨Nat.le_of_ble_eq_true rfl, Nat.le_of_ble_eq_true rfl⟩) trivial (fun U hU hW => hK.go hW hS hAz hU) rfl rfl hl.1 rfl (lv_room (Nat.le_of_ble_eq_true rfl)) dX9_region_57 ⟨Nat.le_of_ble_eq_true rfl, Nat.le_of_ble_eq_true rfl⟩) hS (fun q _ h => h.elim) (fun q h => h.elim) (fun q _ h => h.elim) (fun En ce q9 _ t H locs ht hvm hw hB hz hk hS hc1 hc2 hc3 => ?_) (fun _ t H locs ht hvm hw hB hz hk hS => absurd rfl hw)
                subst hB
                exact vx_out (fun x hx => (hne x hx).elim) hlocks hc1 hc2 hc3 (fun t ht hA => ⟨(), trivial, ⟨rfl, by omega⟩, hS.F ht⟩) hS.2.2 (Nat.le_of_ble_eq_true rfl) (Nat.le_of_ble_eq_true rfl)
              · simp only [lt_I, le_I, eq_I, i_0, i_1, i_2, i_3, i_4, i_5, i_6, i_7, i_8, i_10, i_12, i_16, i_20, i_23, i_24, i_31, i_32, i_63, i_64, i_m1] at c_8
                refine lv_iconst (v := 1) hx hb dX9_region_52 (by decide) ?_
                refine lv_goto (tgt := 57) hx hb dX9_region_53 (by decide) ?_
                refine vx_callv (rxS (fun _ => True) (As := [.int 1]) (rest := []) ⟨hx, hb, hml, hown, hts⟩ (c_X9_require l hst E z0 1) (cwS 1 hts (gdS ml_X9_53 st_X9_require in_X9 co_X9_require rfl) rfl rfl rfl (by decide +kernel) ⟨Nat.le_of_ble_eq_true rfl, Nat.le_of_ble_eq_true rfl⟩) trivial (fun U hU hW => hK.go hW hS hAz hU) rfl rfl hl.1 rfl (lv_room (Nat.le_of_ble_eq_true rfl)) dX9_region_57 ⟨Nat.le_of_ble_eq_true rfl, Nat.le_of_ble_eq_true rfl⟩) hS (fun q _ h => h.elim) (fun q h => h.elim) (fun q _ h => h.elim) (fun En ce q9 _ t H locs ht hvm hw hB hz hk hS hc1 hc2 hc3 => absurd hw (by decide)) (fun _ t H locs ht hvm hw hB hz hk hS => ?_)
                have hT : TH E (T0 E) G [] H := hT.kept (fun q hq => hk q hq (fun h => h))
                refine lv_aload_n hx hb dX9_region_60 rfl (lv_at hl 0 rfl) ?_
                obtain ⟨n_9, p_9, f_9, ha_9, hg_9_0, hg_9_1, hg_9_2⟩ := tg_1 hT hG nx_0
                refine va_get (D := DG E) (ci := 9) (v := .ref n_9) (C := RX9) (T := TX9) (N := 3) hx hb hts iw_X9 hown hK.1 (va_one ha_9) 0 rfl rfl 0 (by decide) (hts _ fl_X9_22) (fun _ h9 => h9) rfl dX9_region_61 ?_
                refine lv_iload_n hx hb dX9_region_64 rfl (lv_at hl 1 rfl) ?_
                obtain ⟨f_10, ha_10, he_10⟩ := tg_2 hT hg_9_0 nx_0
                obtain ⟨j_ha_10, hj_ha_10, ej_ha_10⟩ := vp_in_of (show vp_in p0 2 from vp_in_iff.mpr (by omega)) (by decide)
                obtain ⟨b_ha_10, eb_ha_10, gb_ha_10⟩ := he_10 j_ha_10 hj_ha_10
                have cj_ha_10 : f_10 (p0 : Int32).toNatClampNeg = some b_ha_10 := by rw [ej_ha_10, nI_clamp (by omega)]; exact eb_ha_10
                refine va_aldq (D := DG E) hx hb hK.1 (va_one ha_10) 0 3 rfl rfl (show vp_in p0 2 from vp_in_iff.mpr (by omega)) dX9_region_65 ?_
                rw [cj_ha_10]
                refine W.eq (g2 := F0 m 66 ls [.ref b_ha_10]) (by rfl) ?_
                obtain ⟨cs_11, rg_11, rn_11, ha_11, hg_11_0, hg_11_1, hg_11_2⟩ := tg_5 hT gb_ha_10 nx_0
                refine va_get (D := DG E) (ci := 1) (v := .ref rg_11) (C := RX1) (T := TX1) (N := 5) hx hb hts iw_X1 hown hK.1 (va_one ha_11) 0 rfl rfl 1 (by decide) (hts _ fl_X9_57) (fun _ h9 => h9) rfl dX9_region_66 ?_
                refine lv_iload_n hx hb dX9_region_69 rfl (lv_at hl 2 rfl) ?_
                obtain ⟨f_12, ha_12, he_12⟩ := tg_6 hT hg_11_1 nx_0
                obtain ⟨j_ha_12, hj_ha_12, ej_ha_12⟩ := vp_in_of (show vp_in p1 6 from vp_in_iff.mpr (by omega)) (by decide)
                obtain ⟨b_ha_12, eb_ha_12, gb_ha_12⟩ := he_12 j_ha_12 hj_ha_12
                have cj_ha_12 : f_12 (p1 : Int32).toNatClampNeg = some b_ha_12 := by rw [ej_ha_12, nI_clamp (by omega)]; exact eb_ha_12
                refine va_aldq (D := DG E) hx hb hK.1 (va_one ha_12) 0 4 rfl rfl (show vp_in p1 6 from vp_in_iff.mpr (by omega)) dX9_region_70 ?_
                rw [cj_ha_12]
                refine W.eq (g2 := F0 m 71 ls [.ref b_ha_12]) (by rfl) ?_
                refine lv_iload_n hx hb dX9_region_71 rfl (lv_at hl 3 rfl) ?_
                refine lv_iload hx hb dX9_region_72 (lv_at hl 4 rfl) ?_
                refine lv_iload hx hb dX9_region_74 (lv_at hl 5 rfl) ?_
                have ha_13 := tg_7 hT gb_ha_12 nx_0
                refine va_callv (rnV (fun H => TH E (T0 E) G [] H) (As := [.int p2, .int p3, .int p4]) (rest := []) ⟨hx, hb, hml, hown, hts⟩ (c_X6_become l E z0 G hGz b_ha_12 p2 p3 p4 gb_ha_12) (cwV 3 hts (gdV ml_X9_61 im_X6_become se_X6_X6_become in_X6 co_X6_become rfl) rfl rfl rfl (by decide +kernel) ⟨Nat.le_of_ble_eq_true rfl, Nat.le_of_ble_eq_true rfl⟩) hT (fun U hU hW => hK.go hW hS hAz hU) (va_recv hK.1 (va_one ha_13) (ci := 6) (q0 := 0) rfl rfl) rfl rfl hl.1 rfl (lv_room (Nat.le_of_ble_eq_true rfl)) dX9_region_76 ⟨Nat.le_of_ble_eq_true rfl, Nat.le_of_ble_eq_true rfl⟩) hS (fun q _ h => h) (fun q h => h) (fun _ t H locs ht hvm hw hB hz hk hS => ?_)
                refine vx_ret ?_
                refine W.widen (k := 2) (n := 12) (Nat.le_of_ble_eq_true rfl) (Nat.le_of_ble_eq_true rfl) ?_
                exact W.vret hx hb hr (fun t ht hW => ⟨⟨(), rfl, (by omega), trivial⟩, hS.F ht⟩) hS.2.2 dX9_region_79
theorem dX9_store_0 : decode cX9_store 0 = .ok (.iload_n 1, 1) := by decide +kernel
theorem dX9_store_1 : decode cX9_store 1 = .ok (.invokestatic 46, 3) := by decide +kernel
theorem dX9_store_4 : decode cX9_store 4 = .ok (.ifCond .eq 14, 3) := by decide +kernel
theorem dX9_store_7 : decode cX9_store 7 = .ok (.iload_n 2, 1) := by decide +kernel
theorem dX9_store_8 : decode cX9_store 8 = .ok (.invokestatic 67, 3) := by decide +kernel
theorem dX9_store_11 : decode cX9_store 11 = .ok (.ifCond .eq 7, 3) := by decide +kernel
theorem dX9_store_14 : decode cX9_store 14 = .ok (.iconst 1, 1) := by decide +kernel
theorem dX9_store_15 : decode cX9_store 15 = .ok (.goto 4, 3) := by decide +kernel
theorem dX9_store_18 : decode cX9_store 18 = .ok (.iconst 0, 1) := by decide +kernel
theorem dX9_store_19 : decode cX9_store 19 = .ok (.invokestatic 53, 3) := by decide +kernel
theorem dX9_store_22 : decode cX9_store 22 = .ok (.aload_n 0, 1) := by decide +kernel
theorem dX9_store_23 : decode cX9_store 23 = .ok (.getfield 22, 3) := by decide +kernel
theorem dX9_store_26 : decode cX9_store 26 = .ok (.iload_n 1, 1) := by decide +kernel
theorem dX9_store_27 : decode cX9_store 27 = .ok (.aaload, 1) := by decide +kernel
theorem dX9_store_28 : decode cX9_store 28 = .ok (.iload_n 2, 1) := by decide +kernel
theorem dX9_store_29 : decode cX9_store 29 = .ok (.iload_n 3, 1) := by decide +kernel
theorem dX9_store_30 : decode cX9_store 30 = .ok (.invokevirtual 70, 3) := by decide +kernel
theorem dX9_store_33 : decode cX9_store 33 = .ok (.return_, 1) := by decide +kernel
set_option maxHeartbeats 4000000 in
set_option maxRecDepth 100000 in
theorem c_X9_store (l : Launch) (hst : l.stackTraces = false) (E : EE) (z0 : Nat) (G : Nat → Nat) (hGz : ∀ q, G q ≠ 0 → z0 ≤ q) (h0 : Nat) (p0 p1 p2 : Int32) (hG : G h0 = 1) : vx_Met l yX9_store [Cond.code yX9_store cX9_store 4 none] ({ frames := 7, cells := 1, slots := 6, locals := 101 } : Room) (va_Pc [.ref h0, .int p0, .int p1, .int p2] (fun U => TH E (T0 E) G [] U.heap ∧ KS E z0 U)) (va_Qv (fun (_ : Unit) => (0 ≤ p0.toInt ∧ p0.toInt < 2 ∧ 0 ≤ p1.toInt ∧ p1.toInt < 32)) (fun _ _ => True) (fun q : Nat => G q ≠ 0)) (vx_X (fun (_ : Unit) => True) (fun En _ _ => En = IAE ∧ ¬ (0 ≤ p0.toInt ∧ p0.toInt < 2 ∧ 0 ≤ p1.toInt ∧ p1.toInt < 32)) (fun q : Nat => G q ≠ 0)) 1 6 (fun q : Nat => G q ≠ 0) := by
  refine vx_ofW (cc := cX9_store) (maxL := 4) (ret := none) (by decide) rfl ?_
  intro p e s m args below meth c s₁ B hml hne hv
  obtain ⟨rfl, hT, hK⟩ := hv
  have hx := B.exec
  have hb := B.bytes
  have hr := B.returns
  have hts : ∀ w ∈ TS, w.before ([.ref h0, .int p0, .int p1, .int p2] : List Value).toArray s = true := fun w hw => hK.2.1 w hw _
  have hown : s.vm.findClass RX9 = some m.cls := findClass_of_methodNamed B.named
  have hlocks := B.notSynchronized
  have hS : va_S (fun q : Nat => G q ≠ 0) s.heap s.heap [] := va_S.rf
  have hAz : ∀ q, (fun q : Nat => G q ≠ 0) q → z0 ≤ q := hGz
  have hl := lv_entry ([.ref h0, .int p0, .int p1, .int p2]) (n := 4) (Nat.le_of_ble_eq_true rfl)
  rw [lg_entry_eq]
  generalize (lg_sl ([.ref h0, .int p0, .int p1, .int p2]) ++ List.replicate (4 - (lg_sl ([.ref h0, .int p0, .int p1, .int p2])).length) Slot.unset).toArray = ls at hl ⊢
  have hl : lv_has ls 4 [(0, .ref h0), (1, .int p0), (2, .int p1), (3, .int p2)] := hl
  refine lv_iload_n hx hb dX9_store_0 rfl (lv_at hl 1 rfl) ?_
  refine W.callR (W.runS (As := [.int p0]) (rest := []) ⟨hx, hb, hml, hown, hts⟩ (c_X9_isNode l p0) (cwS 1 hts (gdS ml_X9_46 st_X9_isNode in_X9 co_X9_isNode rfl) rfl rfl rfl (by decide +kernel) ⟨Nat.le_of_ble_eq_true rfl, Nat.le_of_ble_eq_true rfl⟩) preEq rfl rfl hl.1 rfl (lv_room (Nat.le_of_ble_eq_true rfl)) dX9_store_1 ⟨Nat.le_of_ble_eq_true rfl, Nat.le_of_ble_eq_true rfl⟩) ?_
  refine W.eq (g2 := F0 m 4 ls [.int (bI (0 ≤ p0.toInt ∧ p0.toInt < 2))]) (by rfl) ?_
  refine lv_if_eq (tgt := 18) hx hb dX9_store_4 (by decide) (fun c_1 => ?_) (fun c_1 => ?_)
  · have c_1 := bI_0 c_1
    refine lv_iconst (v := 0) hx hb dX9_store_18 (by decide) ?_
    refine vx_callv (rxS (fun _ => True) (As := [.int 0]) (rest := []) ⟨hx, hb, hml, hown, hts⟩ (c_X9_require l hst E z0 0) (cwS 1 hts (gdS ml_X9_53 st_X9_require in_X9 co_X9_require rfl) rfl rfl rfl (by decide +kernel) ⟨Nat.le_of_ble_eq_true rfl, Nat.le_of_ble_eq_true rfl⟩) trivial (fun U hU hW => hK.go hW hS hAz hU) rfl rfl hl.1 rfl (lv_room (Nat.le_of_ble_eq_true rfl)) dX9_store_19 ⟨Nat.le_of_ble_eq_true rfl, Nat.le_of_ble_eq_true rfl⟩) hS (fun q _ h => h.elim) (fun q h => h.elim) (fun q _ h => h.elim) (fun En ce q9 _ t H locs ht hvm hw hB hz hk hS hc1 hc2 hc3 => ?_) (fun _ t H locs ht hvm hw hB hz hk hS => absurd rfl hw)
    subst hB
    exact vx_out (fun x hx => (hne x hx).elim) hlocks hc1 hc2 hc3 (fun t ht hA => ⟨(), trivial, ⟨rfl, by omega⟩, hS.F ht⟩) hS.2.2 (Nat.le_of_ble_eq_true rfl) (Nat.le_of_ble_eq_true rfl)
  · have c_1 := bI_n c_1
    refine lv_iload_n hx hb dX9_store_7 rfl (lv_at hl 2 rfl) ?_
    refine W.callR (W.runS (As := [.int p1]) (rest := []) ⟨hx, hb, hml, hown, hts⟩ (c_X9_isCell l p1) (cwS 1 hts (gdS ml_X9_67 st_X9_isCell in_X9 co_X9_isCell rfl) rfl rfl rfl (by decide +kernel) ⟨Nat.le_of_ble_eq_true rfl, Nat.le_of_ble_eq_true rfl⟩) preEq rfl rfl hl.1 rfl (lv_room (Nat.le_of_ble_eq_true rfl)) dX9_store_8 ⟨Nat.le_of_ble_eq_true rfl, Nat.le_of_ble_eq_true rfl⟩) ?_
    refine W.eq (g2 := F0 m 11 ls [.int (bI (0 ≤ p1.toInt ∧ p1.toInt < 32))]) (by rfl) ?_
    refine lv_if_eq (tgt := 18) hx hb dX9_store_11 (by decide) (fun c_2 => ?_) (fun c_2 => ?_)
    · have c_2 := bI_0 c_2
      refine lv_iconst (v := 0) hx hb dX9_store_18 (by decide) ?_
      refine vx_callv (rxS (fun _ => True) (As := [.int 0]) (rest := []) ⟨hx, hb, hml, hown, hts⟩ (c_X9_require l hst E z0 0) (cwS 1 hts (gdS ml_X9_53 st_X9_require in_X9 co_X9_require rfl) rfl rfl rfl (by decide +kernel) ⟨Nat.le_of_ble_eq_true rfl, Nat.le_of_ble_eq_true rfl⟩) trivial (fun U hU hW => hK.go hW hS hAz hU) rfl rfl hl.1 rfl (lv_room (Nat.le_of_ble_eq_true rfl)) dX9_store_19 ⟨Nat.le_of_ble_eq_true rfl, Nat.le_of_ble_eq_true rfl⟩) hS (fun q _ h => h.elim) (fun q h => h.elim) (fun q _ h => h.elim) (fun En ce q9 _ t H locs ht hvm hw hB hz hk hS hc1 hc2 hc3 => ?_) (fun _ t H locs ht hvm hw hB hz hk hS => absurd rfl hw)
      subst hB
      exact vx_out (fun x hx => (hne x hx).elim) hlocks hc1 hc2 hc3 (fun t ht hA => ⟨(), trivial, ⟨rfl, by omega⟩, hS.F ht⟩) hS.2.2 (Nat.le_of_ble_eq_true rfl) (Nat.le_of_ble_eq_true rfl)
    · have c_2 := bI_n c_2
      refine lv_iconst (v := 1) hx hb dX9_store_14 (by decide) ?_
      refine lv_goto (tgt := 19) hx hb dX9_store_15 (by decide) ?_
      refine vx_callv (rxS (fun _ => True) (As := [.int 1]) (rest := []) ⟨hx, hb, hml, hown, hts⟩ (c_X9_require l hst E z0 1) (cwS 1 hts (gdS ml_X9_53 st_X9_require in_X9 co_X9_require rfl) rfl rfl rfl (by decide +kernel) ⟨Nat.le_of_ble_eq_true rfl, Nat.le_of_ble_eq_true rfl⟩) trivial (fun U hU hW => hK.go hW hS hAz hU) rfl rfl hl.1 rfl (lv_room (Nat.le_of_ble_eq_true rfl)) dX9_store_19 ⟨Nat.le_of_ble_eq_true rfl, Nat.le_of_ble_eq_true rfl⟩) hS (fun q _ h => h.elim) (fun q h => h.elim) (fun q _ h => h.elim) (fun En ce q9 _ t H locs ht hvm hw hB hz hk hS hc1 hc2 hc3 => absurd hw (by decide)) (fun _ t H locs ht hvm hw hB hz hk hS => ?_)
      have hT : TH E (T0 E) G [] H := hT.kept (fun q hq => hk q hq (fun h => h))
      refine lv_aload_n hx hb dX9_store_22 rfl (lv_at hl 0 rfl) ?_
      obtain ⟨n_3, p_3, f_3, ha_3, hg_3_0, hg_3_1, hg_3_2⟩ := tg_1 hT hG nx_0
      refine va_get (D := DG E) (ci := 9) (v := .ref n_3) (C := RX9) (T := TX9) (N := 3) hx hb hts iw_X9 hown hK.1 (va_one ha_3) 0 rfl rfl 0 (by decide) (hts _ fl_X9_22) (fun _ h9 => h9) rfl dX9_store_23 ?_
      refine lv_iload_n hx hb dX9_store_26 rfl (lv_at hl 1 rfl) ?_
      obtain ⟨f_4, ha_4, he_4⟩ := tg_2 hT hg_3_0 nx_0
      obtain ⟨j_ha_4, hj_ha_4, ej_ha_4⟩ := vp_in_of (show vp_in p0 2 from vp_in_iff.mpr (by omega)) (by decide)
      obtain ⟨b_ha_4, eb_ha_4, gb_ha_4⟩ := he_4 j_ha_4 hj_ha_4
      have cj_ha_4 : f_4 (p0 : Int32).toNatClampNeg = some b_ha_4 := by rw [ej_ha_4, nI_clamp (by omega)]; exact eb_ha_4
      refine va_aldq (D := DG E) hx hb hK.1 (va_one ha_4) 0 3 rfl rfl (show vp_in p0 2 from vp_in_iff.mpr (by omega)) dX9_store_27 ?_
      rw [cj_ha_4]
      refine W.eq (g2 := F0 m 28 ls [.ref b_ha_4]) (by rfl) ?_
      refine lv_iload_n hx hb dX9_store_28 rfl (lv_at hl 2 rfl) ?_
      refine lv_iload_n hx hb dX9_store_29 rfl (lv_at hl 3 rfl) ?_
      obtain ⟨cs_5, rg_5, rn_5, ha_5, hg_5_0, hg_5_1, hg_5_2⟩ := tg_5 hT gb_ha_4 nx_0
      refine va_callv (rnV (fun H => TH E (T0 E) G [] H) (As := [.int p1, .int p2]) (rest := []) ⟨hx, hb, hml, hown, hts⟩ (c_X1_put l E z0 G hGz b_ha_4 p1 p2 gb_ha_4) (cwV 2 hts (gdV ml_X9_70 im_X1_put se_X1_X1_put in_X1 co_X1_put rfl) rfl rfl rfl (by decide +kernel) ⟨Nat.le_of_ble_eq_true rfl, Nat.le_of_ble_eq_true rfl⟩) hT (fun U hU hW => hK.go hW hS hAz hU) (va_recv hK.1 (va_one ha_5) (ci := 1) (q0 := 0) rfl rfl) rfl rfl hl.1 rfl (lv_room (Nat.le_of_ble_eq_true rfl)) dX9_store_30 ⟨Nat.le_of_ble_eq_true rfl, Nat.le_of_ble_eq_true rfl⟩) hS (fun q _ h => h) (fun q h => h) (fun _ t H locs ht hvm hw hB hz hk hS => ?_)
      refine vx_ret ?_
      refine W.widen (k := 1) (n := 6) (Nat.le_of_ble_eq_true rfl) (Nat.le_of_ble_eq_true rfl) ?_
      exact W.vret hx hb hr (fun t ht hW => ⟨⟨(), rfl, (by omega), trivial⟩, hS.F ht⟩) hS.2.2 dX9_store_33
theorem dX9_cell_0 : decode cX9_cell 0 = .ok (.iload_n 1, 1) := by decide +kernel
theorem dX9_cell_1 : decode cX9_cell 1 = .ok (.invokestatic 46, 3) := by decide +kernel
theorem dX9_cell_4 : decode cX9_cell 4 = .ok (.ifCond .eq 16, 3) := by decide +kernel
theorem dX9_cell_7 : decode cX9_cell 7 = .ok (.aload_n 0, 1) := by decide +kernel
theorem dX9_cell_8 : decode cX9_cell 8 = .ok (.getfield 22, 3) := by decide +kernel
theorem dX9_cell_11 : decode cX9_cell 11 = .ok (.iload_n 1, 1) := by decide +kernel
theorem dX9_cell_12 : decode cX9_cell 12 = .ok (.aaload, 1) := by decide +kernel
theorem dX9_cell_13 : decode cX9_cell 13 = .ok (.iload_n 2, 1) := by decide +kernel
theorem dX9_cell_14 : decode cX9_cell 14 = .ok (.invokevirtual 74, 3) := by decide +kernel
theorem dX9_cell_17 : decode cX9_cell 17 = .ok (.goto 4, 3) := by decide +kernel
theorem dX9_cell_20 : decode cX9_cell 20 = .ok (.iconst 0, 1) := by decide +kernel
theorem dX9_cell_21 : decode cX9_cell 21 = .ok (.ireturn, 1) := by decide +kernel
set_option maxHeartbeats 4000000 in
set_option maxRecDepth 100000 in
theorem c_X9_cell (l : Launch) (E : EE) (z0 : Nat) (G : Nat → Nat) (hGz : ∀ q, G q ≠ 0 → z0 ≤ q) (h0 : Nat) (p0 p1 : Int32) (hG : G h0 = 1) : Met l yX9_cell [Cond.code yX9_cell cX9_cell 3 (some .int)] ({ frames := 2, cells := 0, slots := 0, locals := 41 } : Room) (va_Pc [.ref h0, .int p0, .int p1] (fun U => TH E (T0 E) G [] U.heap ∧ KS E z0 U)) (va_Qi (fun (r : Int32) (_ : Unit) => r = 0) (fun _ _ => True) (fun _ : Nat => False)) 0 0 (fun _ : Nat => False) := by
  refine Met.ofW (cc := cX9_cell) (maxL := 3) (ret := (some .int)) (by decide) rfl ?_
  intro p e s m args below meth c s₁ B hml hv
  obtain ⟨rfl, hT, hK⟩ := hv
  have hx := B.exec
  have hb := B.bytes
  have hr := B.returns
  have hts : ∀ w ∈ TS, w.before ([.ref h0, .int p0, .int p1] : List Value).toArray s = true := fun w hw => hK.2.1 w hw _
  have hown : s.vm.findClass RX9 = some m.cls := findClass_of_methodNamed B.named
  have hlocks := B.notSynchronized
  have hS : va_S (fun _ : Nat => False) s.heap s.heap [] := va_S.rf
  have hAz : ∀ q, (fun _ : Nat => False) q → z0 ≤ q := fun _ h => h.elim
  have hl := lv_entry ([.ref h0, .int p0, .int p1]) (n := 3) (Nat.le_of_ble_eq_true rfl)
  rw [lg_entry_eq]
  generalize (lg_sl ([.ref h0, .int p0, .int p1]) ++ List.replicate (3 - (lg_sl ([.ref h0, .int p0, .int p1])).length) Slot.unset).toArray = ls at hl ⊢
  have hl : lv_has ls 3 [(0, .ref h0), (1, .int p0), (2, .int p1)] := hl
  refine lv_iload_n hx hb dX9_cell_0 rfl (lv_at hl 1 rfl) ?_
  refine W.callR (W.runS (As := [.int p0]) (rest := []) ⟨hx, hb, hml, hown, hts⟩ (c_X9_isNode l p0) (cwS 1 hts (gdS ml_X9_46 st_X9_isNode in_X9 co_X9_isNode rfl) rfl rfl rfl (by decide +kernel) ⟨Nat.le_of_ble_eq_true rfl, Nat.le_of_ble_eq_true rfl⟩) preEq rfl rfl hl.1 rfl (lv_room (Nat.le_of_ble_eq_true rfl)) dX9_cell_1 ⟨Nat.le_of_ble_eq_true rfl, Nat.le_of_ble_eq_true rfl⟩) ?_
  refine W.eq (g2 := F0 m 4 ls [.int (bI (0 ≤ p0.toInt ∧ p0.toInt < 2))]) (by rfl) ?_
  refine lv_if_eq (tgt := 20) hx hb dX9_cell_4 (by decide) (fun c_1 => ?_) (fun c_1 => ?_)
  · have c_1 := bI_0 c_1
    refine lv_iconst (v := 0) hx hb dX9_cell_20 (by decide) ?_
    exact W.iret (v := 0) hx hb hr (fun t ht hW => ⟨⟨0, (), rfl, rfl, trivial⟩, hS.F ht⟩) hS.2.2 dX9_cell_21
  · have c_1 := bI_n c_1
    refine lv_aload_n hx hb dX9_cell_7 rfl (lv_at hl 0 rfl) ?_
    obtain ⟨n_2, p_2, f_2, ha_2, hg_2_0, hg_2_1, hg_2_2⟩ := tg_1 hT hG nx_0
    refine va_get (D := DG E) (ci := 9) (v := .ref n_2) (C := RX9) (T := TX9) (N := 3) hx hb hts iw_X9 hown hK.1 (va_one ha_2) 0 rfl rfl 0 (by decide) (hts _ fl_X9_22) (fun _ h9 => h9) rfl dX9_cell_8 ?_
    refine lv_iload_n hx hb dX9_cell_11 rfl (lv_at hl 1 rfl) ?_
    obtain ⟨f_3, ha_3, he_3⟩ := tg_2 hT hg_2_0 nx_0
    obtain ⟨j_ha_3, hj_ha_3, ej_ha_3⟩ := vp_in_of (show vp_in p0 2 from vp_in_iff.mpr (by omega)) (by decide)
    obtain ⟨b_ha_3, eb_ha_3, gb_ha_3⟩ := he_3 j_ha_3 hj_ha_3
    have cj_ha_3 : f_3 (p0 : Int32).toNatClampNeg = some b_ha_3 := by rw [ej_ha_3, nI_clamp (by omega)]; exact eb_ha_3
    refine va_aldq (D := DG E) hx hb hK.1 (va_one ha_3) 0 3 rfl rfl (show vp_in p0 2 from vp_in_iff.mpr (by omega)) dX9_cell_12 ?_
    rw [cj_ha_3]
    refine W.eq (g2 := F0 m 13 ls [.ref b_ha_3]) (by rfl) ?_
    refine lv_iload_n hx hb dX9_cell_13 rfl (lv_at hl 2 rfl) ?_
    obtain ⟨cs_4, rg_4, rn_4, ha_4, hg_4_0, hg_4_1, hg_4_2⟩ := tg_5 hT gb_ha_3 nx_0
    refine va_calli (rnV (fun H => TH E (T0 E) G [] H) (As := [.int p1]) (rest := []) ⟨hx, hb, hml, hown, hts⟩ (c_X1_at l E z0 G hGz b_ha_3 p1 gb_ha_3) (cwV 1 hts (gdV ml_X9_74 im_X1_at se_X1_X1_at in_X1 co_X1_at rfl) rfl rfl rfl (by decide +kernel) ⟨Nat.le_of_ble_eq_true rfl, Nat.le_of_ble_eq_true rfl⟩) hT (fun U hU hW => hK.go hW hS hAz hU) (va_recv hK.1 (va_one ha_4) (ci := 1) (q0 := 0) rfl rfl) rfl rfl hl.1 rfl (lv_room (Nat.le_of_ble_eq_true rfl)) dX9_cell_14 ⟨Nat.le_of_ble_eq_true rfl, Nat.le_of_ble_eq_true rfl⟩) hS (fun q _ h => h.elim) (fun q h => h.elim) (fun r_5 _ t H locs ht hvm hw hB hz hk hS => ?_)
    have hT : TH E (T0 E) G [] H := hT.kept (fun q hq => hk q hq (fun h => h))
    obtain rfl : r_5 = 0 := hw
    refine lv_goto (tgt := 21) hx hb dX9_cell_17 (by decide) ?_
    exact W.iret (v := 0) hx hb hr (fun t ht hW => ⟨⟨0, (), rfl, rfl, trivial⟩, hS.F ht⟩) hS.2.2 dX9_cell_21
theorem dX3_start_0 : decode cX3_start 0 = .ok (.aload_n 0, 1) := by decide +kernel
theorem dX3_start_1 : decode cX3_start 1 = .ok (.iconst 1, 1) := by decide +kernel
theorem dX3_start_2 : decode cX3_start 2 = .ok (.putfield 19, 3) := by decide +kernel
theorem dX3_start_5 : decode cX3_start 5 = .ok (.aload_n 0, 1) := by decide +kernel
theorem dX3_start_6 : decode cX3_start 6 = .ok (.getfield 9, 3) := by decide +kernel
theorem dX3_start_9 : decode cX3_start 9 = .ok (.iload_n 1, 1) := by decide +kernel
theorem dX3_start_10 : decode cX3_start 10 = .ok (.invokevirtual 31, 3) := by decide +kernel
theorem dX3_start_13 : decode cX3_start 13 = .ok (.aload_n 0, 1) := by decide +kernel
theorem dX3_start_14 : decode cX3_start 14 = .ok (.getfield 15, 3) := by decide +kernel
theorem dX3_start_17 : decode cX3_start 17 = .ok (.iload_n 2, 1) := by decide +kernel
theorem dX3_start_18 : decode cX3_start 18 = .ok (.putfield 35, 3) := by decide +kernel
theorem dX3_start_21 : decode cX3_start 21 = .ok (.return_, 1) := by decide +kernel
set_option maxHeartbeats 4000000 in
set_option maxRecDepth 100000 in
theorem c_X3_start (l : Launch) (E : EE) (z0 : Nat) (G : Nat → Nat) (hGz : ∀ q, G q ≠ 0 → z0 ≤ q) (h0 : Nat) (p0 p1 : Int32) (hG : G h0 = 8) : Met l yX3_start [Cond.code yX3_start cX3_start 3 none] ({ frames := 1, cells := 0, slots := 0, locals := 21 } : Room) (va_Pc [.ref h0, .int p0, .int p1] (fun U => TH E (T0 E) G [] U.heap ∧ KS E z0 U)) (va_Qv (fun (_ : Unit) => True) (fun _ _ => True) (fun q : Nat => G q ≠ 0)) 0 0 (fun q : Nat => G q ≠ 0) := by
  refine Met.ofW (cc := cX3_start) (maxL := 3) (ret := none) (by decide) rfl ?_
  intro p e s m args below meth c s₁ B hml hv
  obtain ⟨rfl, hT, hK⟩ := hv
  have hx := B.exec
  have hb := B.bytes
  have hr := B.returns
  have hts : ∀ w ∈ TS, w.before ([.ref h0, .int p0, .int p1] : List Value).toArray s = true := fun w hw => hK.2.1 w hw _
  have hown : s.vm.findClass RX3 = some m.cls := findClass_of_methodNamed B.named
  have hlocks := B.notSynchronized
  have hS : va_S (fun q : Nat => G q ≠ 0) s.heap s.heap [] := va_S.rf
  have hAz : ∀ q, (fun q : Nat => G q ≠ 0) q → z0 ≤ q := hGz
  have hl := lv_entry ([.ref h0, .int p0, .int p1]) (n := 3) (Nat.le_of_ble_eq_true rfl)
  rw [lg_entry_eq]
  generalize (lg_sl ([.ref h0, .int p0, .int p1]) ++ List.replicate (3 - (lg_sl ([.ref h0, .int p0, .int p1])).length) Slot.unset).toArray = ls at hl ⊢
  have hl : lv_has ls 3 [(0, .ref h0), (1, .int p0), (2, .int p1)] := hl
  refine lv_aload_n hx hb dX3_start_0 rfl (lv_at hl 0 rfl) ?_
  refine lv_iconst (v := 1) hx hb dX3_start_1 (by decide) ?_
  obtain ⟨rq_1, rs_1, ha_1, hg_1_0, hg_1_1⟩ := tg_8 hT hG nx_0
  refine rr_put (D := DG E) (ci := 3) (v := .int 1) (ty := .int) (C := RX3) (T := TX3) (N := 3) hx hb hts iw_X3 tyX3 tyX3_ok nmX3 hown hK.1 ha_1 hS (by show G h0 ≠ 0; rw [hG]; decide) rfl 2 (by decide) (hts _ fl_X3_19) (fun _ h9 => h9) rfl (by decide +kernel) rfl rfl (Nat.le_of_ble_eq_true rfl) dX3_start_2 (fun H locs hn ho hz hS => ?_)
  have hr_2 : va_at (DG E) vwCl (h0, .inr (3, [.ref rq_1, .ref rs_1, .int 1])) H := hn
  have hT : TH E (T0 E) G [h0] H := hT.keptx (fun q hq => List.mem_append_left [h0] hq) (fun q _ hq => ho q (fun e => hq (by rw [e]; simp)))
  refine lv_aload_n hx hb dX3_start_5 rfl (lv_at hl 0 rfl) ?_
  refine va_get (D := DG E) (ci := 3) (v := .ref rq_1) (C := RX3) (T := TX3) (N := 3) hx hb hts iw_X3 hown hK.1 (va_one hr_2) 0 rfl rfl 0 (by decide) (hts _ fl_X3_9) (fun _ h9 => h9) rfl dX3_start_6 ?_
  refine lv_iload_n hx hb dX3_start_9 rfl (lv_at hl 1 rfl) ?_
  obtain ⟨pe_3, nd_3, fa_3, to_3, mt_3, mr_3, rq_3, ha_3, hg_3_0, hg_3_1, hg_3_2⟩ := tg_9 hT hg_1_0 (nx_1 (ne_G hg_1_0 hG (by decide)) nx_0)
  refine va_callv (rnV (fun H => TH E (T0 E) G [h0] H) (As := [.int p0]) (rest := []) ⟨hx, hb, hml, hown, hts⟩ (c_X7_start l E z0 G hGz rq_1 p0 hg_1_0 h0 hG) (cwV 1 hts (gdV ml_X3_31 im_X7_start se_X7_X7_start in_X7 co_X7_start rfl) rfl rfl rfl (by decide +kernel) ⟨Nat.le_of_ble_eq_true rfl, Nat.le_of_ble_eq_true rfl⟩) hT (fun U hU hW => hK.go hW hS hAz hU) (va_recv hK.1 (va_one ha_3) (ci := 7) (q0 := 0) rfl rfl) rfl rfl hl.1 rfl (lv_room (Nat.le_of_ble_eq_true rfl)) dX3_start_10 ⟨Nat.le_of_ble_eq_true rfl, Nat.le_of_ble_eq_true rfl⟩) hS (fun q _ h => by rw [h]; show G _ ≠ 0; rw [hg_1_0]; decide) (fun q h => by rw [h]; show G _ ≠ 0; rw [hg_1_0]; decide) (fun _ t H locs ht hvm hw hB hz hk hS => ?_)
  have hT : TH E (T0 E) G [h0, rq_1] H := hT.keptx (fun q hq => List.mem_append_left [rq_1] hq) (fun q hz hq => hk q hz (fun e => hq (by rw [e]; simp)))
  have hr_2 := hr_2.kept (hk _ hr_2.lt (ne_G hG hg_1_0 (by decide)))
  refine lv_aload_n hx hb dX3_start_13 rfl (lv_at hl 0 rfl) ?_
  refine va_get (D := DG E) (ci := 3) (v := .ref rs_1) (C := RX3) (T := TX3) (N := 3) hx hb hts iw_X3 hown hK.1 (va_one hr_2) 0 rfl rfl 1 (by decide) (hts _ fl_X3_15) (fun _ h9 => h9) rfl dX3_start_14 ?_
  refine lv_iload_n hx hb dX3_start_17 rfl (lv_at hl 2 rfl) ?_
  obtain ⟨pe_5, nd_5, fa_5, rc_5, an_5, ar_5, ha_5, hg_5_0, hg_5_1, hg_5_2, hg_5_3, hg_5_4⟩ := tg_10 hT hg_1_1 (nx_1 (ne_G hg_1_1 hG (by decide)) (nx_1 (ne_G hg_1_1 hg_1_0 (by decide)) nx_0))
  refine rr_put (D := DG E) (ci := 8) (v := .int p1) (ty := .int) (C := RX8) (T := TX8) (N := 9) hx hb hts iw_X8 tyX8 tyX8_ok nmX8 hown hK.1 ha_5 hS (by show G rs_1 ≠ 0; rw [hg_1_1]; decide) rfl 4 (by decide) (hts _ fl_X3_35) (fun _ h9 => h9) rfl (by decide +kernel) rfl rfl (Nat.le_of_ble_eq_true rfl) dX3_start_18 (fun H locs hn ho hz hS => ?_)
  have hr_6 : va_at (DG E) vwCl (rs_1, .inr (8, [.int pe_5, .ref nd_5, .ref fa_5, .ref rc_5, .int p1, .int 0, .int 0, .ref an_5, .ref ar_5])) H := hn
  have hr_2 := hr_2.kept (ho _ (ne_G hG hg_1_1 (by decide)))
  have hT : TH E (T0 E) G [h0, rq_1, rs_1] H := hT.keptx (fun q hq => List.mem_append_left [rs_1] hq) (fun q _ hq => ho q (fun e => hq (by rw [e]; simp)))
  exact W.vret hx hb hr (fun t ht hW => ⟨⟨(), rfl, trivial, trivial⟩, hS.F ht⟩) hS.2.2 dX3_start_21
theorem dX9_ready_0 : decode cX9_ready 0 = .ok (.iload_n 1, 1) := by decide +kernel
theorem dX9_ready_1 : decode cX9_ready 1 = .ok (.invokestatic 78, 3) := by decide +kernel
theorem dX9_ready_4 : decode cX9_ready 4 = .ok (.ifCond .eq 21, 3) := by decide +kernel
theorem dX9_ready_7 : decode cX9_ready 7 = .ok (.iload_n 2, 1) := by decide +kernel
theorem dX9_ready_8 : decode cX9_ready 8 = .ok (.invokestatic 81, 3) := by decide +kernel
theorem dX9_ready_11 : decode cX9_ready 11 = .ok (.ifCond .eq 14, 3) := by decide +kernel
theorem dX9_ready_14 : decode cX9_ready 14 = .ok (.iload_n 3, 1) := by decide +kernel
theorem dX9_ready_15 : decode cX9_ready 15 = .ok (.invokestatic 81, 3) := by decide +kernel
theorem dX9_ready_18 : decode cX9_ready 18 = .ok (.ifCond .eq 7, 3) := by decide +kernel
theorem dX9_ready_21 : decode cX9_ready 21 = .ok (.iconst 1, 1) := by decide +kernel
theorem dX9_ready_22 : decode cX9_ready 22 = .ok (.goto 4, 3) := by decide +kernel
theorem dX9_ready_25 : decode cX9_ready 25 = .ok (.iconst 0, 1) := by decide +kernel
theorem dX9_ready_26 : decode cX9_ready 26 = .ok (.invokestatic 53, 3) := by decide +kernel
theorem dX9_ready_29 : decode cX9_ready 29 = .ok (.aload_n 0, 1) := by decide +kernel
theorem dX9_ready_30 : decode cX9_ready 30 = .ok (.getfield 29, 3) := by decide +kernel
theorem dX9_ready_33 : decode cX9_ready 33 = .ok (.iload_n 1, 1) := by decide +kernel
theorem dX9_ready_34 : decode cX9_ready 34 = .ok (.aaload, 1) := by decide +kernel
theorem dX9_ready_35 : decode cX9_ready 35 = .ok (.getfield 84, 3) := by decide +kernel
theorem dX9_ready_38 : decode cX9_ready 38 = .ok (.ifCond .ne 7, 3) := by decide +kernel
theorem dX9_ready_41 : decode cX9_ready 41 = .ok (.iconst 1, 1) := by decide +kernel
theorem dX9_ready_42 : decode cX9_ready 42 = .ok (.goto 4, 3) := by decide +kernel
theorem dX9_ready_45 : decode cX9_ready 45 = .ok (.iconst 0, 1) := by decide +kernel
theorem dX9_ready_46 : decode cX9_ready 46 = .ok (.invokestatic 88, 3) := by decide +kernel
theorem dX9_ready_49 : decode cX9_ready 49 = .ok (.aload_n 0, 1) := by decide +kernel
theorem dX9_ready_50 : decode cX9_ready 50 = .ok (.getfield 29, 3) := by decide +kernel
theorem dX9_ready_53 : decode cX9_ready 53 = .ok (.iload_n 1, 1) := by decide +kernel
theorem dX9_ready_54 : decode cX9_ready 54 = .ok (.aaload, 1) := by decide +kernel
theorem dX9_ready_55 : decode cX9_ready 55 = .ok (.iload_n 2, 1) := by decide +kernel
theorem dX9_ready_56 : decode cX9_ready 56 = .ok (.iload_n 3, 1) := by decide +kernel
theorem dX9_ready_57 : decode cX9_ready 57 = .ok (.invokevirtual 91, 3) := by decide +kernel
theorem dX9_ready_60 : decode cX9_ready 60 = .ok (.return_, 1) := by decide +kernel
set_option maxHeartbeats 4000000 in
set_option maxRecDepth 100000 in
theorem c_X9_ready (l : Launch) (hst : l.stackTraces = false) (E : EE) (z0 : Nat) (G : Nat → Nat) (hGz : ∀ q, G q ≠ 0 → z0 ≤ q) (h0 : Nat) (p0 p1 p2 : Int32) (hG : G h0 = 1) : vx_Met l yX9_ready [Cond.code yX9_ready cX9_ready 4 none] ({ frames := 7, cells := 2, slots := 12, locals := 101 } : Room) (va_Pc [.ref h0, .int p0, .int p1, .int p2] (fun U => TH E (T0 E) G [] U.heap ∧ KS E z0 U)) (va_Qv (fun (_ : Unit) => (0 ≤ p0.toInt ∧ p0.toInt < 4 ∧ 0 ≤ p1.toInt ∧ p1.toInt < 64 ∧ 0 ≤ p2.toInt ∧ p2.toInt < 64)) (fun _ _ => True) (fun q : Nat => G q ≠ 0)) (vx_X (fun (_ : Unit) => True) (fun En _ _ => En = IAE ∧ ¬ (0 ≤ p0.toInt ∧ p0.toInt < 4 ∧ 0 ≤ p1.toInt ∧ p1.toInt < 64 ∧ 0 ≤ p2.toInt ∧ p2.toInt < 64)) (fun q : Nat => G q ≠ 0)) 2 12 (fun q : Nat => G q ≠ 0) := by
  refine vx_ofW (cc := cX9_ready) (maxL := 4) (ret := none) (by decide) rfl ?_
  intro p e s m args below meth c s₁ B hml hne hv
  obtain ⟨rfl, hT, hK⟩ := hv
  have hx := B.exec
  have hb := B.bytes
  have hr := B.returns
  have hts : ∀ w ∈ TS, w.before ([.ref h0, .int p0, .int p1, .int p2] : List Value).toArray s = true := fun w hw => hK.2.1 w hw _
  have hown : s.vm.findClass RX9 = some m.cls := findClass_of_methodNamed B.named
  have hlocks := B.notSynchronized
  have hS : va_S (fun q : Nat => G q ≠ 0) s.heap s.heap [] := va_S.rf
  have hAz : ∀ q, (fun q : Nat => G q ≠ 0) q → z0 ≤ q := hGz
  have hl := lv_entry ([.ref h0, .int p0, .int p1, .int p2]) (n := 4) (Nat.le_of_ble_eq_true rfl)
  rw [lg_entry_eq]
  generalize (lg_sl ([.ref h0, .int p0, .int p1, .int p2]) ++ List.replicate (4 - (lg_sl ([.ref h0, .int p0, .int p1, .int p2])).length) Slot.unset).toArray = ls at hl ⊢
  have hl : lv_has ls 4 [(0, .ref h0), (1, .int p0), (2, .int p1), (3, .int p2)] := hl
  refine lv_iload_n hx hb dX9_ready_0 rfl (lv_at hl 1 rfl) ?_
  refine W.callR (W.runS (As := [.int p0]) (rest := []) ⟨hx, hb, hml, hown, hts⟩ (c_X9_isPair l p0) (cwS 1 hts (gdS ml_X9_78 st_X9_isPair in_X9 co_X9_isPair rfl) rfl rfl rfl (by decide +kernel) ⟨Nat.le_of_ble_eq_true rfl, Nat.le_of_ble_eq_true rfl⟩) preEq rfl rfl hl.1 rfl (lv_room (Nat.le_of_ble_eq_true rfl)) dX9_ready_1 ⟨Nat.le_of_ble_eq_true rfl, Nat.le_of_ble_eq_true rfl⟩) ?_
  refine W.eq (g2 := F0 m 4 ls [.int (bI (0 ≤ p0.toInt ∧ p0.toInt < 4))]) (by rfl) ?_
  refine lv_if_eq (tgt := 25) hx hb dX9_ready_4 (by decide) (fun c_1 => ?_) (fun c_1 => ?_)
  · have c_1 := bI_0 c_1
    refine lv_iconst (v := 0) hx hb dX9_ready_25 (by decide) ?_
    refine vx_callv (rxS (fun _ => True) (As := [.int 0]) (rest := []) ⟨hx, hb, hml, hown, hts⟩ (c_X9_require l hst E z0 0) (cwS 1 hts (gdS ml_X9_53 st_X9_require in_X9 co_X9_require rfl) rfl rfl rfl (by decide +kernel) ⟨Nat.le_of_ble_eq_true rfl, Nat.le_of_ble_eq_true rfl⟩) trivial (fun U hU hW => hK.go hW hS hAz hU) rfl rfl hl.1 rfl (lv_room (Nat.le_of_ble_eq_true rfl)) dX9_ready_26 ⟨Nat.le_of_ble_eq_true rfl, Nat.le_of_ble_eq_true rfl⟩) hS (fun q _ h => h.elim) (fun q h => h.elim) (fun q _ h => h.elim) (fun En ce q9 _ t H locs ht hvm hw hB hz hk hS hc1 hc2 hc3 => ?_) (fun _ t H locs ht hvm hw hB hz hk hS => absurd rfl hw)
    subst hB
    exact vx_out (fun x hx => (hne x hx).elim) hlocks hc1 hc2 hc3 (fun t ht hA => ⟨(), trivial, ⟨rfl, by omega⟩, hS.F ht⟩) hS.2.2 (Nat.le_of_ble_eq_true rfl) (Nat.le_of_ble_eq_true rfl)
  · have c_1 := bI_n c_1
    refine lv_iload_n hx hb dX9_ready_7 rfl (lv_at hl 2 rfl) ?_
    refine W.callR (W.runS (As := [.int p1]) (rest := []) ⟨hx, hb, hml, hown, hts⟩ (c_X9_isNumber l p1) (cwS 1 hts (gdS ml_X9_81 st_X9_isNumber in_X9 co_X9_isNumber rfl) rfl rfl rfl (by decide +kernel) ⟨Nat.le_of_ble_eq_true rfl, Nat.le_of_ble_eq_true rfl⟩) preEq rfl rfl hl.1 rfl (lv_room (Nat.le_of_ble_eq_true rfl)) dX9_ready_8 ⟨Nat.le_of_ble_eq_true rfl, Nat.le_of_ble_eq_true rfl⟩) ?_
    refine W.eq (g2 := F0 m 11 ls [.int (bI (0 ≤ p1.toInt ∧ p1.toInt < 64))]) (by rfl) ?_
    refine lv_if_eq (tgt := 25) hx hb dX9_ready_11 (by decide) (fun c_2 => ?_) (fun c_2 => ?_)
    · have c_2 := bI_0 c_2
      refine lv_iconst (v := 0) hx hb dX9_ready_25 (by decide) ?_
      refine vx_callv (rxS (fun _ => True) (As := [.int 0]) (rest := []) ⟨hx, hb, hml, hown, hts⟩ (c_X9_require l hst E z0 0) (cwS 1 hts (gdS ml_X9_53 st_X9_require in_X9 co_X9_require rfl) rfl rfl rfl (by decide +kernel) ⟨Nat.le_of_ble_eq_true rfl, Nat.le_of_ble_eq_true rfl⟩) trivial (fun U hU hW => hK.go hW hS hAz hU) rfl rfl hl.1 rfl (lv_room (Nat.le_of_ble_eq_true rfl)) dX9_ready_26 ⟨Nat.le_of_ble_eq_true rfl, Nat.le_of_ble_eq_true rfl⟩) hS (fun q _ h => h.elim) (fun q h => h.elim) (fun q _ h => h.elim) (fun En ce q9 _ t H locs ht hvm hw hB hz hk hS hc1 hc2 hc3 => ?_) (fun _ t H locs ht hvm hw hB hz hk hS => absurd rfl hw)
      subst hB
      exact vx_out (fun x hx => (hne x hx).elim) hlocks hc1 hc2 hc3 (fun t ht hA => ⟨(), trivial, ⟨rfl, by omega⟩, hS.F ht⟩) hS.2.2 (Nat.le_of_ble_eq_true rfl) (Nat.le_of_ble_eq_true rfl)
    · have c_2 := bI_n c_2
      refine lv_iload_n hx hb dX9_ready_14 rfl (lv_at hl 3 rfl) ?_
      refine W.callR (W.runS (As := [.int p2]) (rest := []) ⟨hx, hb, hml, hown, hts⟩ (c_X9_isNumber l p2) (cwS 1 hts (gdS ml_X9_81 st_X9_isNumber in_X9 co_X9_isNumber rfl) rfl rfl rfl (by decide +kernel) ⟨Nat.le_of_ble_eq_true rfl, Nat.le_of_ble_eq_true rfl⟩) preEq rfl rfl hl.1 rfl (lv_room (Nat.le_of_ble_eq_true rfl)) dX9_ready_15 ⟨Nat.le_of_ble_eq_true rfl, Nat.le_of_ble_eq_true rfl⟩) ?_
      refine W.eq (g2 := F0 m 18 ls [.int (bI (0 ≤ p2.toInt ∧ p2.toInt < 64))]) (by rfl) ?_
      refine lv_if_eq (tgt := 25) hx hb dX9_ready_18 (by decide) (fun c_3 => ?_) (fun c_3 => ?_)
      · have c_3 := bI_0 c_3
        refine lv_iconst (v := 0) hx hb dX9_ready_25 (by decide) ?_
        refine vx_callv (rxS (fun _ => True) (As := [.int 0]) (rest := []) ⟨hx, hb, hml, hown, hts⟩ (c_X9_require l hst E z0 0) (cwS 1 hts (gdS ml_X9_53 st_X9_require in_X9 co_X9_require rfl) rfl rfl rfl (by decide +kernel) ⟨Nat.le_of_ble_eq_true rfl, Nat.le_of_ble_eq_true rfl⟩) trivial (fun U hU hW => hK.go hW hS hAz hU) rfl rfl hl.1 rfl (lv_room (Nat.le_of_ble_eq_true rfl)) dX9_ready_26 ⟨Nat.le_of_ble_eq_true rfl, Nat.le_of_ble_eq_true rfl⟩) hS (fun q _ h => h.elim) (fun q h => h.elim) (fun q _ h => h.elim) (fun En ce q9 _ t H locs ht hvm hw hB hz hk hS hc1 hc2 hc3 => ?_) (fun _ t H locs ht hvm hw hB hz hk hS => absurd rfl hw)
        subst hB
        exact vx_out (fun x hx => (hne x hx).elim) hlocks hc1 hc2 hc3 (fun t ht hA => ⟨(), trivial, ⟨rfl, by omega⟩, hS.F ht⟩) hS.2.2 (Nat.le_of_ble_eq_true rfl) (Nat.le_of_ble_eq_true rfl)
      · have c_3 := bI_n c_3
        refine lv_iconst (v := 1) hx hb dX9_ready_21 (by decide) ?_
        refine lv_goto (tgt := 26) hx hb dX9_ready_22 (by decide) ?_
        refine vx_callv (rxS (fun _ => True) (As := [.int 1]) (rest := []) ⟨hx, hb, hml, hown, hts⟩ (c_X9_require l hst E z0 1) (cwS 1 hts (gdS ml_X9_53 st_X9_require in_X9 co_X9_require rfl) rfl rfl rfl (by decide +kernel) ⟨Nat.le_of_ble_eq_true rfl, Nat.le_of_ble_eq_true rfl⟩) trivial (fun U hU hW => hK.go hW hS hAz hU) rfl rfl hl.1 rfl (lv_room (Nat.le_of_ble_eq_true rfl)) dX9_ready_26 ⟨Nat.le_of_ble_eq_true rfl, Nat.le_of_ble_eq_true rfl⟩) hS (fun q _ h => h.elim) (fun q h => h.elim) (fun q _ h => h.elim) (fun En ce q9 _ t H locs ht hvm hw hB hz hk hS hc1 hc2 hc3 => absurd hw (by decide)) (fun _ t H locs ht hvm hw hB hz hk hS => ?_)
        have hT : TH E (T0 E) G [] H := hT.kept (fun q hq => hk q hq (fun h => h))
        refine lv_aload_n hx hb dX9_ready_29 rfl (lv_at hl 0 rfl) ?_
        obtain ⟨n_4, p_4, f_4, ha_4, hg_4_0, hg_4_1, hg_4_2⟩ := tg_1 hT hG nx_0
        refine va_get (D := DG E) (ci := 9) (v := .ref p_4) (C := RX9) (T := TX9) (N := 3) hx hb hts iw_X9 hown hK.1 (va_one ha_4) 0 rfl rfl 1 (by decide) (hts _ fl_X9_29) (fun _ h9 => h9) rfl dX9_ready_30 ?_
        refine lv_iload_n hx hb dX9_ready_33 rfl (lv_at hl 1 rfl) ?_
        obtain ⟨f_5, ha_5, he_5⟩ := tg_3 hT hg_4_1 nx_0
        obtain ⟨j_ha_5, hj_ha_5, ej_ha_5⟩ := vp_in_of (show vp_in p0 4 from vp_in_iff.mpr (by omega)) (by decide)
        obtain ⟨b_ha_5, eb_ha_5, gb_ha_5⟩ := he_5 j_ha_5 hj_ha_5
        have cj_ha_5 : f_5 (p0 : Int32).toNatClampNeg = some b_ha_5 := by rw [ej_ha_5, nI_clamp (by omega)]; exact eb_ha_5
        refine va_aldq (D := DG E) hx hb hK.1 (va_one ha_5) 0 5 rfl rfl (show vp_in p0 4 from vp_in_iff.mpr (by omega)) dX9_ready_34 ?_
        rw [cj_ha_5]
        refine W.eq (g2 := F0 m 35 ls [.ref b_ha_5]) (by rfl) ?_
        obtain ⟨rq_6, rs_6, ha_6, hg_6_0, hg_6_1⟩ := tg_8 hT gb_ha_5 nx_0
        refine va_get (D := DG E) (ci := 3) (v := .int 0) (C := RX3) (T := TX3) (N := 3) hx hb hts iw_X3 hown hK.1 (va_one ha_6) 0 rfl rfl 2 (by decide) (hts _ fl_X9_84) (fun _ h9 => h9) rfl dX9_ready_35 ?_
        refine lv_if_ne (tgt := 45) hx hb dX9_ready_38 (by decide) (fun c_7 => absurd c_7 (by decide)) (fun c_7 => ?_)
        refine lv_iconst (v := 1) hx hb dX9_ready_41 (by decide) ?_
        refine lv_goto (tgt := 46) hx hb dX9_ready_42 (by decide) ?_
        refine vx_callv (rxS (fun _ => True) (As := [.int 1]) (rest := []) ⟨hx, hb, hml, hown, hts⟩ (c_X9_requireState l hst E z0 1) (cwS 1 hts (gdS ml_X9_88 st_X9_requireState in_X9 co_X9_requireState rfl) rfl rfl rfl (by decide +kernel) ⟨Nat.le_of_ble_eq_true rfl, Nat.le_of_ble_eq_true rfl⟩) trivial (fun U hU hW => hK.go hW hS hAz hU) rfl rfl hl.1 rfl (lv_room (Nat.le_of_ble_eq_true rfl)) dX9_ready_46 ⟨Nat.le_of_ble_eq_true rfl, Nat.le_of_ble_eq_true rfl⟩) hS (fun q _ h => h.elim) (fun q h => h.elim) (fun q _ h => h.elim) (fun En ce q9 _ t H locs ht hvm hw hB hz hk hS hc1 hc2 hc3 => absurd hw (by decide)) (fun _ t H locs ht hvm hw hB hz hk hS => ?_)
        have hT : TH E (T0 E) G [] H := hT.kept (fun q hq => hk q hq (fun h => h))
        refine lv_aload_n hx hb dX9_ready_49 rfl (lv_at hl 0 rfl) ?_
        obtain ⟨n_8, p_8, f_8, ha_8, hg_8_0, hg_8_1, hg_8_2⟩ := tg_1 hT hG nx_0
        refine va_get (D := DG E) (ci := 9) (v := .ref p_8) (C := RX9) (T := TX9) (N := 3) hx hb hts iw_X9 hown hK.1 (va_one ha_8) 0 rfl rfl 1 (by decide) (hts _ fl_X9_29) (fun _ h9 => h9) rfl dX9_ready_50 ?_
        refine lv_iload_n hx hb dX9_ready_53 rfl (lv_at hl 1 rfl) ?_
        obtain ⟨f_9, ha_9, he_9⟩ := tg_3 hT hg_8_1 nx_0
        obtain ⟨j_ha_9, hj_ha_9, ej_ha_9⟩ := vp_in_of (show vp_in p0 4 from vp_in_iff.mpr (by omega)) (by decide)
        obtain ⟨b_ha_9, eb_ha_9, gb_ha_9⟩ := he_9 j_ha_9 hj_ha_9
        have cj_ha_9 : f_9 (p0 : Int32).toNatClampNeg = some b_ha_9 := by rw [ej_ha_9, nI_clamp (by omega)]; exact eb_ha_9
        refine va_aldq (D := DG E) hx hb hK.1 (va_one ha_9) 0 5 rfl rfl (show vp_in p0 4 from vp_in_iff.mpr (by omega)) dX9_ready_54 ?_
        rw [cj_ha_9]
        refine W.eq (g2 := F0 m 55 ls [.ref b_ha_9]) (by rfl) ?_
        refine lv_iload_n hx hb dX9_ready_55 rfl (lv_at hl 2 rfl) ?_
        refine lv_iload_n hx hb dX9_ready_56 rfl (lv_at hl 3 rfl) ?_
        obtain ⟨rq_10, rs_10, ha_10, hg_10_0, hg_10_1⟩ := tg_8 hT gb_ha_9 nx_0
        refine va_callv (rnV (fun H => TH E (T0 E) G [] H) (As := [.int p1, .int p2]) (rest := []) ⟨hx, hb, hml, hown, hts⟩ (c_X3_start l E z0 G hGz b_ha_9 p1 p2 gb_ha_9) (cwV 2 hts (gdV ml_X9_91 im_X3_start se_X3_X3_start in_X3 co_X3_start rfl) rfl rfl rfl (by decide +kernel) ⟨Nat.le_of_ble_eq_true rfl, Nat.le_of_ble_eq_true rfl⟩) hT (fun U hU hW => hK.go hW hS hAz hU) (va_recv hK.1 (va_one ha_10) (ci := 3) (q0 := 0) rfl rfl) rfl rfl hl.1 rfl (lv_room (Nat.le_of_ble_eq_true rfl)) dX9_ready_57 ⟨Nat.le_of_ble_eq_true rfl, Nat.le_of_ble_eq_true rfl⟩) hS (fun q _ h => h) (fun q h => h) (fun _ t H locs ht hvm hw hB hz hk hS => ?_)
        refine vx_ret ?_
        refine W.widen (k := 2) (n := 12) (Nat.le_of_ble_eq_true rfl) (Nat.le_of_ble_eq_true rfl) ?_
        exact W.vret hx hb hr (fun t ht hW => ⟨⟨(), rfl, (by omega), trivial⟩, hS.F ht⟩) hS.2.2 dX9_ready_60
theorem dX9_send_0 : decode cX9_send 0 = .ok (.iload_n 1, 1) := by decide +kernel
theorem dX9_send_1 : decode cX9_send 1 = .ok (.invokestatic 78, 3) := by decide +kernel
theorem dX9_send_4 : decode cX9_send 4 = .ok (.ifCond .eq 15, 3) := by decide +kernel
theorem dX9_send_7 : decode cX9_send 7 = .ok (.iload_n 2, 1) := by decide +kernel
theorem dX9_send_8 : decode cX9_send 8 = .ok (.iload_n 3, 1) := by decide +kernel
theorem dX9_send_9 : decode cX9_send 9 = .ok (.invokestatic 97, 3) := by decide +kernel
theorem dX9_send_12 : decode cX9_send 12 = .ok (.ifCond .eq 7, 3) := by decide +kernel
theorem dX9_send_15 : decode cX9_send 15 = .ok (.iconst 1, 1) := by decide +kernel
theorem dX9_send_16 : decode cX9_send 16 = .ok (.goto 4, 3) := by decide +kernel
theorem dX9_send_19 : decode cX9_send 19 = .ok (.iconst 0, 1) := by decide +kernel
theorem dX9_send_20 : decode cX9_send 20 = .ok (.invokestatic 53, 3) := by decide +kernel
theorem dX9_send_23 : decode cX9_send 23 = .ok (.aload_n 0, 1) := by decide +kernel
theorem dX9_send_24 : decode cX9_send 24 = .ok (.getfield 29, 3) := by decide +kernel
theorem dX9_send_27 : decode cX9_send 27 = .ok (.iload_n 1, 1) := by decide +kernel
theorem dX9_send_28 : decode cX9_send 28 = .ok (.aaload, 1) := by decide +kernel
theorem dX9_send_29 : decode cX9_send 29 = .ok (.invokevirtual 101, 3) := by decide +kernel
theorem dX9_send_32 : decode cX9_send 32 = .ok (.invokestatic 88, 3) := by decide +kernel
theorem dX9_send_35 : decode cX9_send 35 = .ok (.aload_n 0, 1) := by decide +kernel
theorem dX9_send_36 : decode cX9_send 36 = .ok (.getfield 29, 3) := by decide +kernel
theorem dX9_send_39 : decode cX9_send 39 = .ok (.iload_n 1, 1) := by decide +kernel
theorem dX9_send_40 : decode cX9_send 40 = .ok (.aaload, 1) := by decide +kernel
theorem dX9_send_41 : decode cX9_send 41 = .ok (.getfield 105, 3) := by decide +kernel
theorem dX9_send_44 : decode cX9_send 44 = .ok (.iconst 0, 1) := by decide +kernel
theorem dX9_send_45 : decode cX9_send 45 = .ok (.iload_n 2, 1) := by decide +kernel
theorem dX9_send_46 : decode cX9_send 46 = .ok (.iload_n 3, 1) := by decide +kernel
theorem dX9_send_47 : decode cX9_send 47 = .ok (.iconst (-1), 1) := by decide +kernel
theorem dX9_send_48 : decode cX9_send 48 = .ok (.iconst (-1), 1) := by decide +kernel
theorem dX9_send_49 : decode cX9_send 49 = .ok (.iconst 0, 1) := by decide +kernel
theorem dX9_send_50 : decode cX9_send 50 = .ok (.invokevirtual 109, 3) := by decide +kernel
theorem dX9_send_53 : decode cX9_send 53 = .ok (.ireturn, 1) := by decide +kernel
set_option maxHeartbeats 4000000 in
set_option maxRecDepth 100000 in
theorem c_X9_send (l : Launch) (hst : l.stackTraces = false) (E : EE) (z0 : Nat) (G : Nat → Nat) (hGz : ∀ q, G q ≠ 0 → z0 ≤ q) (h0 : Nat) (p0 p1 p2 : Int32) (hG : G h0 = 1) : vx_Met l yX9_send [Cond.code yX9_send cX9_send 4 (some .int)] ({ frames := 7, cells := 2, slots := 12, locals := 101 } : Room) (va_Pc [.ref h0, .int p0, .int p1, .int p2] (fun U => TH E (T0 E) G [] U.heap ∧ KS E z0 U)) (va_Qi (fun (r : Int32) (_ : Unit) => False) (fun _ _ => True) (fun q : Nat => G q ≠ 0)) (vx_X (fun (_ : Unit) => True) (fun En _ _ => (En = IAE ∧ ¬ (0 ≤ p0.toInt ∧ p0.toInt < 4 ∧ 1 ≤ p2.toInt ∧ p2.toInt ≤ 12 ∧ 0 ≤ p1.toInt ∧ p1.toInt ≤ 32 - p2.toInt)) ∨ (En = ISE ∧ (0 ≤ p0.toInt ∧ p0.toInt < 4 ∧ 1 ≤ p2.toInt ∧ p2.toInt ≤ 12 ∧ 0 ≤ p1.toInt ∧ p1.toInt ≤ 32 - p2.toInt))) (fun q : Nat => G q ≠ 0)) 2 12 (fun q : Nat => G q ≠ 0) := by
  refine vx_ofW (cc := cX9_send) (maxL := 4) (ret := (some .int)) (by decide) rfl ?_
  intro p e s m args below meth c s₁ B hml hne hv
  obtain ⟨rfl, hT, hK⟩ := hv
  have hx := B.exec
  have hb := B.bytes
  have hr := B.returns
  have hts : ∀ w ∈ TS, w.before ([.ref h0, .int p0, .int p1, .int p2] : List Value).toArray s = true := fun w hw => hK.2.1 w hw _
  have hown : s.vm.findClass RX9 = some m.cls := findClass_of_methodNamed B.named
  have hlocks := B.notSynchronized
  have hS : va_S (fun q : Nat => G q ≠ 0) s.heap s.heap [] := va_S.rf
  have hAz : ∀ q, (fun q : Nat => G q ≠ 0) q → z0 ≤ q := hGz
  have hl := lv_entry ([.ref h0, .int p0, .int p1, .int p2]) (n := 4) (Nat.le_of_ble_eq_true rfl)
  rw [lg_entry_eq]
  generalize (lg_sl ([.ref h0, .int p0, .int p1, .int p2]) ++ List.replicate (4 - (lg_sl ([.ref h0, .int p0, .int p1, .int p2])).length) Slot.unset).toArray = ls at hl ⊢
  have hl : lv_has ls 4 [(0, .ref h0), (1, .int p0), (2, .int p1), (3, .int p2)] := hl
  refine lv_iload_n hx hb dX9_send_0 rfl (lv_at hl 1 rfl) ?_
  refine W.callR (W.runS (As := [.int p0]) (rest := []) ⟨hx, hb, hml, hown, hts⟩ (c_X9_isPair l p0) (cwS 1 hts (gdS ml_X9_78 st_X9_isPair in_X9 co_X9_isPair rfl) rfl rfl rfl (by decide +kernel) ⟨Nat.le_of_ble_eq_true rfl, Nat.le_of_ble_eq_true rfl⟩) preEq rfl rfl hl.1 rfl (lv_room (Nat.le_of_ble_eq_true rfl)) dX9_send_1 ⟨Nat.le_of_ble_eq_true rfl, Nat.le_of_ble_eq_true rfl⟩) ?_
  refine W.eq (g2 := F0 m 4 ls [.int (bI (0 ≤ p0.toInt ∧ p0.toInt < 4))]) (by rfl) ?_
  refine lv_if_eq (tgt := 19) hx hb dX9_send_4 (by decide) (fun c_1 => ?_) (fun c_1 => ?_)
  · have c_1 := bI_0 c_1
    refine lv_iconst (v := 0) hx hb dX9_send_19 (by decide) ?_
    refine vx_callv (rxS (fun _ => True) (As := [.int 0]) (rest := []) ⟨hx, hb, hml, hown, hts⟩ (c_X9_require l hst E z0 0) (cwS 1 hts (gdS ml_X9_53 st_X9_require in_X9 co_X9_require rfl) rfl rfl rfl (by decide +kernel) ⟨Nat.le_of_ble_eq_true rfl, Nat.le_of_ble_eq_true rfl⟩) trivial (fun U hU hW => hK.go hW hS hAz hU) rfl rfl hl.1 rfl (lv_room (Nat.le_of_ble_eq_true rfl)) dX9_send_20 ⟨Nat.le_of_ble_eq_true rfl, Nat.le_of_ble_eq_true rfl⟩) hS (fun q _ h => h.elim) (fun q h => h.elim) (fun q _ h => h.elim) (fun En ce q9 _ t H locs ht hvm hw hB hz hk hS hc1 hc2 hc3 => ?_) (fun _ t H locs ht hvm hw hB hz hk hS => absurd rfl hw)
    subst hB
    exact vx_out (fun x hx => (hne x hx).elim) hlocks hc1 hc2 hc3 (fun t ht hA => ⟨(), trivial, Or.inl ⟨rfl, by omega⟩, hS.F ht⟩) hS.2.2 (Nat.le_of_ble_eq_true rfl) (Nat.le_of_ble_eq_true rfl)
  · have c_1 := bI_n c_1
    refine lv_iload_n hx hb dX9_send_7 rfl (lv_at hl 2 rfl) ?_
    refine lv_iload_n hx hb dX9_send_8 rfl (lv_at hl 3 rfl) ?_
    refine W.callR (W.runS (As := [.int p1, .int p2]) (rest := []) ⟨hx, hb, hml, hown, hts⟩ (c_X9_areCells l p1 p2) (cwS 2 hts (gdS ml_X9_97 st_X9_areCells in_X9 co_X9_areCells rfl) rfl rfl rfl (by decide +kernel) ⟨Nat.le_of_ble_eq_true rfl, Nat.le_of_ble_eq_true rfl⟩) preEq rfl rfl hl.1 rfl (lv_room (Nat.le_of_ble_eq_true rfl)) dX9_send_9 ⟨Nat.le_of_ble_eq_true rfl, Nat.le_of_ble_eq_true rfl⟩) ?_
    refine W.eq (g2 := F0 m 12 ls [.int (bI (1 ≤ p2.toInt ∧ p2.toInt ≤ 12 ∧ 0 ≤ p1.toInt ∧ p1.toInt ≤ 32 - p2.toInt))]) (by rfl) ?_
    refine lv_if_eq (tgt := 19) hx hb dX9_send_12 (by decide) (fun c_2 => ?_) (fun c_2 => ?_)
    · have c_2 := bI_0 c_2
      refine lv_iconst (v := 0) hx hb dX9_send_19 (by decide) ?_
      refine vx_callv (rxS (fun _ => True) (As := [.int 0]) (rest := []) ⟨hx, hb, hml, hown, hts⟩ (c_X9_require l hst E z0 0) (cwS 1 hts (gdS ml_X9_53 st_X9_require in_X9 co_X9_require rfl) rfl rfl rfl (by decide +kernel) ⟨Nat.le_of_ble_eq_true rfl, Nat.le_of_ble_eq_true rfl⟩) trivial (fun U hU hW => hK.go hW hS hAz hU) rfl rfl hl.1 rfl (lv_room (Nat.le_of_ble_eq_true rfl)) dX9_send_20 ⟨Nat.le_of_ble_eq_true rfl, Nat.le_of_ble_eq_true rfl⟩) hS (fun q _ h => h.elim) (fun q h => h.elim) (fun q _ h => h.elim) (fun En ce q9 _ t H locs ht hvm hw hB hz hk hS hc1 hc2 hc3 => ?_) (fun _ t H locs ht hvm hw hB hz hk hS => absurd rfl hw)
      subst hB
      exact vx_out (fun x hx => (hne x hx).elim) hlocks hc1 hc2 hc3 (fun t ht hA => ⟨(), trivial, Or.inl ⟨rfl, by omega⟩, hS.F ht⟩) hS.2.2 (Nat.le_of_ble_eq_true rfl) (Nat.le_of_ble_eq_true rfl)
    · have c_2 := bI_n c_2
      refine lv_iconst (v := 1) hx hb dX9_send_15 (by decide) ?_
      refine lv_goto (tgt := 20) hx hb dX9_send_16 (by decide) ?_
      refine vx_callv (rxS (fun _ => True) (As := [.int 1]) (rest := []) ⟨hx, hb, hml, hown, hts⟩ (c_X9_require l hst E z0 1) (cwS 1 hts (gdS ml_X9_53 st_X9_require in_X9 co_X9_require rfl) rfl rfl rfl (by decide +kernel) ⟨Nat.le_of_ble_eq_true rfl, Nat.le_of_ble_eq_true rfl⟩) trivial (fun U hU hW => hK.go hW hS hAz hU) rfl rfl hl.1 rfl (lv_room (Nat.le_of_ble_eq_true rfl)) dX9_send_20 ⟨Nat.le_of_ble_eq_true rfl, Nat.le_of_ble_eq_true rfl⟩) hS (fun q _ h => h.elim) (fun q h => h.elim) (fun q _ h => h.elim) (fun En ce q9 _ t H locs ht hvm hw hB hz hk hS hc1 hc2 hc3 => absurd hw (by decide)) (fun _ t H locs ht hvm hw hB hz hk hS => ?_)
      have hT : TH E (T0 E) G [] H := hT.kept (fun q hq => hk q hq (fun h => h))
      refine lv_aload_n hx hb dX9_send_23 rfl (lv_at hl 0 rfl) ?_
      obtain ⟨n_3, p_3, f_3, ha_3, hg_3_0, hg_3_1, hg_3_2⟩ := tg_1 hT hG nx_0
      refine va_get (D := DG E) (ci := 9) (v := .ref p_3) (C := RX9) (T := TX9) (N := 3) hx hb hts iw_X9 hown hK.1 (va_one ha_3) 0 rfl rfl 1 (by decide) (hts _ fl_X9_29) (fun _ h9 => h9) rfl dX9_send_24 ?_
      refine lv_iload_n hx hb dX9_send_27 rfl (lv_at hl 1 rfl) ?_
      obtain ⟨f_4, ha_4, he_4⟩ := tg_3 hT hg_3_1 nx_0
      obtain ⟨j_ha_4, hj_ha_4, ej_ha_4⟩ := vp_in_of (show vp_in p0 4 from vp_in_iff.mpr (by omega)) (by decide)
      obtain ⟨b_ha_4, eb_ha_4, gb_ha_4⟩ := he_4 j_ha_4 hj_ha_4
      have cj_ha_4 : f_4 (p0 : Int32).toNatClampNeg = some b_ha_4 := by rw [ej_ha_4, nI_clamp (by omega)]; exact eb_ha_4
      refine va_aldq (D := DG E) hx hb hK.1 (va_one ha_4) 0 5 rfl rfl (show vp_in p0 4 from vp_in_iff.mpr (by omega)) dX9_send_28 ?_
      rw [cj_ha_4]
      refine W.eq (g2 := F0 m 29 ls [.ref b_ha_4]) (by rfl) ?_
      obtain ⟨rq_5, rs_5, ha_5, hg_5_0, hg_5_1⟩ := tg_8 hT gb_ha_4 nx_0
      refine va_calli (rnV (fun H => TH E (T0 E) G [] H) (As := []) (rest := []) ⟨hx, hb, hml, hown, hts⟩ (c_X3_takesRequests l E z0 G hGz b_ha_4  gb_ha_4) (cwV 0 hts (gdV ml_X9_101 im_X3_takesRequests se_X3_X3_takesRequests in_X3 co_X3_takesRequests rfl) rfl rfl rfl (by decide +kernel) ⟨Nat.le_of_ble_eq_true rfl, Nat.le_of_ble_eq_true rfl⟩) hT (fun U hU hW => hK.go hW hS hAz hU) (va_recv hK.1 (va_one ha_5) (ci := 3) (q0 := 0) rfl rfl) rfl rfl hl.1 rfl (lv_room (Nat.le_of_ble_eq_true rfl)) dX9_send_29 ⟨Nat.le_of_ble_eq_true rfl, Nat.le_of_ble_eq_true rfl⟩) hS (fun q _ h => h.elim) (fun q h => h.elim) (fun r_6 _ t H locs ht hvm hw hB hz hk hS => ?_)
      have hT : TH E (T0 E) G [] H := hT.kept (fun q hq => hk q hq (fun h => h))
      obtain rfl : r_6 = 0 := hw
      refine vx_callv (rxS (fun _ => True) (As := [.int 0]) (rest := []) ⟨hx, hb, hml, hown, hts⟩ (c_X9_requireState l hst E z0 0) (cwS 1 hts (gdS ml_X9_88 st_X9_requireState in_X9 co_X9_requireState rfl) rfl rfl rfl (by decide +kernel) ⟨Nat.le_of_ble_eq_true rfl, Nat.le_of_ble_eq_true rfl⟩) trivial (fun U hU hW => hK.go hW hS hAz hU) rfl rfl hl.1 rfl (lv_room (Nat.le_of_ble_eq_true rfl)) dX9_send_32 ⟨Nat.le_of_ble_eq_true rfl, Nat.le_of_ble_eq_true rfl⟩) hS (fun q _ h => h.elim) (fun q h => h.elim) (fun q _ h => h.elim) (fun En ce q9 _ t H locs ht hvm hw hB hz hk hS hc1 hc2 hc3 => ?_) (fun _ t H locs ht hvm hw hB hz hk hS => absurd rfl hw)
      subst hB
      exact vx_out (fun x hx => (hne x hx).elim) hlocks hc1 hc2 hc3 (fun t ht hA => ⟨(), trivial, Or.inr ⟨rfl, by omega⟩, hS.F ht⟩) hS.2.2 (Nat.le_of_ble_eq_true rfl) (Nat.le_of_ble_eq_true rfl)
theorem dX9_move_0 : decode cX9_move 0 = .ok (.iload_n 1, 1) := by decide +kernel
theorem dX9_move_1 : decode cX9_move 1 = .ok (.invokestatic 78, 3) := by decide +kernel
theorem dX9_move_4 : decode cX9_move 4 = .ok (.ifCond .eq 32, 3) := by decide +kernel
theorem dX9_move_7 : decode cX9_move 7 = .ok (.iload_n 3, 1) := by decide +kernel
theorem dX9_move_8 : decode cX9_move 8 = .ok (.iload 4, 2) := by decide +kernel
theorem dX9_move_10 : decode cX9_move 10 = .ok (.invokestatic 97, 3) := by decide +kernel
theorem dX9_move_13 : decode cX9_move 13 = .ok (.ifCond .eq 23, 3) := by decide +kernel
theorem dX9_move_16 : decode cX9_move 16 = .ok (.iload 5, 2) := by decide +kernel
theorem dX9_move_18 : decode cX9_move 18 = .ok (.invokestatic 50, 3) := by decide +kernel
theorem dX9_move_21 : decode cX9_move 21 = .ok (.ifCond .eq 15, 3) := by decide +kernel
theorem dX9_move_24 : decode cX9_move 24 = .ok (.iload 6, 2) := by decide +kernel
theorem dX9_move_26 : decode cX9_move 26 = .ok (.invokestatic 67, 3) := by decide +kernel
theorem dX9_move_29 : decode cX9_move 29 = .ok (.ifCond .eq 7, 3) := by decide +kernel
theorem dX9_move_32 : decode cX9_move 32 = .ok (.iconst 1, 1) := by decide +kernel
theorem dX9_move_33 : decode cX9_move 33 = .ok (.goto 4, 3) := by decide +kernel
theorem dX9_move_36 : decode cX9_move 36 = .ok (.iconst 0, 1) := by decide +kernel
theorem dX9_move_37 : decode cX9_move 37 = .ok (.invokestatic 53, 3) := by decide +kernel
theorem dX9_move_40 : decode cX9_move 40 = .ok (.aload_n 0, 1) := by decide +kernel
theorem dX9_move_41 : decode cX9_move 41 = .ok (.getfield 29, 3) := by decide +kernel
theorem dX9_move_44 : decode cX9_move 44 = .ok (.iload_n 1, 1) := by decide +kernel
theorem dX9_move_45 : decode cX9_move 45 = .ok (.aaload, 1) := by decide +kernel
theorem dX9_move_46 : decode cX9_move 46 = .ok (.invokevirtual 101, 3) := by decide +kernel
theorem dX9_move_49 : decode cX9_move 49 = .ok (.invokestatic 88, 3) := by decide +kernel
theorem dX9_move_52 : decode cX9_move 52 = .ok (.aload_n 0, 1) := by decide +kernel
theorem dX9_move_53 : decode cX9_move 53 = .ok (.getfield 29, 3) := by decide +kernel
theorem dX9_move_56 : decode cX9_move 56 = .ok (.iload_n 1, 1) := by decide +kernel
theorem dX9_move_57 : decode cX9_move 57 = .ok (.aaload, 1) := by decide +kernel
theorem dX9_move_58 : decode cX9_move 58 = .ok (.getfield 105, 3) := by decide +kernel
theorem dX9_move_61 : decode cX9_move 61 = .ok (.iload_n 2, 1) := by decide +kernel
theorem dX9_move_62 : decode cX9_move 62 = .ok (.ifCond .eq 7, 3) := by decide +kernel
theorem dX9_move_65 : decode cX9_move 65 = .ok (.iconst 2, 1) := by decide +kernel
theorem dX9_move_66 : decode cX9_move 66 = .ok (.goto 4, 3) := by decide +kernel
theorem dX9_move_69 : decode cX9_move 69 = .ok (.iconst 1, 1) := by decide +kernel
theorem dX9_move_70 : decode cX9_move 70 = .ok (.iload_n 3, 1) := by decide +kernel
theorem dX9_move_71 : decode cX9_move 71 = .ok (.iload 4, 2) := by decide +kernel
theorem dX9_move_73 : decode cX9_move 73 = .ok (.iload 5, 2) := by decide +kernel
theorem dX9_move_75 : decode cX9_move 75 = .ok (.iload 6, 2) := by decide +kernel
theorem dX9_move_77 : decode cX9_move 77 = .ok (.iconst 0, 1) := by decide +kernel
theorem dX9_move_78 : decode cX9_move 78 = .ok (.invokevirtual 109, 3) := by decide +kernel
theorem dX9_move_81 : decode cX9_move 81 = .ok (.ireturn, 1) := by decide +kernel
set_option maxHeartbeats 4000000 in
set_option maxRecDepth 100000 in
theorem c_X9_move (l : Launch) (hst : l.stackTraces = false) (E : EE) (z0 : Nat) (G : Nat → Nat) (hGz : ∀ q, G q ≠ 0 → z0 ≤ q) (h0 : Nat) (p0 p1 p2 p3 p4 p5 : Int32) (hG : G h0 = 1) : vx_Met l yX9_move [Cond.code yX9_move cX9_move 7 (some .int)] ({ frames := 7, cells := 2, slots := 12, locals := 101 } : Room) (va_Pc [.ref h0, .int p0, .int p1, .int p2, .int p3, .int p4, .int p5] (fun U => TH E (T0 E) G [] U.heap ∧ KS E z0 U)) (va_Qi (fun (r : Int32) (_ : Unit) => False) (fun _ _ => True) (fun q : Nat => G q ≠ 0)) (vx_X (fun (_ : Unit) => True) (fun En _ _ => (En = IAE ∧ ¬ (0 ≤ p0.toInt ∧ p0.toInt < 4 ∧ 1 ≤ p3.toInt ∧ p3.toInt ≤ 12 ∧ 0 ≤ p2.toInt ∧ p2.toInt ≤ 32 - p3.toInt ∧ 0 ≤ p4.toInt ∧ p4.toInt < 6 ∧ 0 ≤ p5.toInt ∧ p5.toInt < 32)) ∨ (En = ISE ∧ (0 ≤ p0.toInt ∧ p0.toInt < 4 ∧ 1 ≤ p3.toInt ∧ p3.toInt ≤ 12 ∧ 0 ≤ p2.toInt ∧ p2.toInt ≤ 32 - p3.toInt ∧ 0 ≤ p4.toInt ∧ p4.toInt < 6 ∧ 0 ≤ p5.toInt ∧ p5.toInt < 32))) (fun q : Nat => G q ≠ 0)) 2 12 (fun q : Nat => G q ≠ 0) := by
  refine vx_ofW (cc := cX9_move) (maxL := 7) (ret := (some .int)) (by decide) rfl ?_
  intro p e s m args below meth c s₁ B hml hne hv
  obtain ⟨rfl, hT, hK⟩ := hv
  have hx := B.exec
  have hb := B.bytes
  have hr := B.returns
  have hts : ∀ w ∈ TS, w.before ([.ref h0, .int p0, .int p1, .int p2, .int p3, .int p4, .int p5] : List Value).toArray s = true := fun w hw => hK.2.1 w hw _
  have hown : s.vm.findClass RX9 = some m.cls := findClass_of_methodNamed B.named
  have hlocks := B.notSynchronized
  have hS : va_S (fun q : Nat => G q ≠ 0) s.heap s.heap [] := va_S.rf
  have hAz : ∀ q, (fun q : Nat => G q ≠ 0) q → z0 ≤ q := hGz
  have hl := lv_entry ([.ref h0, .int p0, .int p1, .int p2, .int p3, .int p4, .int p5]) (n := 7) (Nat.le_of_ble_eq_true rfl)
  rw [lg_entry_eq]
  generalize (lg_sl ([.ref h0, .int p0, .int p1, .int p2, .int p3, .int p4, .int p5]) ++ List.replicate (7 - (lg_sl ([.ref h0, .int p0, .int p1, .int p2, .int p3, .int p4, .int p5])).length) Slot.unset).toArray = ls at hl ⊢
  have hl : lv_has ls 7 [(0, .ref h0), (1, .int p0), (2, .int p1), (3, .int p2), (4, .int p3), (5, .int p4), (6, .int p5)] := hl
  refine lv_iload_n hx hb dX9_move_0 rfl (lv_at hl 1 rfl) ?_
  refine W.callR (W.runS (As := [.int p0]) (rest := []) ⟨hx, hb, hml, hown, hts⟩ (c_X9_isPair l p0) (cwS 1 hts (gdS ml_X9_78 st_X9_isPair in_X9 co_X9_isPair rfl) rfl rfl rfl (by decide +kernel) ⟨Nat.le_of_ble_eq_true rfl, Nat.le_of_ble_eq_true rfl⟩) preEq rfl rfl hl.1 rfl (lv_room (Nat.le_of_ble_eq_true rfl)) dX9_move_1 ⟨Nat.le_of_ble_eq_true rfl, Nat.le_of_ble_eq_true rfl⟩) ?_
  refine W.eq (g2 := F0 m 4 ls [.int (bI (0 ≤ p0.toInt ∧ p0.toInt < 4))]) (by rfl) ?_
  refine lv_if_eq (tgt := 36) hx hb dX9_move_4 (by decide) (fun c_1 => ?_) (fun c_1 => ?_)
  · have c_1 := bI_0 c_1
    refine lv_iconst (v := 0) hx hb dX9_move_36 (by decide) ?_
    refine vx_callv (rxS (fun _ => True) (As := [.int 0]) (rest := []) ⟨hx, hb, hml, hown, hts⟩ (c_X9_require l hst E z0 0) (cwS 1 hts (gdS ml_X9_53 st_X9_require in_X9 co_X9_require rfl) rfl rfl rfl (by decide +kernel) ⟨Nat.le_of_ble_eq_true rfl, Nat.le_of_ble_eq_true rfl⟩) trivial (fun U hU hW => hK.go hW hS hAz hU) rfl rfl hl.1 rfl (lv_room (Nat.le_of_ble_eq_true rfl)) dX9_move_37 ⟨Nat.le_of_ble_eq_true rfl, Nat.le_of_ble_eq_true rfl⟩) hS (fun q _ h => h.elim) (fun q h => h.elim) (fun q _ h => h.elim) (fun En ce q9 _ t H locs ht hvm hw hB hz hk hS hc1 hc2 hc3 => ?_) (fun _ t H locs ht hvm hw hB hz hk hS => absurd rfl hw)
    subst hB
    exact vx_out (fun x hx => (hne x hx).elim) hlocks hc1 hc2 hc3 (fun t ht hA => ⟨(), trivial, Or.inl ⟨rfl, by omega⟩, hS.F ht⟩) hS.2.2 (Nat.le_of_ble_eq_true rfl) (Nat.le_of_ble_eq_true rfl)
  · have c_1 := bI_n c_1
    refine lv_iload_n hx hb dX9_move_7 rfl (lv_at hl 3 rfl) ?_
    refine lv_iload hx hb dX9_move_8 (lv_at hl 4 rfl) ?_
    refine W.callR (W.runS (As := [.int p2, .int p3]) (rest := []) ⟨hx, hb, hml, hown, hts⟩ (c_X9_areCells l p2 p3) (cwS 2 hts (gdS ml_X9_97 st_X9_areCells in_X9 co_X9_areCells rfl) rfl rfl rfl (by decide +kernel) ⟨Nat.le_of_ble_eq_true rfl, Nat.le_of_ble_eq_true rfl⟩) preEq rfl rfl hl.1 rfl (lv_room (Nat.le_of_ble_eq_true rfl)) dX9_move_10 ⟨Nat.le_of_ble_eq_true rfl, Nat.le_of_ble_eq_true rfl⟩) ?_
    refine W.eq (g2 := F0 m 13 ls [.int (bI (1 ≤ p3.toInt ∧ p3.toInt ≤ 12 ∧ 0 ≤ p2.toInt ∧ p2.toInt ≤ 32 - p3.toInt))]) (by rfl) ?_
    refine lv_if_eq (tgt := 36) hx hb dX9_move_13 (by decide) (fun c_2 => ?_) (fun c_2 => ?_)
    · have c_2 := bI_0 c_2
      refine lv_iconst (v := 0) hx hb dX9_move_36 (by decide) ?_
      refine vx_callv (rxS (fun _ => True) (As := [.int 0]) (rest := []) ⟨hx, hb, hml, hown, hts⟩ (c_X9_require l hst E z0 0) (cwS 1 hts (gdS ml_X9_53 st_X9_require in_X9 co_X9_require rfl) rfl rfl rfl (by decide +kernel) ⟨Nat.le_of_ble_eq_true rfl, Nat.le_of_ble_eq_true rfl⟩) trivial (fun U hU hW => hK.go hW hS hAz hU) rfl rfl hl.1 rfl (lv_room (Nat.le_of_ble_eq_true rfl)) dX9_move_37 ⟨Nat.le_of_ble_eq_true rfl, Nat.le_of_ble_eq_true rfl⟩) hS (fun q _ h => h.elim) (fun q h => h.elim) (fun q _ h => h.elim) (fun En ce q9 _ t H locs ht hvm hw hB hz hk hS hc1 hc2 hc3 => ?_) (fun _ t H locs ht hvm hw hB hz hk hS => absurd rfl hw)
      subst hB
      exact vx_out (fun x hx => (hne x hx).elim) hlocks hc1 hc2 hc3 (fun t ht hA => ⟨(), trivial, Or.inl ⟨rfl, by omega⟩, hS.F ht⟩) hS.2.2 (Nat.le_of_ble_eq_true rfl) (Nat.le_of_ble_eq_true rfl)
    · have c_2 := bI_n c_2
      refine lv_iload hx hb dX9_move_16 (lv_at hl 5 rfl) ?_
      refine W.callR (W.runS (As := [.int p4]) (rest := []) ⟨hx, hb, hml, hown, hts⟩ (c_X9_isRegion l p4) (cwS 1 hts (gdS ml_X9_50 st_X9_isRegion in_X9 co_X9_isRegion rfl) rfl rfl rfl (by decide +kernel) ⟨Nat.le_of_ble_eq_true rfl, Nat.le_of_ble_eq_true rfl⟩) preEq rfl rfl hl.1 rfl (lv_room (Nat.le_of_ble_eq_true rfl)) dX9_move_18 ⟨Nat.le_of_ble_eq_true rfl, Nat.le_of_ble_eq_true rfl⟩) ?_
      refine W.eq (g2 := F0 m 21 ls [.int (bI (0 ≤ p4.toInt ∧ p4.toInt < 6))]) (by rfl) ?_
      refine lv_if_eq (tgt := 36) hx hb dX9_move_21 (by decide) (fun c_3 => ?_) (fun c_3 => ?_)
      · have c_3 := bI_0 c_3
        refine lv_iconst (v := 0) hx hb dX9_move_36 (by decide) ?_
        refine vx_callv (rxS (fun _ => True) (As := [.int 0]) (rest := []) ⟨hx, hb, hml, hown, hts⟩ (c_X9_require l hst E z0 0) (cwS 1 hts (gdS ml_X9_53 st_X9_require in_X9 co_X9_require rfl) rfl rfl rfl (by decide +kernel) ⟨Nat.le_of_ble_eq_true rfl, Nat.le_of_ble_eq_true rfl⟩) trivial (fun U hU hW => hK.go hW hS hAz hU) rfl rfl hl.1 rfl (lv_room (Nat.le_of_ble_eq_true rfl)) dX9_move_37 ⟨Nat.le_of_ble_eq_true rfl, Nat.le_of_ble_eq_true rfl⟩) hS (fun q _ h => h.elim) (fun q h => h.elim) (fun q _ h => h.elim) (fun En ce q9 _ t H locs ht hvm hw hB hz hk hS hc1 hc2 hc3 => ?_) (fun _ t H locs ht hvm hw hB hz hk hS => absurd rfl hw)
        subst hB
        exact vx_out (fun x hx => (hne x hx).elim) hlocks hc1 hc2 hc3 (fun t ht hA => ⟨(), trivial, Or.inl ⟨rfl, by omega⟩, hS.F ht⟩) hS.2.2 (Nat.le_of_ble_eq_true rfl) (Nat.le_of_ble_eq_true rfl)
      · have c_3 := bI_n c_3
        refine lv_iload hx hb dX9_move_24 (lv_at hl 6 rfl) ?_
        refine W.callR (W.runS (As := [.int p5]) (rest := []) ⟨hx, hb, hml, hown, hts⟩ (c_X9_isCell l p5) (cwS 1 hts (gdS ml_X9_67 st_X9_isCell in_X9 co_X9_isCell rfl) rfl rfl rfl (by decide +kernel) ⟨Nat.le_of_ble_eq_true rfl, Nat.le_of_ble_eq_true rfl⟩) preEq rfl rfl hl.1 rfl (lv_room (Nat.le_of_ble_eq_true rfl)) dX9_move_26 ⟨Nat.le_of_ble_eq_true rfl, Nat.le_of_ble_eq_true rfl⟩) ?_
        refine W.eq (g2 := F0 m 29 ls [.int (bI (0 ≤ p5.toInt ∧ p5.toInt < 32))]) (by rfl) ?_
        refine lv_if_eq (tgt := 36) hx hb dX9_move_29 (by decide) (fun c_4 => ?_) (fun c_4 => ?_)
        · have c_4 := bI_0 c_4
          refine lv_iconst (v := 0) hx hb dX9_move_36 (by decide) ?_
          refine vx_callv (rxS (fun _ => True) (As := [.int 0]) (rest := []) ⟨hx, hb, hml, hown, hts⟩ (c_X9_require l hst E z0 0) (cwS 1 hts (gdS ml_X9_53 st_X9_require in_X9 co_X9_require rfl) rfl rfl rfl (by decide +kernel) ⟨Nat.le_of_ble_eq_true rfl, Nat.le_of_ble_eq_true rfl⟩) trivial (fun U hU hW => hK.go hW hS hAz hU) rfl rfl hl.1 rfl (lv_room (Nat.le_of_ble_eq_true rfl)) dX9_move_37 ⟨Nat.le_of_ble_eq_true rfl, Nat.le_of_ble_eq_true rfl⟩) hS (fun q _ h => h.elim) (fun q h => h.elim) (fun q _ h => h.elim) (fun En ce q9 _ t H locs ht hvm hw hB hz hk hS hc1 hc2 hc3 => ?_) (fun _ t H locs ht hvm hw hB hz hk hS => absurd rfl hw)
          subst hB
          exact vx_out (fun x hx => (hne x hx).elim) hlocks hc1 hc2 hc3 (fun t ht hA => ⟨(), trivial, Or.inl ⟨rfl, by omega⟩, hS.F ht⟩) hS.2.2 (Nat.le_of_ble_eq_true rfl) (Nat.le_of_ble_eq_true rfl)
        · have c_4 := bI_n c_4
          refine lv_iconst (v := 1) hx hb dX9_move_32 (by decide) ?_
          refine lv_goto (tgt := 37) hx hb dX9_move_33 (by decide) ?_
          refine vx_callv (rxS (fun _ => True) (As := [.int 1]) (rest := []) ⟨hx, hb, hml, hown, hts⟩ (c_X9_require l hst E z0 1) (cwS 1 hts (gdS ml_X9_53 st_X9_require in_X9 co_X9_require rfl) rfl rfl rfl (by decide +kernel) ⟨Nat.le_of_ble_eq_true rfl, Nat.le_of_ble_eq_true rfl⟩) trivial (fun U hU hW => hK.go hW hS hAz hU) rfl rfl hl.1 rfl (lv_room (Nat.le_of_ble_eq_true rfl)) dX9_move_37 ⟨Nat.le_of_ble_eq_true rfl, Nat.le_of_ble_eq_true rfl⟩) hS (fun q _ h => h.elim) (fun q h => h.elim) (fun q _ h => h.elim) (fun En ce q9 _ t H locs ht hvm hw hB hz hk hS hc1 hc2 hc3 => absurd hw (by decide)) (fun _ t H locs ht hvm hw hB hz hk hS => ?_)
          have hT : TH E (T0 E) G [] H := hT.kept (fun q hq => hk q hq (fun h => h))
          refine lv_aload_n hx hb dX9_move_40 rfl (lv_at hl 0 rfl) ?_
          obtain ⟨n_5, p_5, f_5, ha_5, hg_5_0, hg_5_1, hg_5_2⟩ := tg_1 hT hG nx_0
          refine va_get (D := DG E) (ci := 9) (v := .ref p_5) (C := RX9) (T := TX9) (N := 3) hx hb hts iw_X9 hown hK.1 (va_one ha_5) 0 rfl rfl 1 (by decide) (hts _ fl_X9_29) (fun _ h9 => h9) rfl dX9_move_41 ?_
          refine lv_iload_n hx hb dX9_move_44 rfl (lv_at hl 1 rfl) ?_
          obtain ⟨f_6, ha_6, he_6⟩ := tg_3 hT hg_5_1 nx_0
          obtain ⟨j_ha_6, hj_ha_6, ej_ha_6⟩ := vp_in_of (show vp_in p0 4 from vp_in_iff.mpr (by omega)) (by decide)
          obtain ⟨b_ha_6, eb_ha_6, gb_ha_6⟩ := he_6 j_ha_6 hj_ha_6
          have cj_ha_6 : f_6 (p0 : Int32).toNatClampNeg = some b_ha_6 := by rw [ej_ha_6, nI_clamp (by omega)]; exact eb_ha_6
          refine va_aldq (D := DG E) hx hb hK.1 (va_one ha_6) 0 5 rfl rfl (show vp_in p0 4 from vp_in_iff.mpr (by omega)) dX9_move_45 ?_
          rw [cj_ha_6]
          refine W.eq (g2 := F0 m 46 ls [.ref b_ha_6]) (by rfl) ?_
          obtain ⟨rq_7, rs_7, ha_7, hg_7_0, hg_7_1⟩ := tg_8 hT gb_ha_6 nx_0
          refine va_calli (rnV (fun H => TH E (T0 E) G [] H) (As := []) (rest := []) ⟨hx, hb, hml, hown, hts⟩ (c_X3_takesRequests l E z0 G hGz b_ha_6  gb_ha_6) (cwV 0 hts (gdV ml_X9_101 im_X3_takesRequests se_X3_X3_takesRequests in_X3 co_X3_takesRequests rfl) rfl rfl rfl (by decide +kernel) ⟨Nat.le_of_ble_eq_true rfl, Nat.le_of_ble_eq_true rfl⟩) hT (fun U hU hW => hK.go hW hS hAz hU) (va_recv hK.1 (va_one ha_7) (ci := 3) (q0 := 0) rfl rfl) rfl rfl hl.1 rfl (lv_room (Nat.le_of_ble_eq_true rfl)) dX9_move_46 ⟨Nat.le_of_ble_eq_true rfl, Nat.le_of_ble_eq_true rfl⟩) hS (fun q _ h => h.elim) (fun q h => h.elim) (fun r_8 _ t H locs ht hvm hw hB hz hk hS => ?_)
          have hT : TH E (T0 E) G [] H := hT.kept (fun q hq => hk q hq (fun h => h))
          obtain rfl : r_8 = 0 := hw
          refine vx_callv (rxS (fun _ => True) (As := [.int 0]) (rest := []) ⟨hx, hb, hml, hown, hts⟩ (c_X9_requireState l hst E z0 0) (cwS 1 hts (gdS ml_X9_88 st_X9_requireState in_X9 co_X9_requireState rfl) rfl rfl rfl (by decide +kernel) ⟨Nat.le_of_ble_eq_true rfl, Nat.le_of_ble_eq_true rfl⟩) trivial (fun U hU hW => hK.go hW hS hAz hU) rfl rfl hl.1 rfl (lv_room (Nat.le_of_ble_eq_true rfl)) dX9_move_49 ⟨Nat.le_of_ble_eq_true rfl, Nat.le_of_ble_eq_true rfl⟩) hS (fun q _ h => h.elim) (fun q h => h.elim) (fun q _ h => h.elim) (fun En ce q9 _ t H locs ht hvm hw hB hz hk hS hc1 hc2 hc3 => ?_) (fun _ t H locs ht hvm hw hB hz hk hS => absurd rfl hw)
          subst hB
          exact vx_out (fun x hx => (hne x hx).elim) hlocks hc1 hc2 hc3 (fun t ht hA => ⟨(), trivial, Or.inr ⟨rfl, by omega⟩, hS.F ht⟩) hS.2.2 (Nat.le_of_ble_eq_true rfl) (Nat.le_of_ble_eq_true rfl)
theorem dX9_add_0 : decode cX9_add 0 = .ok (.iload_n 1, 1) := by decide +kernel
theorem dX9_add_1 : decode cX9_add 1 = .ok (.invokestatic 78, 3) := by decide +kernel
theorem dX9_add_4 : decode cX9_add 4 = .ok (.ifCond .eq 29, 3) := by decide +kernel
theorem dX9_add_7 : decode cX9_add 7 = .ok (.iload_n 2, 1) := by decide +kernel
theorem dX9_add_8 : decode cX9_add 8 = .ok (.invokestatic 67, 3) := by decide +kernel
theorem dX9_add_11 : decode cX9_add 11 = .ok (.ifCond .eq 22, 3) := by decide +kernel
theorem dX9_add_14 : decode cX9_add 14 = .ok (.iload_n 3, 1) := by decide +kernel
theorem dX9_add_15 : decode cX9_add 15 = .ok (.invokestatic 50, 3) := by decide +kernel
theorem dX9_add_18 : decode cX9_add 18 = .ok (.ifCond .eq 15, 3) := by decide +kernel
theorem dX9_add_21 : decode cX9_add 21 = .ok (.iload 4, 2) := by decide +kernel
theorem dX9_add_23 : decode cX9_add 23 = .ok (.invokestatic 67, 3) := by decide +kernel
theorem dX9_add_26 : decode cX9_add 26 = .ok (.ifCond .eq 7, 3) := by decide +kernel
theorem dX9_add_29 : decode cX9_add 29 = .ok (.iconst 1, 1) := by decide +kernel
theorem dX9_add_30 : decode cX9_add 30 = .ok (.goto 4, 3) := by decide +kernel
theorem dX9_add_33 : decode cX9_add 33 = .ok (.iconst 0, 1) := by decide +kernel
theorem dX9_add_34 : decode cX9_add 34 = .ok (.invokestatic 53, 3) := by decide +kernel
theorem dX9_add_37 : decode cX9_add 37 = .ok (.aload_n 0, 1) := by decide +kernel
theorem dX9_add_38 : decode cX9_add 38 = .ok (.getfield 29, 3) := by decide +kernel
theorem dX9_add_41 : decode cX9_add 41 = .ok (.iload_n 1, 1) := by decide +kernel
theorem dX9_add_42 : decode cX9_add 42 = .ok (.aaload, 1) := by decide +kernel
theorem dX9_add_43 : decode cX9_add 43 = .ok (.invokevirtual 101, 3) := by decide +kernel
theorem dX9_add_46 : decode cX9_add 46 = .ok (.invokestatic 88, 3) := by decide +kernel
theorem dX9_add_49 : decode cX9_add 49 = .ok (.aload_n 0, 1) := by decide +kernel
theorem dX9_add_50 : decode cX9_add 50 = .ok (.getfield 29, 3) := by decide +kernel
theorem dX9_add_53 : decode cX9_add 53 = .ok (.iload_n 1, 1) := by decide +kernel
theorem dX9_add_54 : decode cX9_add 54 = .ok (.aaload, 1) := by decide +kernel
theorem dX9_add_55 : decode cX9_add 55 = .ok (.getfield 105, 3) := by decide +kernel
theorem dX9_add_58 : decode cX9_add 58 = .ok (.iconst 3, 1) := by decide +kernel
theorem dX9_add_59 : decode cX9_add 59 = .ok (.iload_n 2, 1) := by decide +kernel
theorem dX9_add_60 : decode cX9_add 60 = .ok (.iconst 1, 1) := by decide +kernel
theorem dX9_add_61 : decode cX9_add 61 = .ok (.iload_n 3, 1) := by decide +kernel
theorem dX9_add_62 : decode cX9_add 62 = .ok (.iload 4, 2) := by decide +kernel
theorem dX9_add_64 : decode cX9_add 64 = .ok (.iload 5, 2) := by decide +kernel
theorem dX9_add_66 : decode cX9_add 66 = .ok (.invokevirtual 109, 3) := by decide +kernel
theorem dX9_add_69 : decode cX9_add 69 = .ok (.ireturn, 1) := by decide +kernel
set_option maxHeartbeats 4000000 in
set_option maxRecDepth 100000 in
theorem c_X9_add (l : Launch) (hst : l.stackTraces = false) (E : EE) (z0 : Nat) (G : Nat → Nat) (hGz : ∀ q, G q ≠ 0 → z0 ≤ q) (h0 : Nat) (p0 p1 p2 p3 p4 : Int32) (hG : G h0 = 1) : vx_Met l yX9_add [Cond.code yX9_add cX9_add 6 (some .int)] ({ frames := 7, cells := 2, slots := 12, locals := 101 } : Room) (va_Pc [.ref h0, .int p0, .int p1, .int p2, .int p3, .int p4] (fun U => TH E (T0 E) G [] U.heap ∧ KS E z0 U)) (va_Qi (fun (r : Int32) (_ : Unit) => False) (fun _ _ => True) (fun q : Nat => G q ≠ 0)) (vx_X (fun (_ : Unit) => True) (fun En _ _ => (En = IAE ∧ ¬ (0 ≤ p0.toInt ∧ p0.toInt < 4 ∧ 0 ≤ p1.toInt ∧ p1.toInt < 32 ∧ 0 ≤ p2.toInt ∧ p2.toInt < 6 ∧ 0 ≤ p3.toInt ∧ p3.toInt < 32)) ∨ (En = ISE ∧ (0 ≤ p0.toInt ∧ p0.toInt < 4 ∧ 0 ≤ p1.toInt ∧ p1.toInt < 32 ∧ 0 ≤ p2.toInt ∧ p2.toInt < 6 ∧ 0 ≤ p3.toInt ∧ p3.toInt < 32))) (fun q : Nat => G q ≠ 0)) 2 12 (fun q : Nat => G q ≠ 0) := by
  refine vx_ofW (cc := cX9_add) (maxL := 6) (ret := (some .int)) (by decide) rfl ?_
  intro p e s m args below meth c s₁ B hml hne hv
  obtain ⟨rfl, hT, hK⟩ := hv
  have hx := B.exec
  have hb := B.bytes
  have hr := B.returns
  have hts : ∀ w ∈ TS, w.before ([.ref h0, .int p0, .int p1, .int p2, .int p3, .int p4] : List Value).toArray s = true := fun w hw => hK.2.1 w hw _
  have hown : s.vm.findClass RX9 = some m.cls := findClass_of_methodNamed B.named
  have hlocks := B.notSynchronized
  have hS : va_S (fun q : Nat => G q ≠ 0) s.heap s.heap [] := va_S.rf
  have hAz : ∀ q, (fun q : Nat => G q ≠ 0) q → z0 ≤ q := hGz
  have hl := lv_entry ([.ref h0, .int p0, .int p1, .int p2, .int p3, .int p4]) (n := 6) (Nat.le_of_ble_eq_true rfl)
  rw [lg_entry_eq]
  generalize (lg_sl ([.ref h0, .int p0, .int p1, .int p2, .int p3, .int p4]) ++ List.replicate (6 - (lg_sl ([.ref h0, .int p0, .int p1, .int p2, .int p3, .int p4])).length) Slot.unset).toArray = ls at hl ⊢
  have hl : lv_has ls 6 [(0, .ref h0), (1, .int p0), (2, .int p1), (3, .int p2), (4, .int p3), (5, .int p4)] := hl
  refine lv_iload_n hx hb dX9_add_0 rfl (lv_at hl 1 rfl) ?_
  refine W.callR (W.runS (As := [.int p0]) (rest := []) ⟨hx, hb, hml, hown, hts⟩ (c_X9_isPair l p0) (cwS 1 hts (gdS ml_X9_78 st_X9_isPair in_X9 co_X9_isPair rfl) rfl rfl rfl (by decide +kernel) ⟨Nat.le_of_ble_eq_true rfl, Nat.le_of_ble_eq_true rfl⟩) preEq rfl rfl hl.1 rfl (lv_room (Nat.le_of_ble_eq_true rfl)) dX9_add_1 ⟨Nat.le_of_ble_eq_true rfl, Nat.le_of_ble_eq_true rfl⟩) ?_
  refine W.eq (g2 := F0 m 4 ls [.int (bI (0 ≤ p0.toInt ∧ p0.toInt < 4))]) (by rfl) ?_
  refine lv_if_eq (tgt := 33) hx hb dX9_add_4 (by decide) (fun c_1 => ?_) (fun c_1 => ?_)
  · have c_1 := bI_0 c_1
    refine lv_iconst (v := 0) hx hb dX9_add_33 (by decide) ?_
    refine vx_callv (rxS (fun _ => True) (As := [.int 0]) (rest := []) ⟨hx, hb, hml, hown, hts⟩ (c_X9_require l hst E z0 0) (cwS 1 hts (gdS ml_X9_53 st_X9_require in_X9 co_X9_require rfl) rfl rfl rfl (by decide +kernel) ⟨Nat.le_of_ble_eq_true rfl, Nat.le_of_ble_eq_true rfl⟩) trivial (fun U hU hW => hK.go hW hS hAz hU) rfl rfl hl.1 rfl (lv_room (Nat.le_of_ble_eq_true rfl)) dX9_add_34 ⟨Nat.le_of_ble_eq_true rfl, Nat.le_of_ble_eq_true rfl⟩) hS (fun q _ h => h.elim) (fun q h => h.elim) (fun q _ h => h.elim) (fun En ce q9 _ t H locs ht hvm hw hB hz hk hS hc1 hc2 hc3 => ?_) (fun _ t H locs ht hvm hw hB hz hk hS => absurd rfl hw)
    subst hB
    exact vx_out (fun x hx => (hne x hx).elim) hlocks hc1 hc2 hc3 (fun t ht hA => ⟨(), trivial, Or.inl ⟨rfl, by omega⟩, hS.F ht⟩) hS.2.2 (Nat.le_of_ble_eq_true rfl) (Nat.le_of_ble_eq_true rfl)
  · have c_1 := bI_n c_1
    refine lv_iload_n hx hb dX9_add_7 rfl (lv_at hl 2 rfl) ?_
    refine W.callR (W.runS (As := [.int p1]) (rest := []) ⟨hx, hb, hml, hown, hts⟩ (c_X9_isCell l p1) (cwS 1 hts (gdS ml_X9_67 st_X9_isCell in_X9 co_X9_isCell rfl) rfl rfl rfl (by decide +kernel) ⟨Nat.le_of_ble_eq_true rfl, Nat.le_of_ble_eq_true rfl⟩) preEq rfl rfl hl.1 rfl (lv_room (Nat.le_of_ble_eq_true rfl)) dX9_add_8 ⟨Nat.le_of_ble_eq_true rfl, Nat.le_of_ble_eq_true rfl⟩) ?_
    refine W.eq (g2 := F0 m 11 ls [.int (bI (0 ≤ p1.toInt ∧ p1.toInt < 32))]) (by rfl) ?_
    refine lv_if_eq (tgt := 33) hx hb dX9_add_11 (by decide) (fun c_2 => ?_) (fun c_2 => ?_)
    · have c_2 := bI_0 c_2
      refine lv_iconst (v := 0) hx hb dX9_add_33 (by decide) ?_
      refine vx_callv (rxS (fun _ => True) (As := [.int 0]) (rest := []) ⟨hx, hb, hml, hown, hts⟩ (c_X9_require l hst E z0 0) (cwS 1 hts (gdS ml_X9_53 st_X9_require in_X9 co_X9_require rfl) rfl rfl rfl (by decide +kernel) ⟨Nat.le_of_ble_eq_true rfl, Nat.le_of_ble_eq_true rfl⟩) trivial (fun U hU hW => hK.go hW hS hAz hU) rfl rfl hl.1 rfl (lv_room (Nat.le_of_ble_eq_true rfl)) dX9_add_34 ⟨Nat.le_of_ble_eq_true rfl, Nat.le_of_ble_eq_true rfl⟩) hS (fun q _ h => h.elim) (fun q h => h.elim) (fun q _ h => h.elim) (fun En ce q9 _ t H locs ht hvm hw hB hz hk hS hc1 hc2 hc3 => ?_) (fun _ t H locs ht hvm hw hB hz hk hS => absurd rfl hw)
      subst hB
      exact vx_out (fun x hx => (hne x hx).elim) hlocks hc1 hc2 hc3 (fun t ht hA => ⟨(), trivial, Or.inl ⟨rfl, by omega⟩, hS.F ht⟩) hS.2.2 (Nat.le_of_ble_eq_true rfl) (Nat.le_of_ble_eq_true rfl)
    · have c_2 := bI_n c_2
      refine lv_iload_n hx hb dX9_add_14 rfl (lv_at hl 3 rfl) ?_
      refine W.callR (W.runS (As := [.int p2]) (rest := []) ⟨hx, hb, hml, hown, hts⟩ (c_X9_isRegion l p2) (cwS 1 hts (gdS ml_X9_50 st_X9_isRegion in_X9 co_X9_isRegion rfl) rfl rfl rfl (by decide +kernel) ⟨Nat.le_of_ble_eq_true rfl, Nat.le_of_ble_eq_true rfl⟩) preEq rfl rfl hl.1 rfl (lv_room (Nat.le_of_ble_eq_true rfl)) dX9_add_15 ⟨Nat.le_of_ble_eq_true rfl, Nat.le_of_ble_eq_true rfl⟩) ?_
      refine W.eq (g2 := F0 m 18 ls [.int (bI (0 ≤ p2.toInt ∧ p2.toInt < 6))]) (by rfl) ?_
      refine lv_if_eq (tgt := 33) hx hb dX9_add_18 (by decide) (fun c_3 => ?_) (fun c_3 => ?_)
      · have c_3 := bI_0 c_3
        refine lv_iconst (v := 0) hx hb dX9_add_33 (by decide) ?_
        refine vx_callv (rxS (fun _ => True) (As := [.int 0]) (rest := []) ⟨hx, hb, hml, hown, hts⟩ (c_X9_require l hst E z0 0) (cwS 1 hts (gdS ml_X9_53 st_X9_require in_X9 co_X9_require rfl) rfl rfl rfl (by decide +kernel) ⟨Nat.le_of_ble_eq_true rfl, Nat.le_of_ble_eq_true rfl⟩) trivial (fun U hU hW => hK.go hW hS hAz hU) rfl rfl hl.1 rfl (lv_room (Nat.le_of_ble_eq_true rfl)) dX9_add_34 ⟨Nat.le_of_ble_eq_true rfl, Nat.le_of_ble_eq_true rfl⟩) hS (fun q _ h => h.elim) (fun q h => h.elim) (fun q _ h => h.elim) (fun En ce q9 _ t H locs ht hvm hw hB hz hk hS hc1 hc2 hc3 => ?_) (fun _ t H locs ht hvm hw hB hz hk hS => absurd rfl hw)
        subst hB
        exact vx_out (fun x hx => (hne x hx).elim) hlocks hc1 hc2 hc3 (fun t ht hA => ⟨(), trivial, Or.inl ⟨rfl, by omega⟩, hS.F ht⟩) hS.2.2 (Nat.le_of_ble_eq_true rfl) (Nat.le_of_ble_eq_true rfl)
      · have c_3 := bI_n c_3
        refine lv_iload hx hb dX9_add_21 (lv_at hl 4 rfl) ?_
        refine W.callR (W.runS (As := [.int p3]) (rest := []) ⟨hx, hb, hml, hown, hts⟩ (c_X9_isCell l p3) (cwS 1 hts (gdS ml_X9_67 st_X9_isCell in_X9 co_X9_isCell rfl) rfl rfl rfl (by decide +kernel) ⟨Nat.le_of_ble_eq_true rfl, Nat.le_of_ble_eq_true rfl⟩) preEq rfl rfl hl.1 rfl (lv_room (Nat.le_of_ble_eq_true rfl)) dX9_add_23 ⟨Nat.le_of_ble_eq_true rfl, Nat.le_of_ble_eq_true rfl⟩) ?_
        refine W.eq (g2 := F0 m 26 ls [.int (bI (0 ≤ p3.toInt ∧ p3.toInt < 32))]) (by rfl) ?_
        refine lv_if_eq (tgt := 33) hx hb dX9_add_26 (by decide) (fun c_4 => ?_) (fun c_4 => ?_)
        · have c_4 := bI_0 c_4
          refine lv_iconst (v := 0) hx hb dX9_add_33 (by decide) ?_
          refine vx_callv (rxS (fun _ => True) (As := [.int 0]) (rest := []) ⟨hx, hb, hml, hown, hts⟩ (c_X9_require l hst E z0 0) (cwS 1 hts (gdS ml_X9_53 st_X9_require in_X9 co_X9_require rfl) rfl rfl rfl (by decide +kernel) ⟨Nat.le_of_ble_eq_true rfl, Nat.le_of_ble_eq_true rfl⟩) trivial (fun U hU hW => hK.go hW hS hAz hU) rfl rfl hl.1 rfl (lv_room (Nat.le_of_ble_eq_true rfl)) dX9_add_34 ⟨Nat.le_of_ble_eq_true rfl, Nat.le_of_ble_eq_true rfl⟩) hS (fun q _ h => h.elim) (fun q h => h.elim) (fun q _ h => h.elim) (fun En ce q9 _ t H locs ht hvm hw hB hz hk hS hc1 hc2 hc3 => ?_) (fun _ t H locs ht hvm hw hB hz hk hS => absurd rfl hw)
          subst hB
          exact vx_out (fun x hx => (hne x hx).elim) hlocks hc1 hc2 hc3 (fun t ht hA => ⟨(), trivial, Or.inl ⟨rfl, by omega⟩, hS.F ht⟩) hS.2.2 (Nat.le_of_ble_eq_true rfl) (Nat.le_of_ble_eq_true rfl)
        · have c_4 := bI_n c_4
          refine lv_iconst (v := 1) hx hb dX9_add_29 (by decide) ?_
          refine lv_goto (tgt := 34) hx hb dX9_add_30 (by decide) ?_
          refine vx_callv (rxS (fun _ => True) (As := [.int 1]) (rest := []) ⟨hx, hb, hml, hown, hts⟩ (c_X9_require l hst E z0 1) (cwS 1 hts (gdS ml_X9_53 st_X9_require in_X9 co_X9_require rfl) rfl rfl rfl (by decide +kernel) ⟨Nat.le_of_ble_eq_true rfl, Nat.le_of_ble_eq_true rfl⟩) trivial (fun U hU hW => hK.go hW hS hAz hU) rfl rfl hl.1 rfl (lv_room (Nat.le_of_ble_eq_true rfl)) dX9_add_34 ⟨Nat.le_of_ble_eq_true rfl, Nat.le_of_ble_eq_true rfl⟩) hS (fun q _ h => h.elim) (fun q h => h.elim) (fun q _ h => h.elim) (fun En ce q9 _ t H locs ht hvm hw hB hz hk hS hc1 hc2 hc3 => absurd hw (by decide)) (fun _ t H locs ht hvm hw hB hz hk hS => ?_)
          have hT : TH E (T0 E) G [] H := hT.kept (fun q hq => hk q hq (fun h => h))
          refine lv_aload_n hx hb dX9_add_37 rfl (lv_at hl 0 rfl) ?_
          obtain ⟨n_5, p_5, f_5, ha_5, hg_5_0, hg_5_1, hg_5_2⟩ := tg_1 hT hG nx_0
          refine va_get (D := DG E) (ci := 9) (v := .ref p_5) (C := RX9) (T := TX9) (N := 3) hx hb hts iw_X9 hown hK.1 (va_one ha_5) 0 rfl rfl 1 (by decide) (hts _ fl_X9_29) (fun _ h9 => h9) rfl dX9_add_38 ?_
          refine lv_iload_n hx hb dX9_add_41 rfl (lv_at hl 1 rfl) ?_
          obtain ⟨f_6, ha_6, he_6⟩ := tg_3 hT hg_5_1 nx_0
          obtain ⟨j_ha_6, hj_ha_6, ej_ha_6⟩ := vp_in_of (show vp_in p0 4 from vp_in_iff.mpr (by omega)) (by decide)
          obtain ⟨b_ha_6, eb_ha_6, gb_ha_6⟩ := he_6 j_ha_6 hj_ha_6
          have cj_ha_6 : f_6 (p0 : Int32).toNatClampNeg = some b_ha_6 := by rw [ej_ha_6, nI_clamp (by omega)]; exact eb_ha_6
          refine va_aldq (D := DG E) hx hb hK.1 (va_one ha_6) 0 5 rfl rfl (show vp_in p0 4 from vp_in_iff.mpr (by omega)) dX9_add_42 ?_
          rw [cj_ha_6]
          refine W.eq (g2 := F0 m 43 ls [.ref b_ha_6]) (by rfl) ?_
          obtain ⟨rq_7, rs_7, ha_7, hg_7_0, hg_7_1⟩ := tg_8 hT gb_ha_6 nx_0
          refine va_calli (rnV (fun H => TH E (T0 E) G [] H) (As := []) (rest := []) ⟨hx, hb, hml, hown, hts⟩ (c_X3_takesRequests l E z0 G hGz b_ha_6  gb_ha_6) (cwV 0 hts (gdV ml_X9_101 im_X3_takesRequests se_X3_X3_takesRequests in_X3 co_X3_takesRequests rfl) rfl rfl rfl (by decide +kernel) ⟨Nat.le_of_ble_eq_true rfl, Nat.le_of_ble_eq_true rfl⟩) hT (fun U hU hW => hK.go hW hS hAz hU) (va_recv hK.1 (va_one ha_7) (ci := 3) (q0 := 0) rfl rfl) rfl rfl hl.1 rfl (lv_room (Nat.le_of_ble_eq_true rfl)) dX9_add_43 ⟨Nat.le_of_ble_eq_true rfl, Nat.le_of_ble_eq_true rfl⟩) hS (fun q _ h => h.elim) (fun q h => h.elim) (fun r_8 _ t H locs ht hvm hw hB hz hk hS => ?_)
          have hT : TH E (T0 E) G [] H := hT.kept (fun q hq => hk q hq (fun h => h))
          obtain rfl : r_8 = 0 := hw
          refine vx_callv (rxS (fun _ => True) (As := [.int 0]) (rest := []) ⟨hx, hb, hml, hown, hts⟩ (c_X9_requireState l hst E z0 0) (cwS 1 hts (gdS ml_X9_88 st_X9_requireState in_X9 co_X9_requireState rfl) rfl rfl rfl (by decide +kernel) ⟨Nat.le_of_ble_eq_true rfl, Nat.le_of_ble_eq_true rfl⟩) trivial (fun U hU hW => hK.go hW hS hAz hU) rfl rfl hl.1 rfl (lv_room (Nat.le_of_ble_eq_true rfl)) dX9_add_46 ⟨Nat.le_of_ble_eq_true rfl, Nat.le_of_ble_eq_true rfl⟩) hS (fun q _ h => h.elim) (fun q h => h.elim) (fun q _ h => h.elim) (fun En ce q9 _ t H locs ht hvm hw hB hz hk hS hc1 hc2 hc3 => ?_) (fun _ t H locs ht hvm hw hB hz hk hS => absurd rfl hw)
          subst hB
          exact vx_out (fun x hx => (hne x hx).elim) hlocks hc1 hc2 hc3 (fun t ht hA => ⟨(), trivial, Or.inr ⟨rfl, by omega⟩, hS.F ht⟩) hS.2.2 (Nat.le_of_ble_eq_true rfl) (Nat.le_of_ble_eq_true rfl)
theorem dX9_push_0 : decode cX9_push 0 = .ok (.iload_n 1, 1) := by decide +kernel
theorem dX9_push_1 : decode cX9_push 1 = .ok (.invokestatic 78, 3) := by decide +kernel
theorem dX9_push_4 : decode cX9_push 4 = .ok (.ifCond .eq 31, 3) := by decide +kernel
theorem dX9_push_7 : decode cX9_push 7 = .ok (.aload_n 0, 1) := by decide +kernel
theorem dX9_push_8 : decode cX9_push 8 = .ok (.getfield 29, 3) := by decide +kernel
theorem dX9_push_11 : decode cX9_push 11 = .ok (.iload_n 1, 1) := by decide +kernel
theorem dX9_push_12 : decode cX9_push 12 = .ok (.aaload, 1) := by decide +kernel
theorem dX9_push_13 : decode cX9_push 13 = .ok (.getfield 84, 3) := by decide +kernel
theorem dX9_push_16 : decode cX9_push 16 = .ok (.iconst 1, 1) := by decide +kernel
theorem dX9_push_17 : decode cX9_push 17 = .ok (.if_icmp .ne 18, 3) := by decide +kernel
theorem dX9_push_20 : decode cX9_push 20 = .ok (.aload_n 0, 1) := by decide +kernel
theorem dX9_push_21 : decode cX9_push 21 = .ok (.getfield 29, 3) := by decide +kernel
theorem dX9_push_24 : decode cX9_push 24 = .ok (.iload_n 1, 1) := by decide +kernel
theorem dX9_push_25 : decode cX9_push 25 = .ok (.aaload, 1) := by decide +kernel
theorem dX9_push_26 : decode cX9_push 26 = .ok (.getfield 105, 3) := by decide +kernel
theorem dX9_push_29 : decode cX9_push 29 = .ok (.invokevirtual 135, 3) := by decide +kernel
theorem dX9_push_32 : decode cX9_push 32 = .ok (.goto 4, 3) := by decide +kernel
theorem dX9_push_35 : decode cX9_push 35 = .ok (.iconst (-1), 1) := by decide +kernel
theorem dX9_push_36 : decode cX9_push 36 = .ok (.ireturn, 1) := by decide +kernel
set_option maxHeartbeats 4000000 in
set_option maxRecDepth 100000 in
theorem c_X9_push (l : Launch) (E : EE) (z0 : Nat) (G : Nat → Nat) (hGz : ∀ q, G q ≠ 0 → z0 ≤ q) (h0 : Nat) (p0 : Int32) (hG : G h0 = 1) : Met l yX9_push [Cond.code yX9_push cX9_push 2 (some .int)] ({ frames := 1, cells := 0, slots := 0, locals := 20 } : Room) (va_Pc [.ref h0, .int p0] (fun U => TH E (T0 E) G [] U.heap ∧ KS E z0 U)) (va_Qi (fun (r : Int32) (_ : Unit) => r = -1) (fun _ _ => True) (fun _ : Nat => False)) 0 0 (fun _ : Nat => False) := by
  refine Met.ofW (cc := cX9_push) (maxL := 2) (ret := (some .int)) (by decide) rfl ?_
  intro p e s m args below meth c s₁ B hml hv
  obtain ⟨rfl, hT, hK⟩ := hv
  have hx := B.exec
  have hb := B.bytes
  have hr := B.returns
  have hts : ∀ w ∈ TS, w.before ([.ref h0, .int p0] : List Value).toArray s = true := fun w hw => hK.2.1 w hw _
  have hown : s.vm.findClass RX9 = some m.cls := findClass_of_methodNamed B.named
  have hlocks := B.notSynchronized
  have hS : va_S (fun _ : Nat => False) s.heap s.heap [] := va_S.rf
  have hAz : ∀ q, (fun _ : Nat => False) q → z0 ≤ q := fun _ h => h.elim
  have hl := lv_entry ([.ref h0, .int p0]) (n := 2) (Nat.le_of_ble_eq_true rfl)
  rw [lg_entry_eq]
  generalize (lg_sl ([.ref h0, .int p0]) ++ List.replicate (2 - (lg_sl ([.ref h0, .int p0])).length) Slot.unset).toArray = ls at hl ⊢
  have hl : lv_has ls 2 [(0, .ref h0), (1, .int p0)] := hl
  refine lv_iload_n hx hb dX9_push_0 rfl (lv_at hl 1 rfl) ?_
  refine W.callR (W.runS (As := [.int p0]) (rest := []) ⟨hx, hb, hml, hown, hts⟩ (c_X9_isPair l p0) (cwS 1 hts (gdS ml_X9_78 st_X9_isPair in_X9 co_X9_isPair rfl) rfl rfl rfl (by decide +kernel) ⟨Nat.le_of_ble_eq_true rfl, Nat.le_of_ble_eq_true rfl⟩) preEq rfl rfl hl.1 rfl (lv_room (Nat.le_of_ble_eq_true rfl)) dX9_push_1 ⟨Nat.le_of_ble_eq_true rfl, Nat.le_of_ble_eq_true rfl⟩) ?_
  refine W.eq (g2 := F0 m 4 ls [.int (bI (0 ≤ p0.toInt ∧ p0.toInt < 4))]) (by rfl) ?_
  refine lv_if_eq (tgt := 35) hx hb dX9_push_4 (by decide) (fun c_1 => ?_) (fun c_1 => ?_)
  · have c_1 := bI_0 c_1
    refine lv_iconst (v := (-1)) hx hb dX9_push_35 (by decide) ?_
    exact W.iret (v := (-1)) hx hb hr (fun t ht hW => ⟨⟨(-1), (), rfl, rfl, trivial⟩, hS.F ht⟩) hS.2.2 dX9_push_36
  · have c_1 := bI_n c_1
    refine lv_aload_n hx hb dX9_push_7 rfl (lv_at hl 0 rfl) ?_
    obtain ⟨n_2, p_2, f_2, ha_2, hg_2_0, hg_2_1, hg_2_2⟩ := tg_1 hT hG nx_0
    refine va_get (D := DG E) (ci := 9) (v := .ref p_2) (C := RX9) (T := TX9) (N := 3) hx hb hts iw_X9 hown hK.1 (va_one ha_2) 0 rfl rfl 1 (by decide) (hts _ fl_X9_29) (fun _ h9 => h9) rfl dX9_push_8 ?_
    refine lv_iload_n hx hb dX9_push_11 rfl (lv_at hl 1 rfl) ?_
    obtain ⟨f_3, ha_3, he_3⟩ := tg_3 hT hg_2_1 nx_0
    obtain ⟨j_ha_3, hj_ha_3, ej_ha_3⟩ := vp_in_of (show vp_in p0 4 from vp_in_iff.mpr (by omega)) (by decide)
    obtain ⟨b_ha_3, eb_ha_3, gb_ha_3⟩ := he_3 j_ha_3 hj_ha_3
    have cj_ha_3 : f_3 (p0 : Int32).toNatClampNeg = some b_ha_3 := by rw [ej_ha_3, nI_clamp (by omega)]; exact eb_ha_3
    refine va_aldq (D := DG E) hx hb hK.1 (va_one ha_3) 0 5 rfl rfl (show vp_in p0 4 from vp_in_iff.mpr (by omega)) dX9_push_12 ?_
    rw [cj_ha_3]
    refine W.eq (g2 := F0 m 13 ls [.ref b_ha_3]) (by rfl) ?_
    obtain ⟨rq_4, rs_4, ha_4, hg_4_0, hg_4_1⟩ := tg_8 hT gb_ha_3 nx_0
    refine va_get (D := DG E) (ci := 3) (v := .int 0) (C := RX3) (T := TX3) (N := 3) hx hb hts iw_X3 hown hK.1 (va_one ha_4) 0 rfl rfl 2 (by decide) (hts _ fl_X9_84) (fun _ h9 => h9) rfl dX9_push_13 ?_
    refine lv_iconst (v := 1) hx hb dX9_push_16 (by decide) ?_
    refine lv_icmp_ne (tgt := 35) hx hb dX9_push_17 (by decide) (fun c_5 => ?_) (fun c_5 => absurd c_5 (by decide))
    refine lv_iconst (v := (-1)) hx hb dX9_push_35 (by decide) ?_
    exact W.iret (v := (-1)) hx hb hr (fun t ht hW => ⟨⟨(-1), (), rfl, rfl, trivial⟩, hS.F ht⟩) hS.2.2 dX9_push_36
theorem dX9_deliver_0 : decode cX9_deliver 0 = .ok (.aload_n 0, 1) := by decide +kernel
theorem dX9_deliver_1 : decode cX9_deliver 1 = .ok (.getfield 16, 3) := by decide +kernel
theorem dX9_deliver_4 : decode cX9_deliver 4 = .ok (.iload_n 1, 1) := by decide +kernel
theorem dX9_deliver_5 : decode cX9_deliver 5 = .ok (.invokevirtual 139, 3) := by decide +kernel
theorem dX9_deliver_8 : decode cX9_deliver 8 = .ok (.ifCond .ne 5, 3) := by decide +kernel
theorem dX9_deliver_11 : decode cX9_deliver 11 = .ok (.iconst 0, 1) := by decide +kernel
theorem dX9_deliver_12 : decode cX9_deliver 12 = .ok (.ireturn, 1) := by decide +kernel
theorem dX9_deliver_13 : decode cX9_deliver 13 = .ok (.aload_n 0, 1) := by decide +kernel
theorem dX9_deliver_14 : decode cX9_deliver 14 = .ok (.getfield 16, 3) := by decide +kernel
theorem dX9_deliver_17 : decode cX9_deliver 17 = .ok (.iload_n 1, 1) := by decide +kernel
theorem dX9_deliver_18 : decode cX9_deliver 18 = .ok (.invokevirtual 142, 3) := by decide +kernel
theorem dX9_deliver_21 : decode cX9_deliver 21 = .ok (.astore_n 2, 1) := by decide +kernel
theorem dX9_deliver_22 : decode cX9_deliver 22 = .ok (.aload_n 0, 1) := by decide +kernel
theorem dX9_deliver_23 : decode cX9_deliver 23 = .ok (.getfield 29, 3) := by decide +kernel
theorem dX9_deliver_26 : decode cX9_deliver 26 = .ok (.aload_n 2, 1) := by decide +kernel
theorem dX9_deliver_27 : decode cX9_deliver 27 = .ok (.getfield 146, 3) := by decide +kernel
theorem dX9_deliver_30 : decode cX9_deliver 30 = .ok (.aaload, 1) := by decide +kernel
theorem dX9_deliver_31 : decode cX9_deliver 31 = .ok (.aload_n 2, 1) := by decide +kernel
theorem dX9_deliver_32 : decode cX9_deliver 32 = .ok (.invokevirtual 151, 3) := by decide +kernel
theorem dX9_deliver_35 : decode cX9_deliver 35 = .ok (.iconst 1, 1) := by decide +kernel
theorem dX9_deliver_36 : decode cX9_deliver 36 = .ok (.ireturn, 1) := by decide +kernel
set_option maxHeartbeats 4000000 in
set_option maxRecDepth 100000 in
theorem c_X9_deliver (l : Launch) (E : EE) (z0 : Nat) (G : Nat → Nat) (hGz : ∀ q, G q ≠ 0 → z0 ≤ q) (h0 : Nat) (p0 : Int32) (hG : G h0 = 1) : Met l yX9_deliver [Cond.code yX9_deliver cX9_deliver 3 (some .boolean)] ({ frames := 1, cells := 0, slots := 0, locals := 21 } : Room) (va_Pc [.ref h0, .int p0] (fun U => TH E (T0 E) G [] U.heap ∧ KS E z0 U)) (va_Qi (fun (r : Int32) (_ : Unit) => r = 0) (fun _ _ => True) (fun _ : Nat => False)) 0 0 (fun _ : Nat => False) := by
  refine Met.ofW (cc := cX9_deliver) (maxL := 3) (ret := (some .boolean)) (by decide) rfl ?_
  intro p e s m args below meth c s₁ B hml hv
  obtain ⟨rfl, hT, hK⟩ := hv
  have hx := B.exec
  have hb := B.bytes
  have hr := B.returns
  have hts : ∀ w ∈ TS, w.before ([.ref h0, .int p0] : List Value).toArray s = true := fun w hw => hK.2.1 w hw _
  have hown : s.vm.findClass RX9 = some m.cls := findClass_of_methodNamed B.named
  have hlocks := B.notSynchronized
  have hS : va_S (fun _ : Nat => False) s.heap s.heap [] := va_S.rf
  have hAz : ∀ q, (fun _ : Nat => False) q → z0 ≤ q := fun _ h => h.elim
  have hl := lv_entry ([.ref h0, .int p0]) (n := 3) (Nat.le_of_ble_eq_true rfl)
  rw [lg_entry_eq]
  generalize (lg_sl ([.ref h0, .int p0]) ++ List.replicate (3 - (lg_sl ([.ref h0, .int p0])).length) Slot.unset).toArray = ls at hl ⊢
  have hl : lv_has ls 3 [(0, .ref h0), (1, .int p0)] := hl
  refine lv_aload_n hx hb dX9_deliver_0 rfl (lv_at hl 0 rfl) ?_
  obtain ⟨n_1, p_1, f_1, ha_1, hg_1_0, hg_1_1, hg_1_2⟩ := tg_1 hT hG nx_0
  refine va_get (D := DG E) (ci := 9) (v := .ref f_1) (C := RX9) (T := TX9) (N := 3) hx hb hts iw_X9 hown hK.1 (va_one ha_1) 0 rfl rfl 2 (by decide) (hts _ fl_X9_16) (fun _ h9 => h9) rfl dX9_deliver_1 ?_
  refine lv_iload_n hx hb dX9_deliver_4 rfl (lv_at hl 1 rfl) ?_
  obtain ⟨r_2, t_2, o_2, ha_2, hg_2_0, hg_2_1, hg_2_2⟩ := tg_4 hT hg_1_2 nx_0
  refine va_calli (rnV (fun H => TH E (T0 E) G [] H) (As := [.int p0]) (rest := []) ⟨hx, hb, hml, hown, hts⟩ (c_X0_has l E z0 G hGz f_1 p0 hg_1_2) (cwV 1 hts (gdV ml_X9_139 im_X0_has se_X0_X0_has in_X0 co_X0_has rfl) rfl rfl rfl (by decide +kernel) ⟨Nat.le_of_ble_eq_true rfl, Nat.le_of_ble_eq_true rfl⟩) hT (fun U hU hW => hK.go hW hS hAz hU) (va_recv hK.1 (va_one ha_2) (ci := 0) (q0 := 0) rfl rfl) rfl rfl hl.1 rfl (lv_room (Nat.le_of_ble_eq_true rfl)) dX9_deliver_5 ⟨Nat.le_of_ble_eq_true rfl, Nat.le_of_ble_eq_true rfl⟩) hS (fun q _ h => h.elim) (fun q h => h.elim) (fun r_3 _ t H locs ht hvm hw hB hz hk hS => ?_)
  have hT : TH E (T0 E) G [] H := hT.kept (fun q hq => hk q hq (fun h => h))
  obtain rfl : r_3 = 0 := hw
  refine lv_if_ne (tgt := 13) hx hb dX9_deliver_8 (by decide) (fun c_4 => absurd c_4 (by decide)) (fun c_4 => ?_)
  refine lv_iconst (v := 0) hx hb dX9_deliver_11 (by decide) ?_
  exact W.zret (v := 0) (ty := .boolean) hx hb hr rfl (fun t ht hW => ⟨⟨0, (), rfl, rfl, trivial⟩, hS.F ht⟩) hS.2.2 dX9_deliver_12
theorem dX9_spoil_0 : decode cX9_spoil 0 = .ok (.aload_n 0, 1) := by decide +kernel
theorem dX9_spoil_1 : decode cX9_spoil 1 = .ok (.getfield 16, 3) := by decide +kernel
theorem dX9_spoil_4 : decode cX9_spoil 4 = .ok (.iload_n 1, 1) := by decide +kernel
theorem dX9_spoil_5 : decode cX9_spoil 5 = .ok (.invokevirtual 139, 3) := by decide +kernel
theorem dX9_spoil_8 : decode cX9_spoil 8 = .ok (.ifCond .eq 17, 3) := by decide +kernel
theorem dX9_spoil_11 : decode cX9_spoil 11 = .ok (.iload_n 2, 1) := by decide +kernel
theorem dX9_spoil_12 : decode cX9_spoil 12 = .ok (.ifCond .eq 15, 3) := by decide +kernel
theorem dX9_spoil_15 : decode cX9_spoil 15 = .ok (.aload_n 0, 1) := by decide +kernel
theorem dX9_spoil_16 : decode cX9_spoil 16 = .ok (.getfield 16, 3) := by decide +kernel
theorem dX9_spoil_19 : decode cX9_spoil 19 = .ok (.invokevirtual 155, 3) := by decide +kernel
theorem dX9_spoil_22 : decode cX9_spoil 22 = .ok (.ifCond .eq 5, 3) := by decide +kernel
theorem dX9_spoil_25 : decode cX9_spoil 25 = .ok (.iconst 0, 1) := by decide +kernel
theorem dX9_spoil_26 : decode cX9_spoil 26 = .ok (.ireturn, 1) := by decide +kernel
theorem dX9_spoil_27 : decode cX9_spoil 27 = .ok (.iload_n 2, 1) := by decide +kernel
theorem dX9_spoil_28 : decode cX9_spoil 28 = .ok (.ifCond .eq 14, 3) := by decide +kernel
theorem dX9_spoil_31 : decode cX9_spoil 31 = .ok (.aload_n 0, 1) := by decide +kernel
theorem dX9_spoil_32 : decode cX9_spoil 32 = .ok (.getfield 16, 3) := by decide +kernel
theorem dX9_spoil_35 : decode cX9_spoil 35 = .ok (.iload_n 1, 1) := by decide +kernel
theorem dX9_spoil_36 : decode cX9_spoil 36 = .ok (.invokevirtual 158, 3) := by decide +kernel
theorem dX9_spoil_39 : decode cX9_spoil 39 = .ok (.goto 12, 3) := by decide +kernel
theorem dX9_spoil_42 : decode cX9_spoil 42 = .ok (.aload_n 0, 1) := by decide +kernel
theorem dX9_spoil_43 : decode cX9_spoil 43 = .ok (.getfield 16, 3) := by decide +kernel
theorem dX9_spoil_46 : decode cX9_spoil 46 = .ok (.iload_n 1, 1) := by decide +kernel
theorem dX9_spoil_47 : decode cX9_spoil 47 = .ok (.invokevirtual 142, 3) := by decide +kernel
theorem dX9_spoil_50 : decode cX9_spoil 50 = .ok (.pop, 1) := by decide +kernel
theorem dX9_spoil_51 : decode cX9_spoil 51 = .ok (.iconst 1, 1) := by decide +kernel
theorem dX9_spoil_52 : decode cX9_spoil 52 = .ok (.ireturn, 1) := by decide +kernel
set_option maxHeartbeats 4000000 in
set_option maxRecDepth 100000 in
theorem c_X9_spoil (l : Launch) (E : EE) (z0 : Nat) (G : Nat → Nat) (hGz : ∀ q, G q ≠ 0 → z0 ≤ q) (h0 : Nat) (p0 p1 : Int32) (hG : G h0 = 1) : Met l yX9_spoil [Cond.code yX9_spoil cX9_spoil 3 (some .boolean)] ({ frames := 1, cells := 0, slots := 0, locals := 21 } : Room) (va_Pc [.ref h0, .int p0, .int p1] (fun U => TH E (T0 E) G [] U.heap ∧ KS E z0 U)) (va_Qi (fun (r : Int32) (_ : Unit) => r = 0) (fun _ _ => True) (fun _ : Nat => False)) 0 0 (fun _ : Nat => False) := by
  refine Met.ofW (cc := cX9_spoil) (maxL := 3) (ret := (some .boolean)) (by decide) rfl ?_
  intro p e s m args below meth c s₁ B hml hv
  obtain ⟨rfl, hT, hK⟩ := hv
  have hx := B.exec
  have hb := B.bytes
  have hr := B.returns
  have hts : ∀ w ∈ TS, w.before ([.ref h0, .int p0, .int p1] : List Value).toArray s = true := fun w hw => hK.2.1 w hw _
  have hown : s.vm.findClass RX9 = some m.cls := findClass_of_methodNamed B.named
  have hlocks := B.notSynchronized
  have hS : va_S (fun _ : Nat => False) s.heap s.heap [] := va_S.rf
  have hAz : ∀ q, (fun _ : Nat => False) q → z0 ≤ q := fun _ h => h.elim
  have hl := lv_entry ([.ref h0, .int p0, .int p1]) (n := 3) (Nat.le_of_ble_eq_true rfl)
  rw [lg_entry_eq]
  generalize (lg_sl ([.ref h0, .int p0, .int p1]) ++ List.replicate (3 - (lg_sl ([.ref h0, .int p0, .int p1])).length) Slot.unset).toArray = ls at hl ⊢
  have hl : lv_has ls 3 [(0, .ref h0), (1, .int p0), (2, .int p1)] := hl
  refine lv_aload_n hx hb dX9_spoil_0 rfl (lv_at hl 0 rfl) ?_
  obtain ⟨n_1, p_1, f_1, ha_1, hg_1_0, hg_1_1, hg_1_2⟩ := tg_1 hT hG nx_0
  refine va_get (D := DG E) (ci := 9) (v := .ref f_1) (C := RX9) (T := TX9) (N := 3) hx hb hts iw_X9 hown hK.1 (va_one ha_1) 0 rfl rfl 2 (by decide) (hts _ fl_X9_16) (fun _ h9 => h9) rfl dX9_spoil_1 ?_
  refine lv_iload_n hx hb dX9_spoil_4 rfl (lv_at hl 1 rfl) ?_
  obtain ⟨r_2, t_2, o_2, ha_2, hg_2_0, hg_2_1, hg_2_2⟩ := tg_4 hT hg_1_2 nx_0
  refine va_calli (rnV (fun H => TH E (T0 E) G [] H) (As := [.int p0]) (rest := []) ⟨hx, hb, hml, hown, hts⟩ (c_X0_has l E z0 G hGz f_1 p0 hg_1_2) (cwV 1 hts (gdV ml_X9_139 im_X0_has se_X0_X0_has in_X0 co_X0_has rfl) rfl rfl rfl (by decide +kernel) ⟨Nat.le_of_ble_eq_true rfl, Nat.le_of_ble_eq_true rfl⟩) hT (fun U hU hW => hK.go hW hS hAz hU) (va_recv hK.1 (va_one ha_2) (ci := 0) (q0 := 0) rfl rfl) rfl rfl hl.1 rfl (lv_room (Nat.le_of_ble_eq_true rfl)) dX9_spoil_5 ⟨Nat.le_of_ble_eq_true rfl, Nat.le_of_ble_eq_true rfl⟩) hS (fun q _ h => h.elim) (fun q h => h.elim) (fun r_3 _ t H locs ht hvm hw hB hz hk hS => ?_)
  have hT : TH E (T0 E) G [] H := hT.kept (fun q hq => hk q hq (fun h => h))
  obtain rfl : r_3 = 0 := hw
  refine lv_if_eq (tgt := 25) hx hb dX9_spoil_8 (by decide) (fun c_4 => ?_) (fun c_4 => absurd c_4 (by decide))
  refine lv_iconst (v := 0) hx hb dX9_spoil_25 (by decide) ?_
  exact W.zret (v := 0) (ty := .boolean) hx hb hr rfl (fun t ht hW => ⟨⟨0, (), rfl, rfl, trivial⟩, hS.F ht⟩) hS.2.2 dX9_spoil_26
theorem dX9_tick_0 : decode cX9_tick 0 = .ok (.iconst 0, 1) := by decide +kernel
theorem dX9_tick_1 : decode cX9_tick 1 = .ok (.istore_n 1, 1) := by decide +kernel
theorem dX9_tick_2 : decode cX9_tick 2 = .ok (.iconst 0, 1) := by decide +kernel
theorem dX9_tick_3 : decode cX9_tick 3 = .ok (.istore_n 2, 1) := by decide +kernel
theorem dX9_tick_4 : decode cX9_tick 4 = .ok (.iload_n 2, 1) := by decide +kernel
theorem dX9_tick_5 : decode cX9_tick 5 = .ok (.iconst 4, 1) := by decide +kernel
theorem dX9_tick_6 : decode cX9_tick 6 = .ok (.if_icmp .ge 24, 3) := by decide +kernel
theorem dX9_tick_9 : decode cX9_tick 9 = .ok (.aload_n 0, 1) := by decide +kernel
theorem dX9_tick_10 : decode cX9_tick 10 = .ok (.getfield 29, 3) := by decide +kernel
theorem dX9_tick_13 : decode cX9_tick 13 = .ok (.iload_n 2, 1) := by decide +kernel
theorem dX9_tick_14 : decode cX9_tick 14 = .ok (.aaload, 1) := by decide +kernel
theorem dX9_tick_15 : decode cX9_tick 15 = .ok (.invokevirtual 162, 3) := by decide +kernel
theorem dX9_tick_18 : decode cX9_tick 18 = .ok (.ifCond .eq 6, 3) := by decide +kernel
theorem dX9_tick_21 : decode cX9_tick 21 = .ok (.iinc 1 1, 3) := by decide +kernel
theorem dX9_tick_24 : decode cX9_tick 24 = .ok (.iinc 2 1, 3) := by decide +kernel
theorem dX9_tick_27 : decode cX9_tick 27 = .ok (.goto (-23), 3) := by decide +kernel
theorem dX9_tick_30 : decode cX9_tick 30 = .ok (.iload_n 1, 1) := by decide +kernel
theorem dX9_tick_31 : decode cX9_tick 31 = .ok (.ireturn, 1) := by decide +kernel
set_option maxHeartbeats 4000000 in
set_option maxRecDepth 100000 in
theorem c_X9_tick (l : Launch) (E : EE) (z0 : Nat) (G : Nat → Nat) (hGz : ∀ q, G q ≠ 0 → z0 ≤ q) (h0 : Nat) (hG : G h0 = 1) : Met l yX9_tick [Cond.code yX9_tick cX9_tick 3 (some .int)] ({ frames := 1, cells := 0, slots := 0, locals := 20 } : Room) (va_Pc [.ref h0] (fun U => TH E (T0 E) G [] U.heap ∧ KS E z0 U)) (va_Qi (fun (r : Int32) (_ : Unit) => r = 0) (fun _ _ => True) (fun _ : Nat => False)) 0 0 (fun _ : Nat => False) := by
  refine Met.ofW (cc := cX9_tick) (maxL := 3) (ret := (some .int)) (by decide) rfl ?_
  intro p e s m args below meth c s₁ B hml hv
  obtain ⟨rfl, hT, hK⟩ := hv
  have hx := B.exec
  have hb := B.bytes
  have hr := B.returns
  have hts : ∀ w ∈ TS, w.before ([.ref h0] : List Value).toArray s = true := fun w hw => hK.2.1 w hw _
  have hown : s.vm.findClass RX9 = some m.cls := findClass_of_methodNamed B.named
  have hlocks := B.notSynchronized
  have hS : va_S (fun _ : Nat => False) s.heap s.heap [] := va_S.rf
  have hAz : ∀ q, (fun _ : Nat => False) q → z0 ≤ q := fun _ h => h.elim
  have hl := lv_entry ([.ref h0]) (n := 3) (Nat.le_of_ble_eq_true rfl)
  rw [lg_entry_eq]
  generalize (lg_sl ([.ref h0]) ++ List.replicate (3 - (lg_sl ([.ref h0])).length) Slot.unset).toArray = ls at hl ⊢
  have hl : lv_has ls 3 [(0, .ref h0)] := hl
  refine lv_iconst (v := 0) hx hb dX9_tick_0 (by decide) ?_
  refine lv_istore_n (lv' := [(1, .int 0), (0, .ref h0)]) hx hb dX9_tick_1 rfl hl (by decide) rfl (fun ls hl => ?_)
  refine lv_iconst (v := 0) hx hb dX9_tick_2 (by decide) ?_
  refine lv_istore_n (lv' := [(2, .int 0), (1, .int 0), (0, .ref h0)]) hx hb dX9_tick_3 rfl hl (by decide) rfl (fun ls hl => ?_)
  refine lv_iload_n hx hb dX9_tick_4 rfl (lv_at hl 0 rfl) ?_
  refine lv_iconst (v := 4) hx hb dX9_tick_5 (by decide) ?_
  refine lv_icmp_ge (tgt := 30) hx hb dX9_tick_6 (by decide) (fun c_1 => absurd c_1 (by decide)) (fun c_1 => ?_)
  refine lv_aload_n hx hb dX9_tick_9 rfl (lv_at hl 2 rfl) ?_
  obtain ⟨n_2, p_2, f_2, ha_2, hg_2_0, hg_2_1, hg_2_2⟩ := tg_1 hT hG nx_0
  refine va_get (D := DG E) (ci := 9) (v := .ref p_2) (C := RX9) (T := TX9) (N := 3) hx hb hts iw_X9 hown hK.1 (va_one ha_2) 0 rfl rfl 1 (by decide) (hts _ fl_X9_29) (fun _ h9 => h9) rfl dX9_tick_10 ?_
  refine lv_iload_n hx hb dX9_tick_13 rfl (lv_at hl 0 rfl) ?_
  obtain ⟨f_3, ha_3, he_3⟩ := tg_3 hT hg_2_1 nx_0
  obtain ⟨j_ha_3, hj_ha_3, ej_ha_3⟩ := vp_in_of (show vp_in (0) 4 from vp_in_iff.mpr ⟨by decide, by decide⟩) (by decide)
  obtain ⟨b_ha_3, eb_ha_3, gb_ha_3⟩ := he_3 j_ha_3 hj_ha_3
  have cj_ha_3 : f_3 (0 : Int32).toNatClampNeg = some b_ha_3 := by rw [ej_ha_3, nI_clamp (by omega)]; exact eb_ha_3
  refine va_aldq (D := DG E) hx hb hK.1 (va_one ha_3) 0 5 rfl rfl (show vp_in (0) 4 from vp_in_iff.mpr ⟨by decide, by decide⟩) dX9_tick_14 ?_
  rw [cj_ha_3]
  refine W.eq (g2 := F0 m 15 ls [.ref b_ha_3]) (by rfl) ?_
  obtain ⟨rq_4, rs_4, ha_4, hg_4_0, hg_4_1⟩ := tg_8 hT gb_ha_3 nx_0
  refine va_calli (rnV (fun H => TH E (T0 E) G [] H) (As := []) (rest := []) ⟨hx, hb, hml, hown, hts⟩ (c_X3_failsByTime l E z0 G hGz b_ha_3  gb_ha_3) (cwV 0 hts (gdV ml_X9_162 im_X3_failsByTime se_X3_X3_failsByTime in_X3 co_X3_failsByTime rfl) rfl rfl rfl (by decide +kernel) ⟨Nat.le_of_ble_eq_true rfl, Nat.le_of_ble_eq_true rfl⟩) hT (fun U hU hW => hK.go hW hS hAz hU) (va_recv hK.1 (va_one ha_4) (ci := 3) (q0 := 0) rfl rfl) rfl rfl hl.1 rfl (lv_room (Nat.le_of_ble_eq_true rfl)) dX9_tick_15 ⟨Nat.le_of_ble_eq_true rfl, Nat.le_of_ble_eq_true rfl⟩) hS (fun q _ h => h.elim) (fun q h => h.elim) (fun r_5 _ t H locs ht hvm hw hB hz hk hS => ?_)
  have hT : TH E (T0 E) G [] H := hT.kept (fun q hq => hk q hq (fun h => h))
  obtain rfl : r_5 = 0 := hw
  refine lv_if_eq (tgt := 24) hx hb dX9_tick_18 (by decide) (fun c_6 => ?_) (fun c_6 => absurd c_6 (by decide))
  refine lv_iinc (v := 1) (lv' := [(2, .int 1), (1, .int 0), (0, .ref h0)]) hx hb dX9_tick_24 hl (k := 0) rfl (by decide) (by decide) rfl (fun ls hl => ?_)
  refine lv_goto (tgt := 4) hx hb dX9_tick_27 (by decide) ?_
  refine lv_iload_n hx hb dX9_tick_4 rfl (lv_at hl 0 rfl) ?_
  refine lv_iconst (v := 4) hx hb dX9_tick_5 (by decide) ?_
  refine lv_icmp_ge (tgt := 30) hx hb dX9_tick_6 (by decide) (fun c_7 => absurd c_7 (by decide)) (fun c_7 => ?_)
  refine lv_aload_n hx hb dX9_tick_9 rfl (lv_at hl 2 rfl) ?_
  obtain ⟨n_8, p_8, f_8, ha_8, hg_8_0, hg_8_1, hg_8_2⟩ := tg_1 hT hG nx_0
  refine va_get (D := DG E) (ci := 9) (v := .ref p_8) (C := RX9) (T := TX9) (N := 3) hx hb hts iw_X9 hown hK.1 (va_one ha_8) 0 rfl rfl 1 (by decide) (hts _ fl_X9_29) (fun _ h9 => h9) rfl dX9_tick_10 ?_
  refine lv_iload_n hx hb dX9_tick_13 rfl (lv_at hl 0 rfl) ?_
  obtain ⟨f_9, ha_9, he_9⟩ := tg_3 hT hg_8_1 nx_0
  obtain ⟨j_ha_9, hj_ha_9, ej_ha_9⟩ := vp_in_of (show vp_in (1) 4 from vp_in_iff.mpr ⟨by decide, by decide⟩) (by decide)
  obtain ⟨b_ha_9, eb_ha_9, gb_ha_9⟩ := he_9 j_ha_9 hj_ha_9
  have cj_ha_9 : f_9 (1 : Int32).toNatClampNeg = some b_ha_9 := by rw [ej_ha_9, nI_clamp (by omega)]; exact eb_ha_9
  refine va_aldq (D := DG E) hx hb hK.1 (va_one ha_9) 0 5 rfl rfl (show vp_in (1) 4 from vp_in_iff.mpr ⟨by decide, by decide⟩) dX9_tick_14 ?_
  rw [cj_ha_9]
  refine W.eq (g2 := F0 m 15 ls [.ref b_ha_9]) (by rfl) ?_
  obtain ⟨rq_10, rs_10, ha_10, hg_10_0, hg_10_1⟩ := tg_8 hT gb_ha_9 nx_0
  refine va_calli (rnV (fun H => TH E (T0 E) G [] H) (As := []) (rest := []) ⟨hx, hb, hml, hown, hts⟩ (c_X3_failsByTime l E z0 G hGz b_ha_9  gb_ha_9) (cwV 0 hts (gdV ml_X9_162 im_X3_failsByTime se_X3_X3_failsByTime in_X3 co_X3_failsByTime rfl) rfl rfl rfl (by decide +kernel) ⟨Nat.le_of_ble_eq_true rfl, Nat.le_of_ble_eq_true rfl⟩) hT (fun U hU hW => hK.go hW hS hAz hU) (va_recv hK.1 (va_one ha_10) (ci := 3) (q0 := 0) rfl rfl) rfl rfl hl.1 rfl (lv_room (Nat.le_of_ble_eq_true rfl)) dX9_tick_15 ⟨Nat.le_of_ble_eq_true rfl, Nat.le_of_ble_eq_true rfl⟩) hS (fun q _ h => h.elim) (fun q h => h.elim) (fun r_11 _ t H locs ht hvm hw hB hz hk hS => ?_)
  have hT : TH E (T0 E) G [] H := hT.kept (fun q hq => hk q hq (fun h => h))
  obtain rfl : r_11 = 0 := hw
  refine lv_if_eq (tgt := 24) hx hb dX9_tick_18 (by decide) (fun c_12 => ?_) (fun c_12 => absurd c_12 (by decide))
  refine lv_iinc (v := 2) (lv' := [(2, .int 2), (1, .int 0), (0, .ref h0)]) hx hb dX9_tick_24 hl (k := 0) rfl (by decide) (by decide) rfl (fun ls hl => ?_)
  refine lv_goto (tgt := 4) hx hb dX9_tick_27 (by decide) ?_
  refine lv_iload_n hx hb dX9_tick_4 rfl (lv_at hl 0 rfl) ?_
  refine lv_iconst (v := 4) hx hb dX9_tick_5 (by decide) ?_
  refine lv_icmp_ge (tgt := 30) hx hb dX9_tick_6 (by decide) (fun c_13 => absurd c_13 (by decide)) (fun c_13 => ?_)
  refine lv_aload_n hx hb dX9_tick_9 rfl (lv_at hl 2 rfl) ?_
  obtain ⟨n_14, p_14, f_14, ha_14, hg_14_0, hg_14_1, hg_14_2⟩ := tg_1 hT hG nx_0
  refine va_get (D := DG E) (ci := 9) (v := .ref p_14) (C := RX9) (T := TX9) (N := 3) hx hb hts iw_X9 hown hK.1 (va_one ha_14) 0 rfl rfl 1 (by decide) (hts _ fl_X9_29) (fun _ h9 => h9) rfl dX9_tick_10 ?_
  refine lv_iload_n hx hb dX9_tick_13 rfl (lv_at hl 0 rfl) ?_
  obtain ⟨f_15, ha_15, he_15⟩ := tg_3 hT hg_14_1 nx_0
  obtain ⟨j_ha_15, hj_ha_15, ej_ha_15⟩ := vp_in_of (show vp_in (2) 4 from vp_in_iff.mpr ⟨by decide, by decide⟩) (by decide)
  obtain ⟨b_ha_15, eb_ha_15, gb_ha_15⟩ := he_15 j_ha_15 hj_ha_15
  have cj_ha_15 : f_15 (2 : Int32).toNatClampNeg = some b_ha_15 := by rw [ej_ha_15, nI_clamp (by omega)]; exact eb_ha_15
  refine va_aldq (D := DG E) hx hb hK.1 (va_one ha_15) 0 5 rfl rfl (show vp_in (2) 4 from vp_in_iff.mpr ⟨by decide, by decide⟩) dX9_tick_14 ?_
  rw [cj_ha_15]
  refine W.eq (g2 := F0 m 15 ls [.ref b_ha_15]) (by rfl) ?_
  obtain ⟨rq_16, rs_16, ha_16, hg_16_0, hg_16_1⟩ := tg_8 hT gb_ha_15 nx_0
  refine va_calli (rnV (fun H => TH E (T0 E) G [] H) (As := []) (rest := []) ⟨hx, hb, hml, hown, hts⟩ (c_X3_failsByTime l E z0 G hGz b_ha_15  gb_ha_15) (cwV 0 hts (gdV ml_X9_162 im_X3_failsByTime se_X3_X3_failsByTime in_X3 co_X3_failsByTime rfl) rfl rfl rfl (by decide +kernel) ⟨Nat.le_of_ble_eq_true rfl, Nat.le_of_ble_eq_true rfl⟩) hT (fun U hU hW => hK.go hW hS hAz hU) (va_recv hK.1 (va_one ha_16) (ci := 3) (q0 := 0) rfl rfl) rfl rfl hl.1 rfl (lv_room (Nat.le_of_ble_eq_true rfl)) dX9_tick_15 ⟨Nat.le_of_ble_eq_true rfl, Nat.le_of_ble_eq_true rfl⟩) hS (fun q _ h => h.elim) (fun q h => h.elim) (fun r_17 _ t H locs ht hvm hw hB hz hk hS => ?_)
  have hT : TH E (T0 E) G [] H := hT.kept (fun q hq => hk q hq (fun h => h))
  obtain rfl : r_17 = 0 := hw
  refine lv_if_eq (tgt := 24) hx hb dX9_tick_18 (by decide) (fun c_18 => ?_) (fun c_18 => absurd c_18 (by decide))
  refine lv_iinc (v := 3) (lv' := [(2, .int 3), (1, .int 0), (0, .ref h0)]) hx hb dX9_tick_24 hl (k := 0) rfl (by decide) (by decide) rfl (fun ls hl => ?_)
  refine lv_goto (tgt := 4) hx hb dX9_tick_27 (by decide) ?_
  refine lv_iload_n hx hb dX9_tick_4 rfl (lv_at hl 0 rfl) ?_
  refine lv_iconst (v := 4) hx hb dX9_tick_5 (by decide) ?_
  refine lv_icmp_ge (tgt := 30) hx hb dX9_tick_6 (by decide) (fun c_19 => absurd c_19 (by decide)) (fun c_19 => ?_)
  refine lv_aload_n hx hb dX9_tick_9 rfl (lv_at hl 2 rfl) ?_
  obtain ⟨n_20, p_20, f_20, ha_20, hg_20_0, hg_20_1, hg_20_2⟩ := tg_1 hT hG nx_0
  refine va_get (D := DG E) (ci := 9) (v := .ref p_20) (C := RX9) (T := TX9) (N := 3) hx hb hts iw_X9 hown hK.1 (va_one ha_20) 0 rfl rfl 1 (by decide) (hts _ fl_X9_29) (fun _ h9 => h9) rfl dX9_tick_10 ?_
  refine lv_iload_n hx hb dX9_tick_13 rfl (lv_at hl 0 rfl) ?_
  obtain ⟨f_21, ha_21, he_21⟩ := tg_3 hT hg_20_1 nx_0
  obtain ⟨j_ha_21, hj_ha_21, ej_ha_21⟩ := vp_in_of (show vp_in (3) 4 from vp_in_iff.mpr ⟨by decide, by decide⟩) (by decide)
  obtain ⟨b_ha_21, eb_ha_21, gb_ha_21⟩ := he_21 j_ha_21 hj_ha_21
  have cj_ha_21 : f_21 (3 : Int32).toNatClampNeg = some b_ha_21 := by rw [ej_ha_21, nI_clamp (by omega)]; exact eb_ha_21
  refine va_aldq (D := DG E) hx hb hK.1 (va_one ha_21) 0 5 rfl rfl (show vp_in (3) 4 from vp_in_iff.mpr ⟨by decide, by decide⟩) dX9_tick_14 ?_
  rw [cj_ha_21]
  refine W.eq (g2 := F0 m 15 ls [.ref b_ha_21]) (by rfl) ?_
  obtain ⟨rq_22, rs_22, ha_22, hg_22_0, hg_22_1⟩ := tg_8 hT gb_ha_21 nx_0
  refine va_calli (rnV (fun H => TH E (T0 E) G [] H) (As := []) (rest := []) ⟨hx, hb, hml, hown, hts⟩ (c_X3_failsByTime l E z0 G hGz b_ha_21  gb_ha_21) (cwV 0 hts (gdV ml_X9_162 im_X3_failsByTime se_X3_X3_failsByTime in_X3 co_X3_failsByTime rfl) rfl rfl rfl (by decide +kernel) ⟨Nat.le_of_ble_eq_true rfl, Nat.le_of_ble_eq_true rfl⟩) hT (fun U hU hW => hK.go hW hS hAz hU) (va_recv hK.1 (va_one ha_22) (ci := 3) (q0 := 0) rfl rfl) rfl rfl hl.1 rfl (lv_room (Nat.le_of_ble_eq_true rfl)) dX9_tick_15 ⟨Nat.le_of_ble_eq_true rfl, Nat.le_of_ble_eq_true rfl⟩) hS (fun q _ h => h.elim) (fun q h => h.elim) (fun r_23 _ t H locs ht hvm hw hB hz hk hS => ?_)
  have hT : TH E (T0 E) G [] H := hT.kept (fun q hq => hk q hq (fun h => h))
  obtain rfl : r_23 = 0 := hw
  refine lv_if_eq (tgt := 24) hx hb dX9_tick_18 (by decide) (fun c_24 => ?_) (fun c_24 => absurd c_24 (by decide))
  refine lv_iinc (v := 4) (lv' := [(2, .int 4), (1, .int 0), (0, .ref h0)]) hx hb dX9_tick_24 hl (k := 0) rfl (by decide) (by decide) rfl (fun ls hl => ?_)
  refine lv_goto (tgt := 4) hx hb dX9_tick_27 (by decide) ?_
  refine lv_iload_n hx hb dX9_tick_4 rfl (lv_at hl 0 rfl) ?_
  refine lv_iconst (v := 4) hx hb dX9_tick_5 (by decide) ?_
  refine lv_icmp_ge (tgt := 30) hx hb dX9_tick_6 (by decide) (fun c_25 => ?_) (fun c_25 => absurd c_25 (by decide))
  refine lv_iload_n hx hb dX9_tick_30 rfl (lv_at hl 1 rfl) ?_
  exact W.iret (v := 0) hx hb hr (fun t ht hW => ⟨⟨0, (), rfl, rfl, trivial⟩, hS.F ht⟩) hS.2.2 dX9_tick_31
theorem dX9_packets_0 : decode cX9_packets 0 = .ok (.aload_n 0, 1) := by decide +kernel
theorem dX9_packets_1 : decode cX9_packets 1 = .ok (.getfield 16, 3) := by decide +kernel
theorem dX9_packets_4 : decode cX9_packets 4 = .ok (.getfield 165, 3) := by decide +kernel
theorem dX9_packets_7 : decode cX9_packets 7 = .ok (.ireturn, 1) := by decide +kernel
set_option maxHeartbeats 4000000 in
set_option maxRecDepth 100000 in
theorem c_X9_packets (l : Launch) (E : EE) (z0 : Nat) (G : Nat → Nat) (hGz : ∀ q, G q ≠ 0 → z0 ≤ q) (h0 : Nat) (hG : G h0 = 1) : Met l yX9_packets [Cond.code yX9_packets cX9_packets 1 (some .int)] ({ frames := 0, cells := 0, slots := 0, locals := 0 } : Room) (va_Pc [.ref h0] (fun U => TH E (T0 E) G [] U.heap ∧ KS E z0 U)) (va_Qi (fun (r : Int32) (_ : Unit) => r = 0) (fun _ _ => True) (fun _ : Nat => False)) 0 0 (fun _ : Nat => False) := by
  refine Met.ofW (cc := cX9_packets) (maxL := 1) (ret := (some .int)) (by decide) rfl ?_
  intro p e s m args below meth c s₁ B hml hv
  obtain ⟨rfl, hT, hK⟩ := hv
  have hx := B.exec
  have hb := B.bytes
  have hr := B.returns
  have hts : ∀ w ∈ TS, w.before ([.ref h0] : List Value).toArray s = true := fun w hw => hK.2.1 w hw _
  have hown : s.vm.findClass RX9 = some m.cls := findClass_of_methodNamed B.named
  have hlocks := B.notSynchronized
  have hS : va_S (fun _ : Nat => False) s.heap s.heap [] := va_S.rf
  have hAz : ∀ q, (fun _ : Nat => False) q → z0 ≤ q := fun _ h => h.elim
  have hl := lv_entry ([.ref h0]) (n := 1) (Nat.le_of_ble_eq_true rfl)
  rw [lg_entry_eq]
  generalize (lg_sl ([.ref h0]) ++ List.replicate (1 - (lg_sl ([.ref h0])).length) Slot.unset).toArray = ls at hl ⊢
  have hl : lv_has ls 1 [(0, .ref h0)] := hl
  refine lv_aload_n hx hb dX9_packets_0 rfl (lv_at hl 0 rfl) ?_
  obtain ⟨n_1, p_1, f_1, ha_1, hg_1_0, hg_1_1, hg_1_2⟩ := tg_1 hT hG nx_0
  refine va_get (D := DG E) (ci := 9) (v := .ref f_1) (C := RX9) (T := TX9) (N := 3) hx hb hts iw_X9 hown hK.1 (va_one ha_1) 0 rfl rfl 2 (by decide) (hts _ fl_X9_16) (fun _ h9 => h9) rfl dX9_packets_1 ?_
  obtain ⟨r_2, t_2, o_2, ha_2, hg_2_0, hg_2_1, hg_2_2⟩ := tg_4 hT hg_1_2 nx_0
  refine va_get (D := DG E) (ci := 0) (v := .int 0) (C := RX0) (T := TX0) (N := 4) hx hb hts iw_X0 hown hK.1 (va_one ha_2) 0 rfl rfl 1 (by decide) (hts _ fl_X9_165) (fun _ h9 => h9) rfl dX9_packets_4 ?_
  exact W.iret (v := 0) hx hb hr (fun t ht hW => ⟨⟨0, (), rfl, rfl, trivial⟩, hS.F ht⟩) hS.2.2 dX9_packets_7
theorem dX9_packet_0 : decode cX9_packet 0 = .ok (.aload_n 0, 1) := by decide +kernel
theorem dX9_packet_1 : decode cX9_packet 1 = .ok (.getfield 16, 3) := by decide +kernel
theorem dX9_packet_4 : decode cX9_packet 4 = .ok (.iload_n 1, 1) := by decide +kernel
theorem dX9_packet_5 : decode cX9_packet 5 = .ok (.invokevirtual 139, 3) := by decide +kernel
theorem dX9_packet_8 : decode cX9_packet 8 = .ok (.ifCond .eq 19, 3) := by decide +kernel
theorem dX9_packet_11 : decode cX9_packet 11 = .ok (.aload_n 0, 1) := by decide +kernel
theorem dX9_packet_12 : decode cX9_packet 12 = .ok (.getfield 16, 3) := by decide +kernel
theorem dX9_packet_15 : decode cX9_packet 15 = .ok (.getfield 168, 3) := by decide +kernel
theorem dX9_packet_18 : decode cX9_packet 18 = .ok (.iload_n 1, 1) := by decide +kernel
theorem dX9_packet_19 : decode cX9_packet 19 = .ok (.aaload, 1) := by decide +kernel
theorem dX9_packet_20 : decode cX9_packet 20 = .ok (.iload_n 2, 1) := by decide +kernel
theorem dX9_packet_21 : decode cX9_packet 21 = .ok (.invokevirtual 172, 3) := by decide +kernel
theorem dX9_packet_24 : decode cX9_packet 24 = .ok (.goto 4, 3) := by decide +kernel
theorem dX9_packet_27 : decode cX9_packet 27 = .ok (.iconst (-1), 1) := by decide +kernel
theorem dX9_packet_28 : decode cX9_packet 28 = .ok (.ireturn, 1) := by decide +kernel
set_option maxHeartbeats 4000000 in
set_option maxRecDepth 100000 in
theorem c_X9_packet (l : Launch) (E : EE) (z0 : Nat) (G : Nat → Nat) (hGz : ∀ q, G q ≠ 0 → z0 ≤ q) (h0 : Nat) (p0 p1 : Int32) (hG : G h0 = 1) : Met l yX9_packet [Cond.code yX9_packet cX9_packet 3 (some .int)] ({ frames := 1, cells := 0, slots := 0, locals := 21 } : Room) (va_Pc [.ref h0, .int p0, .int p1] (fun U => TH E (T0 E) G [] U.heap ∧ KS E z0 U)) (va_Qi (fun (r : Int32) (_ : Unit) => r = -1) (fun _ _ => True) (fun _ : Nat => False)) 0 0 (fun _ : Nat => False) := by
  refine Met.ofW (cc := cX9_packet) (maxL := 3) (ret := (some .int)) (by decide) rfl ?_
  intro p e s m args below meth c s₁ B hml hv
  obtain ⟨rfl, hT, hK⟩ := hv
  have hx := B.exec
  have hb := B.bytes
  have hr := B.returns
  have hts : ∀ w ∈ TS, w.before ([.ref h0, .int p0, .int p1] : List Value).toArray s = true := fun w hw => hK.2.1 w hw _
  have hown : s.vm.findClass RX9 = some m.cls := findClass_of_methodNamed B.named
  have hlocks := B.notSynchronized
  have hS : va_S (fun _ : Nat => False) s.heap s.heap [] := va_S.rf
  have hAz : ∀ q, (fun _ : Nat => False) q → z0 ≤ q := fun _ h => h.elim
  have hl := lv_entry ([.ref h0, .int p0, .int p1]) (n := 3) (Nat.le_of_ble_eq_true rfl)
  rw [lg_entry_eq]
  generalize (lg_sl ([.ref h0, .int p0, .int p1]) ++ List.replicate (3 - (lg_sl ([.ref h0, .int p0, .int p1])).length) Slot.unset).toArray = ls at hl ⊢
  have hl : lv_has ls 3 [(0, .ref h0), (1, .int p0), (2, .int p1)] := hl
  refine lv_aload_n hx hb dX9_packet_0 rfl (lv_at hl 0 rfl) ?_
  obtain ⟨n_1, p_1, f_1, ha_1, hg_1_0, hg_1_1, hg_1_2⟩ := tg_1 hT hG nx_0
  refine va_get (D := DG E) (ci := 9) (v := .ref f_1) (C := RX9) (T := TX9) (N := 3) hx hb hts iw_X9 hown hK.1 (va_one ha_1) 0 rfl rfl 2 (by decide) (hts _ fl_X9_16) (fun _ h9 => h9) rfl dX9_packet_1 ?_
  refine lv_iload_n hx hb dX9_packet_4 rfl (lv_at hl 1 rfl) ?_
  obtain ⟨r_2, t_2, o_2, ha_2, hg_2_0, hg_2_1, hg_2_2⟩ := tg_4 hT hg_1_2 nx_0
  refine va_calli (rnV (fun H => TH E (T0 E) G [] H) (As := [.int p0]) (rest := []) ⟨hx, hb, hml, hown, hts⟩ (c_X0_has l E z0 G hGz f_1 p0 hg_1_2) (cwV 1 hts (gdV ml_X9_139 im_X0_has se_X0_X0_has in_X0 co_X0_has rfl) rfl rfl rfl (by decide +kernel) ⟨Nat.le_of_ble_eq_true rfl, Nat.le_of_ble_eq_true rfl⟩) hT (fun U hU hW => hK.go hW hS hAz hU) (va_recv hK.1 (va_one ha_2) (ci := 0) (q0 := 0) rfl rfl) rfl rfl hl.1 rfl (lv_room (Nat.le_of_ble_eq_true rfl)) dX9_packet_5 ⟨Nat.le_of_ble_eq_true rfl, Nat.le_of_ble_eq_true rfl⟩) hS (fun q _ h => h.elim) (fun q h => h.elim) (fun r_3 _ t H locs ht hvm hw hB hz hk hS => ?_)
  have hT : TH E (T0 E) G [] H := hT.kept (fun q hq => hk q hq (fun h => h))
  obtain rfl : r_3 = 0 := hw
  refine lv_if_eq (tgt := 27) hx hb dX9_packet_8 (by decide) (fun c_4 => ?_) (fun c_4 => absurd c_4 (by decide))
  refine lv_iconst (v := (-1)) hx hb dX9_packet_27 (by decide) ?_
  exact W.iret (v := (-1)) hx hb hr (fun t ht hW => ⟨⟨(-1), (), rfl, rfl, trivial⟩, hS.F ht⟩) hS.2.2 dX9_packet_28
theorem dX9_pair_0 : decode cX9_pair 0 = .ok (.iload_n 1, 1) := by decide +kernel
theorem dX9_pair_1 : decode cX9_pair 1 = .ok (.invokestatic 78, 3) := by decide +kernel
theorem dX9_pair_4 : decode cX9_pair 4 = .ok (.ifCond .eq 16, 3) := by decide +kernel
theorem dX9_pair_7 : decode cX9_pair 7 = .ok (.aload_n 0, 1) := by decide +kernel
theorem dX9_pair_8 : decode cX9_pair 8 = .ok (.getfield 29, 3) := by decide +kernel
theorem dX9_pair_11 : decode cX9_pair 11 = .ok (.iload_n 1, 1) := by decide +kernel
theorem dX9_pair_12 : decode cX9_pair 12 = .ok (.aaload, 1) := by decide +kernel
theorem dX9_pair_13 : decode cX9_pair 13 = .ok (.iload_n 2, 1) := by decide +kernel
theorem dX9_pair_14 : decode cX9_pair 14 = .ok (.invokevirtual 175, 3) := by decide +kernel
theorem dX9_pair_17 : decode cX9_pair 17 = .ok (.goto 4, 3) := by decide +kernel
theorem dX9_pair_20 : decode cX9_pair 20 = .ok (.iconst (-1), 1) := by decide +kernel
theorem dX9_pair_21 : decode cX9_pair 21 = .ok (.ireturn, 1) := by decide +kernel
set_option maxHeartbeats 4000000 in
set_option maxRecDepth 100000 in
theorem c_X9_pair (l : Launch) (E : EE) (z0 : Nat) (G : Nat → Nat) (hGz : ∀ q, G q ≠ 0 → z0 ≤ q) (h0 : Nat) (p0 p1 : Int32) (hG : G h0 = 1) : Met l yX9_pair [Cond.code yX9_pair cX9_pair 3 (some .int)] ({ frames := 1, cells := 0, slots := 0, locals := 21 } : Room) (va_Pc [.ref h0, .int p0, .int p1] (fun U => TH E (T0 E) G [] U.heap ∧ KS E z0 U)) (va_Qi (fun (r : Int32) (_ : Unit) => r = if (0 ≤ p0.toInt ∧ p0.toInt < 4) ∧ (p1.toInt = 0 ∨ (5 ≤ p1.toInt ∧ p1.toInt ≤ 7)) then 0 else -1) (fun _ _ => True) (fun _ : Nat => False)) 0 0 (fun _ : Nat => False) := by
  refine Met.ofW (cc := cX9_pair) (maxL := 3) (ret := (some .int)) (by decide) rfl ?_
  intro p e s m args below meth c s₁ B hml hv
  obtain ⟨rfl, hT, hK⟩ := hv
  have hx := B.exec
  have hb := B.bytes
  have hr := B.returns
  have hts : ∀ w ∈ TS, w.before ([.ref h0, .int p0, .int p1] : List Value).toArray s = true := fun w hw => hK.2.1 w hw _
  have hown : s.vm.findClass RX9 = some m.cls := findClass_of_methodNamed B.named
  have hlocks := B.notSynchronized
  have hS : va_S (fun _ : Nat => False) s.heap s.heap [] := va_S.rf
  have hAz : ∀ q, (fun _ : Nat => False) q → z0 ≤ q := fun _ h => h.elim
  have hl := lv_entry ([.ref h0, .int p0, .int p1]) (n := 3) (Nat.le_of_ble_eq_true rfl)
  rw [lg_entry_eq]
  generalize (lg_sl ([.ref h0, .int p0, .int p1]) ++ List.replicate (3 - (lg_sl ([.ref h0, .int p0, .int p1])).length) Slot.unset).toArray = ls at hl ⊢
  have hl : lv_has ls 3 [(0, .ref h0), (1, .int p0), (2, .int p1)] := hl
  refine lv_iload_n hx hb dX9_pair_0 rfl (lv_at hl 1 rfl) ?_
  refine W.callR (W.runS (As := [.int p0]) (rest := []) ⟨hx, hb, hml, hown, hts⟩ (c_X9_isPair l p0) (cwS 1 hts (gdS ml_X9_78 st_X9_isPair in_X9 co_X9_isPair rfl) rfl rfl rfl (by decide +kernel) ⟨Nat.le_of_ble_eq_true rfl, Nat.le_of_ble_eq_true rfl⟩) preEq rfl rfl hl.1 rfl (lv_room (Nat.le_of_ble_eq_true rfl)) dX9_pair_1 ⟨Nat.le_of_ble_eq_true rfl, Nat.le_of_ble_eq_true rfl⟩) ?_
  refine W.eq (g2 := F0 m 4 ls [.int (bI (0 ≤ p0.toInt ∧ p0.toInt < 4))]) (by rfl) ?_
  refine lv_if_eq (tgt := 20) hx hb dX9_pair_4 (by decide) (fun c_1 => ?_) (fun c_1 => ?_)
  · have c_1 := bI_0 c_1
    refine lv_iconst (v := (-1)) hx hb dX9_pair_20 (by decide) ?_
    exact W.iret (v := (-1)) hx hb hr (fun t ht hW => ⟨⟨(-1), (), rfl, (by first | (rw [if_neg (by omega)]; done) | (rw [hw]; by_cases h9 : p1.toInt = 0 ∨ (5 ≤ p1.toInt ∧ p1.toInt ≤ 7) <;> simp [h9] <;> omega)), trivial⟩, hS.F ht⟩) hS.2.2 dX9_pair_21
  · have c_1 := bI_n c_1
    refine lv_aload_n hx hb dX9_pair_7 rfl (lv_at hl 0 rfl) ?_
    obtain ⟨n_2, p_2, f_2, ha_2, hg_2_0, hg_2_1, hg_2_2⟩ := tg_1 hT hG nx_0
    refine va_get (D := DG E) (ci := 9) (v := .ref p_2) (C := RX9) (T := TX9) (N := 3) hx hb hts iw_X9 hown hK.1 (va_one ha_2) 0 rfl rfl 1 (by decide) (hts _ fl_X9_29) (fun _ h9 => h9) rfl dX9_pair_8 ?_
    refine lv_iload_n hx hb dX9_pair_11 rfl (lv_at hl 1 rfl) ?_
    obtain ⟨f_3, ha_3, he_3⟩ := tg_3 hT hg_2_1 nx_0
    obtain ⟨j_ha_3, hj_ha_3, ej_ha_3⟩ := vp_in_of (show vp_in p0 4 from vp_in_iff.mpr (by omega)) (by decide)
    obtain ⟨b_ha_3, eb_ha_3, gb_ha_3⟩ := he_3 j_ha_3 hj_ha_3
    have cj_ha_3 : f_3 (p0 : Int32).toNatClampNeg = some b_ha_3 := by rw [ej_ha_3, nI_clamp (by omega)]; exact eb_ha_3
    refine va_aldq (D := DG E) hx hb hK.1 (va_one ha_3) 0 5 rfl rfl (show vp_in p0 4 from vp_in_iff.mpr (by omega)) dX9_pair_12 ?_
    rw [cj_ha_3]
    refine W.eq (g2 := F0 m 13 ls [.ref b_ha_3]) (by rfl) ?_
    refine lv_iload_n hx hb dX9_pair_13 rfl (lv_at hl 2 rfl) ?_
    obtain ⟨rq_4, rs_4, ha_4, hg_4_0, hg_4_1⟩ := tg_8 hT gb_ha_3 nx_0
    refine va_calli (rnV (fun H => TH E (T0 E) G [] H) (As := [.int p1]) (rest := []) ⟨hx, hb, hml, hown, hts⟩ (c_X3_tell l E z0 G hGz b_ha_3 p1 gb_ha_3) (cwV 1 hts (gdV ml_X9_175 im_X3_tell se_X3_X3_tell in_X3 co_X3_tell rfl) rfl rfl rfl (by decide +kernel) ⟨Nat.le_of_ble_eq_true rfl, Nat.le_of_ble_eq_true rfl⟩) hT (fun U hU hW => hK.go hW hS hAz hU) (va_recv hK.1 (va_one ha_4) (ci := 3) (q0 := 0) rfl rfl) rfl rfl hl.1 rfl (lv_room (Nat.le_of_ble_eq_true rfl)) dX9_pair_14 ⟨Nat.le_of_ble_eq_true rfl, Nat.le_of_ble_eq_true rfl⟩) hS (fun q _ h => h.elim) (fun q h => h.elim) (fun r_5 _ t H locs ht hvm hw hB hz hk hS => ?_)
    have hT : TH E (T0 E) G [] H := hT.kept (fun q hq => hk q hq (fun h => h))
    refine lv_goto (tgt := 21) hx hb dX9_pair_17 (by decide) ?_
    exact W.iret (v := r_5) hx hb hr (fun t ht hW => ⟨⟨r_5, (), rfl, (by first | (rw [if_neg (by omega)]; done) | (rw [hw]; by_cases h9 : p1.toInt = 0 ∨ (5 ≤ p1.toInt ∧ p1.toInt ≤ 7) <;> simp [h9] <;> omega)), trivial⟩, hS.F ht⟩) hS.2.2 dX9_pair_21
theorem dX9_completions_0 : decode cX9_completions 0 = .ok (.iload_n 1, 1) := by decide +kernel
theorem dX9_completions_1 : decode cX9_completions 1 = .ok (.invokestatic 46, 3) := by decide +kernel
theorem dX9_completions_4 : decode cX9_completions 4 = .ok (.ifCond .eq 15, 3) := by decide +kernel
theorem dX9_completions_7 : decode cX9_completions 7 = .ok (.aload_n 0, 1) := by decide +kernel
theorem dX9_completions_8 : decode cX9_completions 8 = .ok (.getfield 22, 3) := by decide +kernel
theorem dX9_completions_11 : decode cX9_completions 11 = .ok (.iload_n 1, 1) := by decide +kernel
theorem dX9_completions_12 : decode cX9_completions 12 = .ok (.aaload, 1) := by decide +kernel
theorem dX9_completions_13 : decode cX9_completions 13 = .ok (.getfield 176, 3) := by decide +kernel
theorem dX9_completions_16 : decode cX9_completions 16 = .ok (.goto 4, 3) := by decide +kernel
theorem dX9_completions_19 : decode cX9_completions 19 = .ok (.iconst (-1), 1) := by decide +kernel
theorem dX9_completions_20 : decode cX9_completions 20 = .ok (.ireturn, 1) := by decide +kernel
set_option maxHeartbeats 4000000 in
set_option maxRecDepth 100000 in
theorem c_X9_completions (l : Launch) (E : EE) (z0 : Nat) (G : Nat → Nat) (hGz : ∀ q, G q ≠ 0 → z0 ≤ q) (h0 : Nat) (p0 : Int32) (hG : G h0 = 1) : Met l yX9_completions [Cond.code yX9_completions cX9_completions 2 (some .int)] ({ frames := 1, cells := 0, slots := 0, locals := 20 } : Room) (va_Pc [.ref h0, .int p0] (fun U => TH E (T0 E) G [] U.heap ∧ KS E z0 U)) (va_Qi (fun (r : Int32) (_ : Unit) => r = if 0 ≤ p0.toInt ∧ p0.toInt < 2 then 0 else -1) (fun _ _ => True) (fun _ : Nat => False)) 0 0 (fun _ : Nat => False) := by
  refine Met.ofW (cc := cX9_completions) (maxL := 2) (ret := (some .int)) (by decide) rfl ?_
  intro p e s m args below meth c s₁ B hml hv
  obtain ⟨rfl, hT, hK⟩ := hv
  have hx := B.exec
  have hb := B.bytes
  have hr := B.returns
  have hts : ∀ w ∈ TS, w.before ([.ref h0, .int p0] : List Value).toArray s = true := fun w hw => hK.2.1 w hw _
  have hown : s.vm.findClass RX9 = some m.cls := findClass_of_methodNamed B.named
  have hlocks := B.notSynchronized
  have hS : va_S (fun _ : Nat => False) s.heap s.heap [] := va_S.rf
  have hAz : ∀ q, (fun _ : Nat => False) q → z0 ≤ q := fun _ h => h.elim
  have hl := lv_entry ([.ref h0, .int p0]) (n := 2) (Nat.le_of_ble_eq_true rfl)
  rw [lg_entry_eq]
  generalize (lg_sl ([.ref h0, .int p0]) ++ List.replicate (2 - (lg_sl ([.ref h0, .int p0])).length) Slot.unset).toArray = ls at hl ⊢
  have hl : lv_has ls 2 [(0, .ref h0), (1, .int p0)] := hl
  refine lv_iload_n hx hb dX9_completions_0 rfl (lv_at hl 1 rfl) ?_
  refine W.callR (W.runS (As := [.int p0]) (rest := []) ⟨hx, hb, hml, hown, hts⟩ (c_X9_isNode l p0) (cwS 1 hts (gdS ml_X9_46 st_X9_isNode in_X9 co_X9_isNode rfl) rfl rfl rfl (by decide +kernel) ⟨Nat.le_of_ble_eq_true rfl, Nat.le_of_ble_eq_true rfl⟩) preEq rfl rfl hl.1 rfl (lv_room (Nat.le_of_ble_eq_true rfl)) dX9_completions_1 ⟨Nat.le_of_ble_eq_true rfl, Nat.le_of_ble_eq_true rfl⟩) ?_
  refine W.eq (g2 := F0 m 4 ls [.int (bI (0 ≤ p0.toInt ∧ p0.toInt < 2))]) (by rfl) ?_
  refine lv_if_eq (tgt := 19) hx hb dX9_completions_4 (by decide) (fun c_1 => ?_) (fun c_1 => ?_)
  · have c_1 := bI_0 c_1
    refine lv_iconst (v := (-1)) hx hb dX9_completions_19 (by decide) ?_
    exact W.iret (v := (-1)) hx hb hr (fun t ht hW => ⟨⟨(-1), (), rfl, (by first | rw [if_pos (by omega)] | rw [if_neg (by omega)]), trivial⟩, hS.F ht⟩) hS.2.2 dX9_completions_20
  · have c_1 := bI_n c_1
    refine lv_aload_n hx hb dX9_completions_7 rfl (lv_at hl 0 rfl) ?_
    obtain ⟨n_2, p_2, f_2, ha_2, hg_2_0, hg_2_1, hg_2_2⟩ := tg_1 hT hG nx_0
    refine va_get (D := DG E) (ci := 9) (v := .ref n_2) (C := RX9) (T := TX9) (N := 3) hx hb hts iw_X9 hown hK.1 (va_one ha_2) 0 rfl rfl 0 (by decide) (hts _ fl_X9_22) (fun _ h9 => h9) rfl dX9_completions_8 ?_
    refine lv_iload_n hx hb dX9_completions_11 rfl (lv_at hl 1 rfl) ?_
    obtain ⟨f_3, ha_3, he_3⟩ := tg_2 hT hg_2_0 nx_0
    obtain ⟨j_ha_3, hj_ha_3, ej_ha_3⟩ := vp_in_of (show vp_in p0 2 from vp_in_iff.mpr (by omega)) (by decide)
    obtain ⟨b_ha_3, eb_ha_3, gb_ha_3⟩ := he_3 j_ha_3 hj_ha_3
    have cj_ha_3 : f_3 (p0 : Int32).toNatClampNeg = some b_ha_3 := by rw [ej_ha_3, nI_clamp (by omega)]; exact eb_ha_3
    refine va_aldq (D := DG E) hx hb hK.1 (va_one ha_3) 0 3 rfl rfl (show vp_in p0 2 from vp_in_iff.mpr (by omega)) dX9_completions_12 ?_
    rw [cj_ha_3]
    refine W.eq (g2 := F0 m 13 ls [.ref b_ha_3]) (by rfl) ?_
    obtain ⟨cs_4, rg_4, rn_4, ha_4, hg_4_0, hg_4_1, hg_4_2⟩ := tg_5 hT gb_ha_3 nx_0
    refine va_get (D := DG E) (ci := 1) (v := .int 0) (C := RX1) (T := TX1) (N := 5) hx hb hts iw_X1 hown hK.1 (va_one ha_4) 0 rfl rfl 4 (by decide) (hts _ fl_X9_176) (fun _ h9 => h9) rfl dX9_completions_13 ?_
    refine lv_goto (tgt := 20) hx hb dX9_completions_16 (by decide) ?_
    exact W.iret (v := 0) hx hb hr (fun t ht hW => ⟨⟨0, (), rfl, (by first | rw [if_pos (by omega)] | rw [if_neg (by omega)]), trivial⟩, hS.F ht⟩) hS.2.2 dX9_completions_20
