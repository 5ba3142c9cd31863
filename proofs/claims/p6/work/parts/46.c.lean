theorem dX9_region_0 : decode cX9_region 0 = .ok (.iload_n 1, 1) := by decide +kernel
theorem dX9_region_1 : decode cX9_region 1 = .ok (.invokestatic 46, 3) := by decide +kernel
theorem dX9_region_4 : decode cX9_region 4 = .ok (.ifCond .eq 26, 3) := by decide +kernel
theorem dX9_region_7 : decode cX9_region 7 = .ok (.iload_n 2, 1) := by decide +kernel
theorem dX9_region_8 : decode cX9_region 8 = .ok (.invokestatic 50, 3) := by decide +kernel
theorem dX9_region_11 : decode cX9_region 11 = .ok (.ifCond .eq 19, 3) := by decide +kernel
theorem dX9_region_14 : decode cX9_region 14 = .ok (.iload 5, 2) := by decide +kernel
theorem dX9_region_16 : decode cX9_region 16 = .ok (.ifCond .lt 14, 3) := by decide +kernel
theorem dX9_region_19 : decode cX9_region 19 = .ok (.iload 5, 2) := by decide +kernel
theorem dX9_region_21 : decode cX9_region 21 = .ok (.bipush 7, 2) := by decide +kernel
theorem dX9_region_23 : decode cX9_region 23 = .ok (.if_icmp .gt 7, 3) := by decide +kernel
theorem dX9_region_26 : decode cX9_region 26 = .ok (.iconst 1, 1) := by decide +kernel
theorem dX9_region_27 : decode cX9_region 27 = .ok (.goto 4, 3) := by decide +kernel
theorem dX9_region_30 : decode cX9_region 30 = .ok (.iconst 0, 1) := by decide +kernel
theorem dX9_region_31 : decode cX9_region 31 = .ok (.invokestatic 53, 3) := by decide +kernel
theorem dX9_region_34 : decode cX9_region 34 = .ok (.iload_n 3, 1) := by decide +kernel
theorem dX9_region_35 : decode cX9_region 35 = .ok (.ifCond .lt 21, 3) := by decide +kernel
theorem dX9_region_38 : decode cX9_region 38 = .ok (.iload 4, 2) := by decide +kernel
theorem dX9_region_40 : decode cX9_region 40 = .ok (.ifCond .lt 16, 3) := by decide +kernel
theorem dX9_region_43 : decode cX9_region 43 = .ok (.iload 4, 2) := by decide +kernel
theorem dX9_region_45 : decode cX9_region 45 = .ok (.bipush 32, 2) := by decide +kernel
theorem dX9_region_47 : decode cX9_region 47 = .ok (.iload_n 3, 1) := by decide +kernel
theorem dX9_region_48 : decode cX9_region 48 = .ok (.isub, 1) := by decide +kernel
theorem dX9_region_49 : decode cX9_region 49 = .ok (.if_icmp .gt 7, 3) := by decide +kernel
theorem dX9_region_52 : decode cX9_region 52 = .ok (.iconst 1, 1) := by decide +kernel
theorem dX9_region_53 : decode cX9_region 53 = .ok (.goto 4, 3) := by decide +kernel
theorem dX9_region_56 : decode cX9_region 56 = .ok (.iconst 0, 1) := by decide +kernel
theorem dX9_region_57 : decode cX9_region 57 = .ok (.invokestatic 53, 3) := by decide +kernel
theorem dX9_region_60 : decode cX9_region 60 = .ok (.aload_n 0, 1) := by decide +kernel
theorem dX9_region_61 : decode cX9_region 61 = .ok (.getfield 22, 3) := by decide +kernel
theorem dX9_region_64 : decode cX9_region 64 = .ok (.iload_n 1, 1) := by decide +kernel
theorem dX9_region_65 : decode cX9_region 65 = .ok (.aaload, 1) := by decide +kernel
theorem dX9_region_66 : decode cX9_region 66 = .ok (.getfield 57, 3) := by decide +kernel
theorem dX9_region_69 : decode cX9_region 69 = .ok (.iload_n 2, 1) := by decide +kernel
theorem dX9_region_70 : decode cX9_region 70 = .ok (.aaload, 1) := by decide +kernel
theorem dX9_region_71 : decode cX9_region 71 = .ok (.iload_n 3, 1) := by decide +kernel
theorem dX9_region_72 : decode cX9_region 72 = .ok (.iload 4, 2) := by decide +kernel
theorem dX9_region_74 : decode cX9_region 74 = .ok (.iload 5, 2) := by decide +kernel
theorem dX9_region_76 : decode cX9_region 76 = .ok (.invokevirtual 61, 3) := by decide +kernel
theorem dX9_region_79 : decode cX9_region 79 = .ok (.return_, 1) := by decide +kernel
set_option maxHeartbeats 8000000 in
set_option maxRecDepth 100000 in
theorem t_X9_region (l : Launch) (hst : l.stackTraces = false) (E : EE) (z0 : Nat) (G : Nat → Nat) (hGz : ∀ q, G q ≠ 0 → z0 ≤ q) (h0 : Nat) (p0 : Int32) (p1 : Int32) (p2 : Int32) (p3 : Int32) (p4 : Int32) (hG : G h0 = 1) : vx_Met l yX9_region [Cond.code yX9_region cX9_region 6 none] ({ frames := 7, cells := 2, slots := 12, locals := 101 } : Room) (va_Pc [.ref h0, .int p0, .int p1, .int p2, .int p3, .int p4] (fun U => (TH E (T1 E) G [] U.heap) ∧ KS E z0 U)) (va_Qv (fun (_ : Unit) => (0 ≤ p0.toInt ∧ p0.toInt < 2 ∧ 0 ≤ p1.toInt ∧ p1.toInt < 6 ∧ 0 ≤ p4.toInt ∧ p4.toInt ≤ 7 ∧ 0 ≤ p2.toInt ∧ 0 ≤ p3.toInt ∧ p3.toInt ≤ 32 - p2.toInt)) (fun _ t => TH E (T1 E) G [] t.heap) (fun q : Nat => G q ∈ ([7] : List Nat))) (vx_X (fun (_ : Unit) => True) (fun En _ t => (En = IAE ∧ ¬ (0 ≤ p0.toInt ∧ p0.toInt < 2 ∧ 0 ≤ p1.toInt ∧ p1.toInt < 6 ∧ 0 ≤ p4.toInt ∧ p4.toInt ≤ 7 ∧ 0 ≤ p2.toInt ∧ 0 ≤ p3.toInt ∧ p3.toInt ≤ 32 - p2.toInt)) ∧ TH E (T1 E) G [] t.heap) (fun q : Nat => G q ∈ ([7] : List Nat))) 2 12 (fun q : Nat => G q ∈ ([7] : List Nat)) := by
  refine vx_ofW (cc := cX9_region) (maxL := 6) (ret := none) (by decide) rfl ?_
  intro p e s m args below meth c s₁ B hml hne hv
  obtain ⟨rfl, hT, hK⟩ := hv
  have hx := B.exec
  have hb := B.bytes
  have hr := B.returns
  have hts : ∀ w ∈ TS, w.before ([.ref h0, .int p0, .int p1, .int p2, .int p3, .int p4] : List Value).toArray s = true := fun w hw => hK.2.1 w hw _
  have hown : s.vm.findClass RX9 = some m.cls := findClass_of_methodNamed B.named
  have hlocks := B.notSynchronized
  have hS : va_S (fun q : Nat => G q ∈ ([7] : List Nat)) s.heap s.heap [] := va_S.rf
  have hAz : ∀ q, (fun q : Nat => G q ∈ ([7] : List Nat)) q → z0 ≤ q := zL hGz (by decide)
  have hl := lv_entry ([.ref h0, .int p0, .int p1, .int p2, .int p3, .int p4]) (n := 6) (Nat.le_of_ble_eq_true rfl)
  rw [lg_entry_eq]
  generalize (lg_sl ([.ref h0, .int p0, .int p1, .int p2, .int p3, .int p4]) ++ List.replicate (6 - (lg_sl ([.ref h0, .int p0, .int p1, .int p2, .int p3, .int p4])).length) Slot.unset).toArray = ls at hl ⊢
  have hl : lv_has ls 6 [(0, .ref h0), (1, .int p0), (2, .int p1), (3, .int p2), (4, .int p3), (5, .int p4)] := hl
  refine lv_iload_n hx hb dX9_region_0 rfl (lv_at hl 1 rfl) ?_
  refine W.callR (W.runS (As := [.int p0]) (rest := []) ⟨hx, hb, hml, hown, hts⟩ (c_X9_isNode l p0) (cwS 1 hts (gdS ml_X9_46 st_X9_isNode in_X9 co_X9_isNode rfl) rfl rfl rfl (by decide +kernel) ⟨Nat.le_of_ble_eq_true rfl, Nat.le_of_ble_eq_true rfl⟩) preEq rfl rfl hl.1 rfl (lv_room (Nat.le_of_ble_eq_true rfl)) dX9_region_1 ⟨Nat.le_of_ble_eq_true rfl, Nat.le_of_ble_eq_true rfl⟩) ?_
  refine W.eq (g2 := F0 m 4 ls [.int (bI (0 ≤ p0.toInt ∧ p0.toInt < 2))]) (by rfl) ?_
  refine lv_if_eq (tgt := 30) hx hb dX9_region_4 (by decide) (fun c_1 => ?_) (fun c_1 => ?_)
  · have c_1 := bI_0 c_1
    refine lv_iconst (v := 0) hx hb dX9_region_30 (by decide) ?_
    refine vx_callv (rxS (fun _ => True) (As := [.int 0]) (rest := []) ⟨hx, hb, hml, hown, hts⟩ (c_X9_require l hst E z0 0) (cwS 1 hts (gdS ml_X9_53 st_X9_require in_X9 co_X9_require rfl) rfl rfl rfl (by decide +kernel) ⟨Nat.le_of_ble_eq_true rfl, Nat.le_of_ble_eq_true rfl⟩) trivial (fun U hU hW => hK.go hW hS hAz hU) rfl rfl hl.1 rfl (lv_room (Nat.le_of_ble_eq_true rfl)) dX9_region_31 ⟨Nat.le_of_ble_eq_true rfl, Nat.le_of_ble_eq_true rfl⟩) hS (fun q _ h => h.elim) (fun q h => h.elim) (fun q _ h => h.elim) (fun En ce q9 _ t H locs ht hvm hw hB hz hk hS hc1 hc2 hc3 => ?_) (fun _ t H locs ht hvm hw hB hz hk hS => ?_)
    · have hT : TH E (T1 E) G [] H := hT.kept (fun q hq => hk q hq (fun h => h))
      subst hB
      exact vx_out (fun x hx => (hne x hx).elim) hlocks hc1 hc2 hc3 (fun t ht hA => ⟨(), trivial, ⟨⟨rfl, by omega⟩, by show TH E (T1 E) G [] t.heap; rw [ht]; exact hT⟩, hS.F ht⟩) hS.2.2 (Nat.le_of_ble_eq_true rfl) (Nat.le_of_ble_eq_true rfl)
    · have hT : TH E (T1 E) G [] H := hT.kept (fun q hq => hk q hq (fun h => h))
      exact absurd rfl hw
  · have c_1 := bI_n c_1
    refine lv_iload_n hx hb dX9_region_7 rfl (lv_at hl 2 rfl) ?_
    refine W.callR (W.runS (As := [.int p1]) (rest := []) ⟨hx, hb, hml, hown, hts⟩ (c_X9_isRegion l p1) (cwS 1 hts (gdS ml_X9_50 st_X9_isRegion in_X9 co_X9_isRegion rfl) rfl rfl rfl (by decide +kernel) ⟨Nat.le_of_ble_eq_true rfl, Nat.le_of_ble_eq_true rfl⟩) preEq rfl rfl hl.1 rfl (lv_room (Nat.le_of_ble_eq_true rfl)) dX9_region_8 ⟨Nat.le_of_ble_eq_true rfl, Nat.le_of_ble_eq_true rfl⟩) ?_
    refine W.eq (g2 := F0 m 11 ls [.int (bI (0 ≤ p1.toInt ∧ p1.toInt < 6))]) (by rfl) ?_
    refine lv_if_eq (tgt := 30) hx hb dX9_region_11 (by decide) (fun c_2 => ?_) (fun c_2 => ?_)
    · have c_2 := bI_0 c_2
      refine lv_iconst (v := 0) hx hb dX9_region_30 (by decide) ?_
      refine vx_callv (rxS (fun _ => True) (As := [.int 0]) (rest := []) ⟨hx, hb, hml, hown, hts⟩ (c_X9_require l hst E z0 0) (cwS 1 hts (gdS ml_X9_53 st_X9_require in_X9 co_X9_require rfl) rfl rfl rfl (by decide +kernel) ⟨Nat.le_of_ble_eq_true rfl, Nat.le_of_ble_eq_true rfl⟩) trivial (fun U hU hW => hK.go hW hS hAz hU) rfl rfl hl.1 rfl (lv_room (Nat.le_of_ble_eq_true rfl)) dX9_region_31 ⟨Nat.le_of_ble_eq_true rfl, Nat.le_of_ble_eq_true rfl⟩) hS (fun q _ h => h.elim) (fun q h => h.elim) (fun q _ h => h.elim) (fun En ce q9 _ t H locs ht hvm hw hB hz hk hS hc1 hc2 hc3 => ?_) (fun _ t H locs ht hvm hw hB hz hk hS => ?_)
      · have hT : TH E (T1 E) G [] H := hT.kept (fun q hq => hk q hq (fun h => h))
        subst hB
        exact vx_out (fun x hx => (hne x hx).elim) hlocks hc1 hc2 hc3 (fun t ht hA => ⟨(), trivial, ⟨⟨rfl, by omega⟩, by show TH E (T1 E) G [] t.heap; rw [ht]; exact hT⟩, hS.F ht⟩) hS.2.2 (Nat.le_of_ble_eq_true rfl) (Nat.le_of_ble_eq_true rfl)
      · have hT : TH E (T1 E) G [] H := hT.kept (fun q hq => hk q hq (fun h => h))
        exact absurd rfl hw
    · have c_2 := bI_n c_2
      refine lv_iload hx hb dX9_region_14 (lv_at hl 5 rfl) ?_
      refine lv_if_lt (tgt := 30) hx hb dX9_region_16 (by decide) (fun c_3 => ?_) (fun c_3 => ?_)
      · simp only [lt_I, le_I, eq_I, i_0, i_1, i_2, i_3, i_4, i_5, i_6, i_7, i_8, i_10, i_12, i_16, i_20, i_23, i_24, i_31, i_32, i_63, i_64, i_m1] at c_3
        refine lv_iconst (v := 0) hx hb dX9_region_30 (by decide) ?_
        refine vx_callv (rxS (fun _ => True) (As := [.int 0]) (rest := []) ⟨hx, hb, hml, hown, hts⟩ (c_X9_require l hst E z0 0) (cwS 1 hts (gdS ml_X9_53 st_X9_require in_X9 co_X9_require rfl) rfl rfl rfl (by decide +kernel) ⟨Nat.le_of_ble_eq_true rfl, Nat.le_of_ble_eq_true rfl⟩) trivial (fun U hU hW => hK.go hW hS hAz hU) rfl rfl hl.1 rfl (lv_room (Nat.le_of_ble_eq_true rfl)) dX9_region_31 ⟨Nat.le_of_ble_eq_true rfl, Nat.le_of_ble_eq_true rfl⟩) hS (fun q _ h => h.elim) (fun q h => h.elim) (fun q _ h => h.elim) (fun En ce q9 _ t H locs ht hvm hw hB hz hk hS hc1 hc2 hc3 => ?_) (fun _ t H locs ht hvm hw hB hz hk hS => ?_)
        · have hT : TH E (T1 E) G [] H := hT.kept (fun q hq => hk q hq (fun h => h))
          subst hB
          exact vx_out (fun x hx => (hne x hx).elim) hlocks hc1 hc2 hc3 (fun t ht hA => ⟨(), trivial, ⟨⟨rfl, by omega⟩, by show TH E (T1 E) G [] t.heap; rw [ht]; exact hT⟩, hS.F ht⟩) hS.2.2 (Nat.le_of_ble_eq_true rfl) (Nat.le_of_ble_eq_true rfl)
        · have hT : TH E (T1 E) G [] H := hT.kept (fun q hq => hk q hq (fun h => h))
          exact absurd rfl hw
      · simp only [lt_I, le_I, eq_I, i_0, i_1, i_2, i_3, i_4, i_5, i_6, i_7, i_8, i_10, i_12, i_16, i_20, i_23, i_24, i_31, i_32, i_63, i_64, i_m1] at c_3
        refine lv_iload hx hb dX9_region_19 (lv_at hl 5 rfl) ?_
        refine lv_bipush (v := 7) hx hb dX9_region_21 (by decide) ?_
        refine lv_icmp_gt (tgt := 30) hx hb dX9_region_23 (by decide) (fun c_4 => ?_) (fun c_4 => ?_)
        · simp only [lt_I, le_I, eq_I, i_0, i_1, i_2, i_3, i_4, i_5, i_6, i_7, i_8, i_10, i_12, i_16, i_20, i_23, i_24, i_31, i_32, i_63, i_64, i_m1] at c_4
          refine lv_iconst (v := 0) hx hb dX9_region_30 (by decide) ?_
          refine vx_callv (rxS (fun _ => True) (As := [.int 0]) (rest := []) ⟨hx, hb, hml, hown, hts⟩ (c_X9_require l hst E z0 0) (cwS 1 hts (gdS ml_X9_53 st_X9_require in_X9 co_X9_require rfl) rfl rfl rfl (by decide +kernel) ⟨Nat.le_of_ble_eq_true rfl, Nat.le_of_ble_eq_true rfl⟩) trivial (fun U hU hW => hK.go hW hS hAz hU) rfl rfl hl.1 rfl (lv_room (Nat.le_of_ble_eq_true rfl)) dX9_region_31 ⟨Nat.le_of_ble_eq_true rfl, Nat.le_of_ble_eq_true rfl⟩) hS (fun q _ h => h.elim) (fun q h => h.elim) (fun q _ h => h.elim) (fun En ce q9 _ t H locs ht hvm hw hB hz hk hS hc1 hc2 hc3 => ?_) (fun _ t H locs ht hvm hw hB hz hk hS => ?_)
          · have hT : TH E (T1 E) G [] H := hT.kept (fun q hq => hk q hq (fun h => h))
            subst hB
            exact vx_out (fun x hx => (hne x hx).elim) hlocks hc1 hc2 hc3 (fun t ht hA => ⟨(), trivial, ⟨⟨rfl, by omega⟩, by show TH E (T1 E) G [] t.heap; rw [ht]; exact hT⟩, hS.F ht⟩) hS.2.2 (Nat.le_of_ble_eq_true rfl) (Nat.le_of_ble_eq_true rfl)
          · have hT : TH E (T1 E) G [] H := hT.kept (fun q hq => hk q hq (fun h => h))
            exact absurd rfl hw
        · simp only [lt_I, le_I, eq_I, i_0, i_1, i_2, i_3, i_4, i_5, i_6, i_7, i_8, i_10, i_12, i_16, i_20, i_23, i_24, i_31, i_32, i_63, i_64, i_m1] at c_4
          refine lv_iconst (v := 1) hx hb dX9_region_26 (by decide) ?_
          refine lv_goto (tgt := 31) hx hb dX9_region_27 (by decide) ?_
          refine vx_callv (rxS (fun _ => True) (As := [.int 1]) (rest := []) ⟨hx, hb, hml, hown, hts⟩ (c_X9_require l hst E z0 1) (cwS 1 hts (gdS ml_X9_53 st_X9_require in_X9 co_X9_require rfl) rfl rfl rfl (by decide +kernel) ⟨Nat.le_of_ble_eq_true rfl, Nat.le_of_ble_eq_true rfl⟩) trivial (fun U hU hW => hK.go hW hS hAz hU) rfl rfl hl.1 rfl (lv_room (Nat.le_of_ble_eq_true rfl)) dX9_region_31 ⟨Nat.le_of_ble_eq_true rfl, Nat.le_of_ble_eq_true rfl⟩) hS (fun q _ h => h.elim) (fun q h => h.elim) (fun q _ h => h.elim) (fun En ce q9 _ t H locs ht hvm hw hB hz hk hS hc1 hc2 hc3 => ?_) (fun _ t H locs ht hvm hw hB hz hk hS => ?_)
          · have hT : TH E (T1 E) G [] H := hT.kept (fun q hq => hk q hq (fun h => h))
            exact absurd hw (by decide)
          · have hT : TH E (T1 E) G [] H := hT.kept (fun q hq => hk q hq (fun h => h))
            refine lv_iload_n hx hb dX9_region_34 rfl (lv_at hl 3 rfl) ?_
            refine lv_if_lt (tgt := 56) hx hb dX9_region_35 (by decide) (fun c_5 => ?_) (fun c_5 => ?_)
            · simp only [lt_I, le_I, eq_I, i_0, i_1, i_2, i_3, i_4, i_5, i_6, i_7, i_8, i_10, i_12, i_16, i_20, i_23, i_24, i_31, i_32, i_63, i_64, i_m1] at c_5
              refine lv_iconst (v := 0) hx hb dX9_region_56 (by decide) ?_
              refine vx_callv (rxS (fun _ => True) (As := [.int 0]) (rest := []) ⟨hx, hb, hml, hown, hts⟩ (c_X9_require l hst E z0 0) (cwS 1 hts (gdS ml_X9_53 st_X9_require in_X9 co_X9_require rfl) rfl rfl rfl (by decide +kernel) ⟨Nat.le_of_ble_eq_true rfl, Nat.le_of_ble_eq_true rfl⟩) trivial (fun U hU hW => hK.go hW hS hAz hU) rfl rfl hl.1 rfl (lv_room (Nat.le_of_ble_eq_true rfl)) dX9_region_57 ⟨Nat.le_of_ble_eq_true rfl, Nat.le_of_ble_eq_true rfl⟩) hS (fun q _ h => h.elim) (fun q h => h.elim) (fun q _ h => h.elim) (fun En ce q9 _ t H locs ht hvm hw hB hz hk hS hc1 hc2 hc3 => ?_) (fun _ t H locs ht hvm hw hB hz hk hS => ?_)
              · have hT : TH E (T1 E) G [] H := hT.kept (fun q hq => hk q hq (fun h => h))
                subst hB
                exact vx_out (fun x hx => (hne x hx).elim) hlocks hc1 hc2 hc3 (fun t ht hA => ⟨(), trivial, ⟨⟨rfl, by omega⟩, by show TH E (T1 E) G [] t.heap; rw [ht]; exact hT⟩, hS.F ht⟩) hS.2.2 (Nat.le_of_ble_eq_true rfl) (Nat.le_of_ble_eq_true rfl)
              · have hT : TH E (T1 E) G [] H := hT.kept (fun q hq => hk q hq (fun h => h))
                exact absurd rfl hw
            · simp only [lt_I, le_I, eq_I, i_0, i_1, i_2, i_3, i_4, i_5, i_6, i_7, i_8, i_10, i_12, i_16, i_20, i_23, i_24, i_31, i_32, i_63, i_64, i_m1] at c_5
              refine lv_iload hx hb dX9_region_38 (lv_at hl 4 rfl) ?_
              refine lv_if_lt (tgt := 56) hx hb dX9_region_40 (by decide) (fun c_6 => ?_) (fun c_6 => ?_)
              · simp only [lt_I, le_I, eq_I, i_0, i_1, i_2, i_3, i_4, i_5, i_6, i_7, i_8, i_10, i_12, i_16, i_20, i_23, i_24, i_31, i_32, i_63, i_64, i_m1] at c_6
                refine lv_iconst (v := 0) hx hb dX9_region_56 (by decide) ?_
                refine vx_callv (rxS (fun _ => True) (As := [.int 0]) (rest := []) ⟨hx, hb, hml, hown, hts⟩ (c_X9_require l hst E z0 0) (cwS 1 hts (gdS ml_X9_53 st_X9_require in_X9 co_X9_require rfl) rfl rfl rfl (by decide +kernel) ⟨Nat.le_of_ble_eq_true rfl, Nat.le_of_ble_eq_true rfl⟩) trivial (fun U hU hW => hK.go hW hS hAz hU) rfl rfl hl.1 rfl (lv_room (Nat.le_of_ble_eq_true rfl)) dX9_region_57 ⟨Nat.le_of_ble_eq_true rfl, Nat.le_of_ble_eq_true rfl⟩) hS (fun q _ h => h.elim) (fun q h => h.elim) (fun q _ h => h.elim) (fun En ce q9 _ t H locs ht hvm hw hB hz hk hS hc1 hc2 hc3 => ?_) (fun _ t H locs ht hvm hw hB hz hk hS => ?_)
                · have hT : TH E (T1 E) G [] H := hT.kept (fun q hq => hk q hq (fun h => h))
                  subst hB
                  exact vx_out (fun x hx => (hne x hx).elim) hlocks hc1 hc2 hc3 (fun t ht hA => ⟨(), trivial, ⟨⟨rfl, by omega⟩, by show TH E (T1 E) G [] t.heap; rw [ht]; exact hT⟩, hS.F ht⟩) hS.2.2 (Nat.le_of_ble_eq_true rfl) (Nat.le_of_ble_eq_true rfl)
                · have hT : TH E (T1 E) G [] H := hT.kept (fun q hq => hk q hq (fun h => h))
                  exact absurd rfl hw
              · simp only [lt_I, le_I, eq_I, i_0, i_1, i_2, i_3, i_4, i_5, i_6, i_7, i_8, i_10, i_12, i_16, i_20, i_23, i_24, i_31, i_32, i_63, i_64, i_m1] at c_6
                refine lv_iload hx hb dX9_region_43 (lv_at hl 4 rfl) ?_
                refine lv_bipush (v := 32) hx hb dX9_region_45 (by decide) ?_
                refine lv_iload_n hx hb dX9_region_47 rfl (lv_at hl 3 rfl) ?_
                refine lv_isub hx hb dX9_region_48 ?_
                have bd_7 := s_bd p2
                refine lv_topi (fun x_8 ex_8 => ?_)
                have fx_8 : x_8.toInt = 32 - p2.toInt := by have h9 := s_sub (x := 32) (y := p2) (by rw [i_32]; omega) (by rw [i_32]; omega); rw [i_32] at h9; rw [ex_8]; exact h9
                refine lv_icmp_gt (tgt := 56) hx hb dX9_region_49 (by decide) (fun c_9 => ?_) (fun c_9 => ?_)
                · simp only [lt_I, le_I, eq_I, i_0, i_1, i_2, i_3, i_4, i_5, i_6, i_7, i_8, i_10, i_12, i_16, i_20, i_23, i_24, i_31, i_32, i_63, i_64, i_m1] at c_9
                  refine lv_iconst (v := 0) hx hb dX9_region_56 (by decide) ?_
                  refine vx_callv (rxS (fun _ => True) (As := [.int 0]) (rest := []) ⟨hx, hb, hml, hown, hts⟩ (c_X9_require l hst E z0 0) (cwS 1 hts (gdS ml_X9_53 st_X9_require in_X9 co_X9_require rfl) rfl rfl rfl (by decide +kernel) ⟨Nat.le_of_ble_eq_true rfl, Nat.le_of_ble_eq_true rfl⟩) trivial (fun U hU hW => hK.go hW hS hAz hU) rfl rfl hl.1 rfl (lv_room (Nat.le_of_ble_eq_true rfl)) dX9_region_57 ⟨Nat.le_of_ble_eq_true rfl, Nat.le_of_ble_eq_true rfl⟩) hS (fun q _ h => h.elim) (fun q h => h.elim) (fun q _ h => h.elim) (fun En ce q9 _ t H locs ht hvm hw hB hz hk hS hc1 hc2 hc3 => ?_) (fun _ t H locs ht hvm hw hB hz hk hS => ?_)
                  · have hT : TH E (T1 E) G [] H := hT.kept (fun q hq => hk q hq (fun h => h))
                    subst hB
                    exact vx_out (fun x hx => (hne x hx).elim) hlocks hc1 hc2 hc3 (fun t ht hA => ⟨(), trivial, ⟨⟨rfl, by omega⟩, by show TH E (T1 E) G [] t.heap; rw [ht]; exact hT⟩, hS.F ht⟩) hS.2.2 (Nat.le_of_ble_eq_true rfl) (Nat.le_of_ble_eq_true rfl)
                  · have hT : TH E (T1 E) G [] H := hT.kept (fun q hq => hk q hq (fun h => h))
                    exact absurd rfl hw
                · simp only [lt_I, le_I, eq_I, i_0, i_1, i_2, i_3, i_4, i_5, i_6, i_7, i_8, i_10, i_12, i_16, i_20, i_23, i_24, i_31, i_32, i_63, i_64, i_m1] at c_9
                  refine lv_iconst (v := 1) hx hb dX9_region_52 (by decide) ?_
                  refine lv_goto (tgt := 57) hx hb dX9_region_53 (by decide) ?_
                  refine vx_callv (rxS (fun _ => True) (As := [.int 1]) (rest := []) ⟨hx, hb, hml, hown, hts⟩ (c_X9_require l hst E z0 1) (cwS 1 hts (gdS ml_X9_53 st_X9_require in_X9 co_X9_require rfl) rfl rfl rfl (by decide +kernel) ⟨Nat.le_of_ble_eq_true rfl, Nat.le_of_ble_eq_true rfl⟩) trivial (fun U hU hW => hK.go hW hS hAz hU) rfl rfl hl.1 rfl (lv_room (Nat.le_of_ble_eq_true rfl)) dX9_region_57 ⟨Nat.le_of_ble_eq_true rfl, Nat.le_of_ble_eq_true rfl⟩) hS (fun q _ h => h.elim) (fun q h => h.elim) (fun q _ h => h.elim) (fun En ce q9 _ t H locs ht hvm hw hB hz hk hS hc1 hc2 hc3 => ?_) (fun _ t H locs ht hvm hw hB hz hk hS => ?_)
                  · have hT : TH E (T1 E) G [] H := hT.kept (fun q hq => hk q hq (fun h => h))
                    exact absurd hw (by decide)
                  · have hT : TH E (T1 E) G [] H := hT.kept (fun q hq => hk q hq (fun h => h))
                    refine lv_aload_n hx hb dX9_region_60 rfl (lv_at hl 0 rfl) ?_
                    obtain ⟨v0_10, v1_10, v2_10, ha_10, hg0_10, hg1_10, hg2_10⟩ := tr_1 hT hG
                    refine va_get (D := DG E) (ci := 9) (v := .ref v0_10) (C := RX9) (T := TX9) (N := 3) hx hb hts iw_X9 hown hK.1 (va_one ha_10) 0 rfl rfl 0 (by decide) (hts _ fl_X9_22) (fun _ h9 => h9) rfl dX9_region_61 ?_
                    refine lv_iload_n hx hb dX9_region_64 rfl (lv_at hl 1 rfl) ?_
                    obtain ⟨f_11, ha_11, he_11⟩ := tr_2 hT hg0_10
                    obtain ⟨j_12, hj_12, ej_12⟩ := vp_in_of (show vp_in p0 2 from vp_in_iff.mpr (by omega)) (by decide)
                    obtain ⟨b_12, eb_12, gb_12⟩ := he_11 j_12 hj_12
                    have cj_12 : f_11 (p0 : Int32).toNatClampNeg = some b_12 := by rw [ej_12, nI_clamp (by omega)]; exact eb_12
                    refine va_aldq (D := DG E) hx hb hK.1 (va_one ha_11) 0 3 rfl rfl (show vp_in p0 2 from vp_in_iff.mpr (by omega)) dX9_region_65 ?_
                    rw [cj_12]
                    refine W.eq (g2 := F0 m 66 ls [.ref b_12]) (by rfl) ?_
                    obtain ⟨v0_13, v1_13, v2_13, v3_13, v4_13, ha_13, hg0_13, hg1_13, hg2_13, hb3_13, hb4_13⟩ := tr_5 hT gb_12
                    refine va_get (D := DG E) (ci := 1) (v := .ref v1_13) (C := RX1) (T := TX1) (N := 5) hx hb hts iw_X1 hown hK.1 (va_one ha_13) 0 rfl rfl 1 (by decide) (hts _ fl_X9_57) (fun _ h9 => h9) rfl dX9_region_66 ?_
                    refine lv_iload_n hx hb dX9_region_69 rfl (lv_at hl 2 rfl) ?_
                    obtain ⟨f_14, ha_14, he_14⟩ := tr_6 hT hg1_13
                    obtain ⟨j_15, hj_15, ej_15⟩ := vp_in_of (show vp_in p1 6 from vp_in_iff.mpr (by omega)) (by decide)
                    obtain ⟨b_15, eb_15, gb_15⟩ := he_14 j_15 hj_15
                    have cj_15 : f_14 (p1 : Int32).toNatClampNeg = some b_15 := by rw [ej_15, nI_clamp (by omega)]; exact eb_15
                    refine va_aldq (D := DG E) hx hb hK.1 (va_one ha_14) 0 4 rfl rfl (show vp_in p1 6 from vp_in_iff.mpr (by omega)) dX9_region_70 ?_
                    rw [cj_15]
                    refine W.eq (g2 := F0 m 71 ls [.ref b_15]) (by rfl) ?_
                    refine lv_iload_n hx hb dX9_region_71 rfl (lv_at hl 3 rfl) ?_
                    refine lv_iload hx hb dX9_region_72 (lv_at hl 4 rfl) ?_
                    refine lv_iload hx hb dX9_region_74 (lv_at hl 5 rfl) ?_
                    obtain ⟨v0_16, v1_16, v2_16, ha_16⟩ := tr_7 hT gb_15
                    refine va_callv (rnV (fun H => TH E (T1 E) G [] H) (As := [.int p2, .int p3, .int p4]) (rest := []) ⟨hx, hb, hml, hown, hts⟩ (t_X6_become l E z0 G hGz b_15 p2 p3 p4 gb_15) (cwV 3 hts (gdV ml_X9_61 im_X6_become se_X6_X6_become in_X6 co_X6_become rfl) rfl rfl rfl (by decide +kernel) ⟨Nat.le_of_ble_eq_true rfl, Nat.le_of_ble_eq_true rfl⟩) hT (fun U hU hW => hK.go hW hS hAz hU) (va_recv hK.1 (va_one ha_16) (ci := 6) (q0 := 0) rfl rfl) rfl rfl hl.1 rfl (lv_room (Nat.le_of_ble_eq_true rfl)) dX9_region_76 ⟨Nat.le_of_ble_eq_true rfl, Nat.le_of_ble_eq_true rfl⟩) hS (fun q _ h => mL (L' := [7]) (L := [7]) (by decide) h) (fun q h => mL (L' := [7]) (L := [7]) (by decide) h) (fun _ t H locs ht hvm hwr_17 hB hz hk hS => ?_)
                    have hT : TH E (T1 E) G [] H := by rw [ht] at hB; exact hB
                    have ha_10 := ha_10.kept (hk _ ha_10.lt (nL hG (by decide)))
                    have ha_11 := ha_11.kept (hk _ ha_11.lt (nL hg0_10 (by decide)))
                    have ha_13 := ha_13.kept (hk _ ha_13.lt (nL gb_12 (by decide)))
                    have ha_14 := ha_14.kept (hk _ ha_14.lt (nL hg1_13 (by decide)))
                    refine vx_ret ?_
                    refine W.widen (k := 2) (n := 12) (Nat.le_of_ble_eq_true rfl) (Nat.le_of_ble_eq_true rfl) ?_
                    exact W.vret hx hb hr (fun t ht hW => ⟨⟨(), rfl, (by omega), (by show TH E (T1 E) G [] t.heap; rw [ht]; exact hT)⟩, hS.F ht⟩) hS.2.2 dX9_region_79
theorem dX9_store_0 : decode cX9_store 0 = .ok (.iload_n 1, 1) := by decide +kernel
theorem dX9_store_1 : decode cX9_store 1 = .ok (.invokestatic 46, 3) := by decide +kernel
theorem dX9_store_4 : decode cX9_store 4 = .ok (.ifCond .eq 14, 3) := by decide +kernel
theorem dX9_store_7 : decode cX9_store 7 = .ok (.iload_n 2, 1) := by decide +kernel
theorem dX9_store_8 : decode cX9_store 8 = .ok (.invokestatic 67, 3) := by decide +kernel
theorem dX9_store_11 : decode cX9_store 11 = .ok (.ifCond .eq 7, 3) := by decide +kernel
theorem dX9_store_14 : decode cX9_store 14 = .ok (.iconst 1, 1) := by decide +kernel
theorem dX9_store_15 : decode cX9_store 15 = .ok (.goto 4, 3) := by decide +kernel
theorem dX9_store_18 : decode cX9_store 18 = .ok (.iconst 0, 1) := by decide +kernel
theorem dX9_store_19 : decode cX9_store 19 = .ok (.invokestatic 53, 3) := by decide +kernel
theorem dX9_store_22 : decode cX9_store 22 = .ok (.aload_n 0, 1) := by decide +kernel
theorem dX9_store_23 : decode cX9_store 23 = .ok (.getfield 22, 3) := by decide +kernel
theorem dX9_store_26 : decode cX9_store 26 = .ok (.iload_n 1, 1) := by decide +kernel
theorem dX9_store_27 : decode cX9_store 27 = .ok (.aaload, 1) := by decide +kernel
theorem dX9_store_28 : decode cX9_store 28 = .ok (.iload_n 2, 1) := by decide +kernel
theorem dX9_store_29 : decode cX9_store 29 = .ok (.iload_n 3, 1) := by decide +kernel
theorem dX9_store_30 : decode cX9_store 30 = .ok (.invokevirtual 70, 3) := by decide +kernel
theorem dX9_store_33 : decode cX9_store 33 = .ok (.return_, 1) := by decide +kernel
set_option maxHeartbeats 8000000 in
set_option maxRecDepth 100000 in
theorem t_X9_store (l : Launch) (hst : l.stackTraces = false) (E : EE) (z0 : Nat) (G : Nat → Nat) (hGz : ∀ q, G q ≠ 0 → z0 ≤ q) (h0 : Nat) (p0 : Int32) (p1 : Int32) (p2 : Int32) (hG : G h0 = 1) : vx_Met l yX9_store [Cond.code yX9_store cX9_store 4 none] ({ frames := 7, cells := 1, slots := 6, locals := 101 } : Room) (va_Pc [.ref h0, .int p0, .int p1, .int p2] (fun U => (TH E (T1 E) G [] U.heap) ∧ KS E z0 U)) (va_Qv (fun (_ : Unit) => (0 ≤ p0.toInt ∧ p0.toInt < 2 ∧ 0 ≤ p1.toInt ∧ p1.toInt < 32)) (fun _ t => TH E (T1 E) G [] t.heap) (fun q : Nat => G q ∈ ([14] : List Nat))) (vx_X (fun (_ : Unit) => True) (fun En _ t => (En = IAE ∧ ¬ (0 ≤ p0.toInt ∧ p0.toInt < 2 ∧ 0 ≤ p1.toInt ∧ p1.toInt < 32)) ∧ TH E (T1 E) G [] t.heap) (fun q : Nat => G q ∈ ([14] : List Nat))) 1 6 (fun q : Nat => G q ∈ ([14] : List Nat)) := by
  refine vx_ofW (cc := cX9_store) (maxL := 4) (ret := none) (by decide) rfl ?_
  intro p e s m args below meth c s₁ B hml hne hv
  obtain ⟨rfl, hT, hK⟩ := hv
  have hx := B.exec
  have hb := B.bytes
  have hr := B.returns
  have hts : ∀ w ∈ TS, w.before ([.ref h0, .int p0, .int p1, .int p2] : List Value).toArray s = true := fun w hw => hK.2.1 w hw _
  have hown : s.vm.findClass RX9 = some m.cls := findClass_of_methodNamed B.named
  have hlocks := B.notSynchronized
  have hS : va_S (fun q : Nat => G q ∈ ([14] : List Nat)) s.heap s.heap [] := va_S.rf
  have hAz : ∀ q, (fun q : Nat => G q ∈ ([14] : List Nat)) q → z0 ≤ q := zL hGz (by decide)
  have hl := lv_entry ([.ref h0, .int p0, .int p1, .int p2]) (n := 4) (Nat.le_of_ble_eq_true rfl)
  rw [lg_entry_eq]
  generalize (lg_sl ([.ref h0, .int p0, .int p1, .int p2]) ++ List.replicate (4 - (lg_sl ([.ref h0, .int p0, .int p1, .int p2])).length) Slot.unset).toArray = ls at hl ⊢
  have hl : lv_has ls 4 [(0, .ref h0), (1, .int p0), (2, .int p1), (3, .int p2)] := hl
  refine lv_iload_n hx hb dX9_store_0 rfl (lv_at hl 1 rfl) ?_
  refine W.callR (W.runS (As := [.int p0]) (rest := []) ⟨hx, hb, hml, hown, hts⟩ (c_X9_isNode l p0) (cwS 1 hts (gdS ml_X9_46 st_X9_isNode in_X9 co_X9_isNode rfl) rfl rfl rfl (by decide +kernel) ⟨Nat.le_of_ble_eq_true rfl, Nat.le_of_ble_eq_true rfl⟩) preEq rfl rfl hl.1 rfl (lv_room (Nat.le_of_ble_eq_true rfl)) dX9_store_1 ⟨Nat.le_of_ble_eq_true rfl, Nat.le_of_ble_eq_true rfl⟩) ?_
  refine W.eq (g2 := F0 m 4 ls [.int (bI (0 ≤ p0.toInt ∧ p0.toInt < 2))]) (by rfl) ?_
  refine lv_if_eq (tgt := 18) hx hb dX9_store_4 (by decide) (fun c_1 => ?_) (fun c_1 => ?_)
  · have c_1 := bI_0 c_1
    refine lv_iconst (v := 0) hx hb dX9_store_18 (by decide) ?_
    refine vx_callv (rxS (fun _ => True) (As := [.int 0]) (rest := []) ⟨hx, hb, hml, hown, hts⟩ (c_X9_require l hst E z0 0) (cwS 1 hts (gdS ml_X9_53 st_X9_require in_X9 co_X9_require rfl) rfl rfl rfl (by decide +kernel) ⟨Nat.le_of_ble_eq_true rfl, Nat.le_of_ble_eq_true rfl⟩) trivial (fun U hU hW => hK.go hW hS hAz hU) rfl rfl hl.1 rfl (lv_room (Nat.le_of_ble_eq_true rfl)) dX9_store_19 ⟨Nat.le_of_ble_eq_true rfl, Nat.le_of_ble_eq_true rfl⟩) hS (fun q _ h => h.elim) (fun q h => h.elim) (fun q _ h => h.elim) (fun En ce q9 _ t H locs ht hvm hw hB hz hk hS hc1 hc2 hc3 => ?_) (fun _ t H locs ht hvm hw hB hz hk hS => ?_)
    · have hT : TH E (T1 E) G [] H := hT.kept (fun q hq => hk q hq (fun h => h))
      subst hB
      exact vx_out (fun x hx => (hne x hx).elim) hlocks hc1 hc2 hc3 (fun t ht hA => ⟨(), trivial, ⟨⟨rfl, by omega⟩, by show TH E (T1 E) G [] t.heap; rw [ht]; exact hT⟩, hS.F ht⟩) hS.2.2 (Nat.le_of_ble_eq_true rfl) (Nat.le_of_ble_eq_true rfl)
    · have hT : TH E (T1 E) G [] H := hT.kept (fun q hq => hk q hq (fun h => h))
      exact absurd rfl hw
  · have c_1 := bI_n c_1
    refine lv_iload_n hx hb dX9_store_7 rfl (lv_at hl 2 rfl) ?_
    refine W.callR (W.runS (As := [.int p1]) (rest := []) ⟨hx, hb, hml, hown, hts⟩ (c_X9_isCell l p1) (cwS 1 hts (gdS ml_X9_67 st_X9_isCell in_X9 co_X9_isCell rfl) rfl rfl rfl (by decide +kernel) ⟨Nat.le_of_ble_eq_true rfl, Nat.le_of_ble_eq_true rfl⟩) preEq rfl rfl hl.1 rfl (lv_room (Nat.le_of_ble_eq_true rfl)) dX9_store_8 ⟨Nat.le_of_ble_eq_true rfl, Nat.le_of_ble_eq_true rfl⟩) ?_
    refine W.eq (g2 := F0 m 11 ls [.int (bI (0 ≤ p1.toInt ∧ p1.toInt < 32))]) (by rfl) ?_
    refine lv_if_eq (tgt := 18) hx hb dX9_store_11 (by decide) (fun c_2 => ?_) (fun c_2 => ?_)
    · have c_2 := bI_0 c_2
      refine lv_iconst (v := 0) hx hb dX9_store_18 (by decide) ?_
      refine vx_callv (rxS (fun _ => True) (As := [.int 0]) (rest := []) ⟨hx, hb, hml, hown, hts⟩ (c_X9_require l hst E z0 0) (cwS 1 hts (gdS ml_X9_53 st_X9_require in_X9 co_X9_require rfl) rfl rfl rfl (by decide +kernel) ⟨Nat.le_of_ble_eq_true rfl, Nat.le_of_ble_eq_true rfl⟩) trivial (fun U hU hW => hK.go hW hS hAz hU) rfl rfl hl.1 rfl (lv_room (Nat.le_of_ble_eq_true rfl)) dX9_store_19 ⟨Nat.le_of_ble_eq_true rfl, Nat.le_of_ble_eq_true rfl⟩) hS (fun q _ h => h.elim) (fun q h => h.elim) (fun q _ h => h.elim) (fun En ce q9 _ t H locs ht hvm hw hB hz hk hS hc1 hc2 hc3 => ?_) (fun _ t H locs ht hvm hw hB hz hk hS => ?_)
      · have hT : TH E (T1 E) G [] H := hT.kept (fun q hq => hk q hq (fun h => h))
        subst hB
        exact vx_out (fun x hx => (hne x hx).elim) hlocks hc1 hc2 hc3 (fun t ht hA => ⟨(), trivial, ⟨⟨rfl, by omega⟩, by show TH E (T1 E) G [] t.heap; rw [ht]; exact hT⟩, hS.F ht⟩) hS.2.2 (Nat.le_of_ble_eq_true rfl) (Nat.le_of_ble_eq_true rfl)
      · have hT : TH E (T1 E) G [] H := hT.kept (fun q hq => hk q hq (fun h => h))
        exact absurd rfl hw
    · have c_2 := bI_n c_2
      refine lv_iconst (v := 1) hx hb dX9_store_14 (by decide) ?_
      refine lv_goto (tgt := 19) hx hb dX9_store_15 (by decide) ?_
      refine vx_callv (rxS (fun _ => True) (As := [.int 1]) (rest := []) ⟨hx, hb, hml, hown, hts⟩ (c_X9_require l hst E z0 1) (cwS 1 hts (gdS ml_X9_53 st_X9_require in_X9 co_X9_require rfl) rfl rfl rfl (by decide +kernel) ⟨Nat.le_of_ble_eq_true rfl, Nat.le_of_ble_eq_true rfl⟩) trivial (fun U hU hW => hK.go hW hS hAz hU) rfl rfl hl.1 rfl (lv_room (Nat.le_of_ble_eq_true rfl)) dX9_store_19 ⟨Nat.le_of_ble_eq_true rfl, Nat.le_of_ble_eq_true rfl⟩) hS (fun q _ h => h.elim) (fun q h => h.elim) (fun q _ h => h.elim) (fun En ce q9 _ t H locs ht hvm hw hB hz hk hS hc1 hc2 hc3 => ?_) (fun _ t H locs ht hvm hw hB hz hk hS => ?_)
      · have hT : TH E (T1 E) G [] H := hT.kept (fun q hq => hk q hq (fun h => h))
        exact absurd hw (by decide)
      · have hT : TH E (T1 E) G [] H := hT.kept (fun q hq => hk q hq (fun h => h))
        refine lv_aload_n hx hb dX9_store_22 rfl (lv_at hl 0 rfl) ?_
        obtain ⟨v0_3, v1_3, v2_3, ha_3, hg0_3, hg1_3, hg2_3⟩ := tr_1 hT hG
        refine va_get (D := DG E) (ci := 9) (v := .ref v0_3) (C := RX9) (T := TX9) (N := 3) hx hb hts iw_X9 hown hK.1 (va_one ha_3) 0 rfl rfl 0 (by decide) (hts _ fl_X9_22) (fun _ h9 => h9) rfl dX9_store_23 ?_
        refine lv_iload_n hx hb dX9_store_26 rfl (lv_at hl 1 rfl) ?_
        obtain ⟨f_4, ha_4, he_4⟩ := tr_2 hT hg0_3
        obtain ⟨j_5, hj_5, ej_5⟩ := vp_in_of (show vp_in p0 2 from vp_in_iff.mpr (by omega)) (by decide)
        obtain ⟨b_5, eb_5, gb_5⟩ := he_4 j_5 hj_5
        have cj_5 : f_4 (p0 : Int32).toNatClampNeg = some b_5 := by rw [ej_5, nI_clamp (by omega)]; exact eb_5
        refine va_aldq (D := DG E) hx hb hK.1 (va_one ha_4) 0 3 rfl rfl (show vp_in p0 2 from vp_in_iff.mpr (by omega)) dX9_store_27 ?_
        rw [cj_5]
        refine W.eq (g2 := F0 m 28 ls [.ref b_5]) (by rfl) ?_
        refine lv_iload_n hx hb dX9_store_28 rfl (lv_at hl 2 rfl) ?_
        refine lv_iload_n hx hb dX9_store_29 rfl (lv_at hl 3 rfl) ?_
        obtain ⟨v0_6, v1_6, v2_6, v3_6, v4_6, ha_6, hg0_6, hg1_6, hg2_6, hb3_6, hb4_6⟩ := tr_5 hT gb_5
        refine va_callv (rnV (fun H => TH E (T1 E) G [] H) (As := [.int p1, .int p2]) (rest := []) ⟨hx, hb, hml, hown, hts⟩ (t_X1_put l E z0 G hGz b_5 p1 p2 gb_5) (cwV 2 hts (gdV ml_X9_70 im_X1_put se_X1_X1_put in_X1 co_X1_put rfl) rfl rfl rfl (by decide +kernel) ⟨Nat.le_of_ble_eq_true rfl, Nat.le_of_ble_eq_true rfl⟩) hT (fun U hU hW => hK.go hW hS hAz hU) (va_recv hK.1 (va_one ha_6) (ci := 1) (q0 := 0) rfl rfl) rfl rfl hl.1 rfl (lv_room (Nat.le_of_ble_eq_true rfl)) dX9_store_30 ⟨Nat.le_of_ble_eq_true rfl, Nat.le_of_ble_eq_true rfl⟩) hS (fun q _ h => mL (L' := [14]) (L := [14]) (by decide) h) (fun q h => mL (L' := [14]) (L := [14]) (by decide) h) (fun _ t H locs ht hvm hwr_7 hB hz hk hS => ?_)
        have hT : TH E (T1 E) G [] H := by rw [ht] at hB; exact hB
        have ha_3 := ha_3.kept (hk _ ha_3.lt (nL hG (by decide)))
        have ha_4 := ha_4.kept (hk _ ha_4.lt (nL hg0_3 (by decide)))
        have ha_6 := ha_6.kept (hk _ ha_6.lt (nL gb_5 (by decide)))
        refine vx_ret ?_
        refine W.widen (k := 1) (n := 6) (Nat.le_of_ble_eq_true rfl) (Nat.le_of_ble_eq_true rfl) ?_
        exact W.vret hx hb hr (fun t ht hW => ⟨⟨(), rfl, (by omega), (by show TH E (T1 E) G [] t.heap; rw [ht]; exact hT)⟩, hS.F ht⟩) hS.2.2 dX9_store_33
theorem dX9_cell_0 : decode cX9_cell 0 = .ok (.iload_n 1, 1) := by decide +kernel
theorem dX9_cell_1 : decode cX9_cell 1 = .ok (.invokestatic 46, 3) := by decide +kernel
theorem dX9_cell_4 : decode cX9_cell 4 = .ok (.ifCond .eq 16, 3) := by decide +kernel
theorem dX9_cell_7 : decode cX9_cell 7 = .ok (.aload_n 0, 1) := by decide +kernel
theorem dX9_cell_8 : decode cX9_cell 8 = .ok (.getfield 22, 3) := by decide +kernel
theorem dX9_cell_11 : decode cX9_cell 11 = .ok (.iload_n 1, 1) := by decide +kernel
theorem dX9_cell_12 : decode cX9_cell 12 = .ok (.aaload, 1) := by decide +kernel
theorem dX9_cell_13 : decode cX9_cell 13 = .ok (.iload_n 2, 1) := by decide +kernel
theorem dX9_cell_14 : decode cX9_cell 14 = .ok (.invokevirtual 74, 3) := by decide +kernel
theorem dX9_cell_17 : decode cX9_cell 17 = .ok (.goto 4, 3) := by decide +kernel
theorem dX9_cell_20 : decode cX9_cell 20 = .ok (.iconst 0, 1) := by decide +kernel
theorem dX9_cell_21 : decode cX9_cell 21 = .ok (.ireturn, 1) := by decide +kernel
set_option maxHeartbeats 8000000 in
set_option maxRecDepth 100000 in
theorem t_X9_cell (l : Launch) (E : EE) (z0 : Nat) (G : Nat → Nat) (hGz : ∀ q, G q ≠ 0 → z0 ≤ q) (h0 : Nat) (p0 : Int32) (p1 : Int32) (hG : G h0 = 1) : Met l yX9_cell [Cond.code yX9_cell cX9_cell 3 (some .int)] ({ frames := 2, cells := 0, slots := 0, locals := 41 } : Room) (va_Pc [.ref h0, .int p0, .int p1] (fun U => (TH E (T1 E) G [] U.heap) ∧ KS E z0 U)) (va_Qi (fun (r : Int32) (_ : Unit) => True) (fun _ t => True) (fun _ : Nat => False)) 0 0 (fun _ : Nat => False) := by
  refine Met.ofW (cc := cX9_cell) (maxL := 3) (ret := (some .int)) (by decide) rfl ?_
  intro p e s m args below meth c s₁ B hml hv
  obtain ⟨rfl, hT, hK⟩ := hv
  have hx := B.exec
  have hb := B.bytes
  have hr := B.returns
  have hts : ∀ w ∈ TS, w.before ([.ref h0, .int p0, .int p1] : List Value).toArray s = true := fun w hw => hK.2.1 w hw _
  have hown : s.vm.findClass RX9 = some m.cls := findClass_of_methodNamed B.named
  have hlocks := B.notSynchronized
  have hS : va_S (fun _ : Nat => False) s.heap s.heap [] := va_S.rf
  have hAz : ∀ q, (fun _ : Nat => False) q → z0 ≤ q := fun _ h => h.elim
  have hl := lv_entry ([.ref h0, .int p0, .int p1]) (n := 3) (Nat.le_of_ble_eq_true rfl)
  rw [lg_entry_eq]
  generalize (lg_sl ([.ref h0, .int p0, .int p1]) ++ List.replicate (3 - (lg_sl ([.ref h0, .int p0, .int p1])).length) Slot.unset).toArray = ls at hl ⊢
  have hl : lv_has ls 3 [(0, .ref h0), (1, .int p0), (2, .int p1)] := hl
  refine lv_iload_n hx hb dX9_cell_0 rfl (lv_at hl 1 rfl) ?_
  refine W.callR (W.runS (As := [.int p0]) (rest := []) ⟨hx, hb, hml, hown, hts⟩ (c_X9_isNode l p0) (cwS 1 hts (gdS ml_X9_46 st_X9_isNode in_X9 co_X9_isNode rfl) rfl rfl rfl (by decide +kernel) ⟨Nat.le_of_ble_eq_true rfl, Nat.le_of_ble_eq_true rfl⟩) preEq rfl rfl hl.1 rfl (lv_room (Nat.le_of_ble_eq_true rfl)) dX9_cell_1 ⟨Nat.le_of_ble_eq_true rfl, Nat.le_of_ble_eq_true rfl⟩) ?_
  refine W.eq (g2 := F0 m 4 ls [.int (bI (0 ≤ p0.toInt ∧ p0.toInt < 2))]) (by rfl) ?_
  refine lv_if_eq (tgt := 20) hx hb dX9_cell_4 (by decide) (fun c_1 => ?_) (fun c_1 => ?_)
  · have c_1 := bI_0 c_1
    refine lv_iconst (v := 0) hx hb dX9_cell_20 (by decide) ?_
    exact W.iret (v := 0) hx hb hr (fun t ht hW => ⟨⟨0, (), rfl, trivial, trivial⟩, hS.F ht⟩) hS.2.2 dX9_cell_21
  · have c_1 := bI_n c_1
    refine lv_aload_n hx hb dX9_cell_7 rfl (lv_at hl 0 rfl) ?_
    obtain ⟨v0_2, v1_2, v2_2, ha_2, hg0_2, hg1_2, hg2_2⟩ := tr_1 hT hG
    refine va_get (D := DG E) (ci := 9) (v := .ref v0_2) (C := RX9) (T := TX9) (N := 3) hx hb hts iw_X9 hown hK.1 (va_one ha_2) 0 rfl rfl 0 (by decide) (hts _ fl_X9_22) (fun _ h9 => h9) rfl dX9_cell_8 ?_
    refine lv_iload_n hx hb dX9_cell_11 rfl (lv_at hl 1 rfl) ?_
    obtain ⟨f_3, ha_3, he_3⟩ := tr_2 hT hg0_2
    obtain ⟨j_4, hj_4, ej_4⟩ := vp_in_of (show vp_in p0 2 from vp_in_iff.mpr (by omega)) (by decide)
    obtain ⟨b_4, eb_4, gb_4⟩ := he_3 j_4 hj_4
    have cj_4 : f_3 (p0 : Int32).toNatClampNeg = some b_4 := by rw [ej_4, nI_clamp (by omega)]; exact eb_4
    refine va_aldq (D := DG E) hx hb hK.1 (va_one ha_3) 0 3 rfl rfl (show vp_in p0 2 from vp_in_iff.mpr (by omega)) dX9_cell_12 ?_
    rw [cj_4]
    refine W.eq (g2 := F0 m 13 ls [.ref b_4]) (by rfl) ?_
    refine lv_iload_n hx hb dX9_cell_13 rfl (lv_at hl 2 rfl) ?_
    obtain ⟨v0_5, v1_5, v2_5, v3_5, v4_5, ha_5, hg0_5, hg1_5, hg2_5, hb3_5, hb4_5⟩ := tr_5 hT gb_4
    refine va_calli (rnV (fun H => TH E (T1 E) G [] H) (As := [.int p1]) (rest := []) ⟨hx, hb, hml, hown, hts⟩ (t_X1_at l E z0 G hGz b_4 p1 gb_4) (cwV 1 hts (gdV ml_X9_74 im_X1_at se_X1_X1_at in_X1 co_X1_at rfl) rfl rfl rfl (by decide +kernel) ⟨Nat.le_of_ble_eq_true rfl, Nat.le_of_ble_eq_true rfl⟩) hT (fun U hU hW => hK.go hW hS hAz hU) (va_recv hK.1 (va_one ha_5) (ci := 1) (q0 := 0) rfl rfl) rfl rfl hl.1 rfl (lv_room (Nat.le_of_ble_eq_true rfl)) dX9_cell_14 ⟨Nat.le_of_ble_eq_true rfl, Nat.le_of_ble_eq_true rfl⟩) hS (fun q _ h => h.elim) (fun q h => h.elim) (fun r_6 _ t H locs ht hvm hwr_6 hB hz hk hS => ?_)
    have hT : TH E (T1 E) G [] H := hT.kept (fun q hq => hk q hq (fun h => h))
    have ha_2 := ha_2.kept (hk _ ha_2.lt (fun h => h))
    have ha_3 := ha_3.kept (hk _ ha_3.lt (fun h => h))
    have ha_5 := ha_5.kept (hk _ ha_5.lt (fun h => h))
    refine lv_goto (tgt := 21) hx hb dX9_cell_17 (by decide) ?_
    exact W.iret (v := r_6) hx hb hr (fun t ht hW => ⟨⟨r_6, (), rfl, trivial, trivial⟩, hS.F ht⟩) hS.2.2 dX9_cell_21
theorem dX9_ready_0 : decode cX9_ready 0 = .ok (.iload_n 1, 1) := by decide +kernel
theorem dX9_ready_1 : decode cX9_ready 1 = .ok (.invokestatic 78, 3) := by decide +kernel
theorem dX9_ready_4 : decode cX9_ready 4 = .ok (.ifCond .eq 21, 3) := by decide +kernel
theorem dX9_ready_7 : decode cX9_ready 7 = .ok (.iload_n 2, 1) := by decide +kernel
theorem dX9_ready_8 : decode cX9_ready 8 = .ok (.invokestatic 81, 3) := by decide +kernel
theorem dX9_ready_11 : decode cX9_ready 11 = .ok (.ifCond .eq 14, 3) := by decide +kernel
theorem dX9_ready_14 : decode cX9_ready 14 = .ok (.iload_n 3, 1) := by decide +kernel
theorem dX9_ready_15 : decode cX9_ready 15 = .ok (.invokestatic 81, 3) := by decide +kernel
theorem dX9_ready_18 : decode cX9_ready 18 = .ok (.ifCond .eq 7, 3) := by decide +kernel
theorem dX9_ready_21 : decode cX9_ready 21 = .ok (.iconst 1, 1) := by decide +kernel
theorem dX9_ready_22 : decode cX9_ready 22 = .ok (.goto 4, 3) := by decide +kernel
theorem dX9_ready_25 : decode cX9_ready 25 = .ok (.iconst 0, 1) := by decide +kernel
theorem dX9_ready_26 : decode cX9_ready 26 = .ok (.invokestatic 53, 3) := by decide +kernel
theorem dX9_ready_29 : decode cX9_ready 29 = .ok (.aload_n 0, 1) := by decide +kernel
theorem dX9_ready_30 : decode cX9_ready 30 = .ok (.getfield 29, 3) := by decide +kernel
theorem dX9_ready_33 : decode cX9_ready 33 = .ok (.iload_n 1, 1) := by decide +kernel
theorem dX9_ready_34 : decode cX9_ready 34 = .ok (.aaload, 1) := by decide +kernel
theorem dX9_ready_35 : decode cX9_ready 35 = .ok (.getfield 84, 3) := by decide +kernel
theorem dX9_ready_38 : decode cX9_ready 38 = .ok (.ifCond .ne 7, 3) := by decide +kernel
theorem dX9_ready_41 : decode cX9_ready 41 = .ok (.iconst 1, 1) := by decide +kernel
theorem dX9_ready_42 : decode cX9_ready 42 = .ok (.goto 4, 3) := by decide +kernel
theorem dX9_ready_45 : decode cX9_ready 45 = .ok (.iconst 0, 1) := by decide +kernel
theorem dX9_ready_46 : decode cX9_ready 46 = .ok (.invokestatic 88, 3) := by decide +kernel
theorem dX9_ready_49 : decode cX9_ready 49 = .ok (.aload_n 0, 1) := by decide +kernel
theorem dX9_ready_50 : decode cX9_ready 50 = .ok (.getfield 29, 3) := by decide +kernel
theorem dX9_ready_53 : decode cX9_ready 53 = .ok (.iload_n 1, 1) := by decide +kernel
theorem dX9_ready_54 : decode cX9_ready 54 = .ok (.aaload, 1) := by decide +kernel
theorem dX9_ready_55 : decode cX9_ready 55 = .ok (.iload_n 2, 1) := by decide +kernel
theorem dX9_ready_56 : decode cX9_ready 56 = .ok (.iload_n 3, 1) := by decide +kernel
theorem dX9_ready_57 : decode cX9_ready 57 = .ok (.invokevirtual 91, 3) := by decide +kernel
theorem dX9_ready_60 : decode cX9_ready 60 = .ok (.return_, 1) := by decide +kernel
set_option maxHeartbeats 8000000 in
set_option maxRecDepth 100000 in
theorem t_X9_ready (l : Launch) (hst : l.stackTraces = false) (E : EE) (z0 : Nat) (G : Nat → Nat) (hGz : ∀ q, G q ≠ 0 → z0 ≤ q) (h0 : Nat) (p0 : Int32) (p1 : Int32) (p2 : Int32) (hG : G h0 = 1) : vx_Met l yX9_ready [Cond.code yX9_ready cX9_ready 4 none] ({ frames := 7, cells := 2, slots := 12, locals := 101 } : Room) (va_Pc [.ref h0, .int p0, .int p1, .int p2] (fun U => (TH E (T1 E) G [] U.heap) ∧ KS E z0 U)) (va_Qv (fun (_ : Unit) => True) (fun _ t => TH E (T1 E) G [] t.heap) (fun q : Nat => G q ∈ ([8, 9, 10] : List Nat))) (vx_X (fun (_ : Unit) => True) (fun En _ t => (En = IAE ∨ En = ISE) ∧ TH E (T1 E) G [] t.heap) (fun q : Nat => G q ∈ ([8, 9, 10] : List Nat))) 2 12 (fun q : Nat => G q ∈ ([8, 9, 10] : List Nat)) := by
  refine vx_ofW (cc := cX9_ready) (maxL := 4) (ret := none) (by decide) rfl ?_
  intro p e s m args below meth c s₁ B hml hne hv
  obtain ⟨rfl, hT, hK⟩ := hv
  have hx := B.exec
  have hb := B.bytes
  have hr := B.returns
  have hts : ∀ w ∈ TS, w.before ([.ref h0, .int p0, .int p1, .int p2] : List Value).toArray s = true := fun w hw => hK.2.1 w hw _
  have hown : s.vm.findClass RX9 = some m.cls := findClass_of_methodNamed B.named
  have hlocks := B.notSynchronized
  have hS : va_S (fun q : Nat => G q ∈ ([8, 9, 10] : List Nat)) s.heap s.heap [] := va_S.rf
  have hAz : ∀ q, (fun q : Nat => G q ∈ ([8, 9, 10] : List Nat)) q → z0 ≤ q := zL hGz (by decide)
  have hl := lv_entry ([.ref h0, .int p0, .int p1, .int p2]) (n := 4) (Nat.le_of_ble_eq_true rfl)
  rw [lg_entry_eq]
  generalize (lg_sl ([.ref h0, .int p0, .int p1, .int p2]) ++ List.replicate (4 - (lg_sl ([.ref h0, .int p0, .int p1, .int p2])).length) Slot.unset).toArray = ls at hl ⊢
  have hl : lv_has ls 4 [(0, .ref h0), (1, .int p0), (2, .int p1), (3, .int p2)] := hl
  refine lv_iload_n hx hb dX9_ready_0 rfl (lv_at hl 1 rfl) ?_
  refine W.callR (W.runS (As := [.int p0]) (rest := []) ⟨hx, hb, hml, hown, hts⟩ (c_X9_isPair l p0) (cwS 1 hts (gdS ml_X9_78 st_X9_isPair in_X9 co_X9_isPair rfl) rfl rfl rfl (by decide +kernel) ⟨Nat.le_of_ble_eq_true rfl, Nat.le_of_ble_eq_true rfl⟩) preEq rfl rfl hl.1 rfl (lv_room (Nat.le_of_ble_eq_true rfl)) dX9_ready_1 ⟨Nat.le_of_ble_eq_true rfl, Nat.le_of_ble_eq_true rfl⟩) ?_
  refine W.eq (g2 := F0 m 4 ls [.int (bI (0 ≤ p0.toInt ∧ p0.toInt < 4))]) (by rfl) ?_
  refine lv_if_eq (tgt := 25) hx hb dX9_ready_4 (by decide) (fun c_1 => ?_) (fun c_1 => ?_)
  · have c_1 := bI_0 c_1
    refine lv_iconst (v := 0) hx hb dX9_ready_25 (by decide) ?_
    refine vx_callv (rxS (fun _ => True) (As := [.int 0]) (rest := []) ⟨hx, hb, hml, hown, hts⟩ (c_X9_require l hst E z0 0) (cwS 1 hts (gdS ml_X9_53 st_X9_require in_X9 co_X9_require rfl) rfl rfl rfl (by decide +kernel) ⟨Nat.le_of_ble_eq_true rfl, Nat.le_of_ble_eq_true rfl⟩) trivial (fun U hU hW => hK.go hW hS hAz hU) rfl rfl hl.1 rfl (lv_room (Nat.le_of_ble_eq_true rfl)) dX9_ready_26 ⟨Nat.le_of_ble_eq_true rfl, Nat.le_of_ble_eq_true rfl⟩) hS (fun q _ h => h.elim) (fun q h => h.elim) (fun q _ h => h.elim) (fun En ce q9 _ t H locs ht hvm hw hB hz hk hS hc1 hc2 hc3 => ?_) (fun _ t H locs ht hvm hw hB hz hk hS => ?_)
    · have hT : TH E (T1 E) G [] H := hT.kept (fun q hq => hk q hq (fun h => h))
      subst hB
      exact vx_out (fun x hx => (hne x hx).elim) hlocks hc1 hc2 hc3 (fun t ht hA => ⟨(), trivial, ⟨Or.inl rfl, by show TH E (T1 E) G [] t.heap; rw [ht]; exact hT⟩, hS.F ht⟩) hS.2.2 (Nat.le_of_ble_eq_true rfl) (Nat.le_of_ble_eq_true rfl)
    · have hT : TH E (T1 E) G [] H := hT.kept (fun q hq => hk q hq (fun h => h))
      exact absurd rfl hw
  · have c_1 := bI_n c_1
    refine lv_iload_n hx hb dX9_ready_7 rfl (lv_at hl 2 rfl) ?_
    refine W.callR (W.runS (As := [.int p1]) (rest := []) ⟨hx, hb, hml, hown, hts⟩ (c_X9_isNumber l p1) (cwS 1 hts (gdS ml_X9_81 st_X9_isNumber in_X9 co_X9_isNumber rfl) rfl rfl rfl (by decide +kernel) ⟨Nat.le_of_ble_eq_true rfl, Nat.le_of_ble_eq_true rfl⟩) preEq rfl rfl hl.1 rfl (lv_room (Nat.le_of_ble_eq_true rfl)) dX9_ready_8 ⟨Nat.le_of_ble_eq_true rfl, Nat.le_of_ble_eq_true rfl⟩) ?_
    refine W.eq (g2 := F0 m 11 ls [.int (bI (0 ≤ p1.toInt ∧ p1.toInt < 64))]) (by rfl) ?_
    refine lv_if_eq (tgt := 25) hx hb dX9_ready_11 (by decide) (fun c_2 => ?_) (fun c_2 => ?_)
    · have c_2 := bI_0 c_2
      refine lv_iconst (v := 0) hx hb dX9_ready_25 (by decide) ?_
      refine vx_callv (rxS (fun _ => True) (As := [.int 0]) (rest := []) ⟨hx, hb, hml, hown, hts⟩ (c_X9_require l hst E z0 0) (cwS 1 hts (gdS ml_X9_53 st_X9_require in_X9 co_X9_require rfl) rfl rfl rfl (by decide +kernel) ⟨Nat.le_of_ble_eq_true rfl, Nat.le_of_ble_eq_true rfl⟩) trivial (fun U hU hW => hK.go hW hS hAz hU) rfl rfl hl.1 rfl (lv_room (Nat.le_of_ble_eq_true rfl)) dX9_ready_26 ⟨Nat.le_of_ble_eq_true rfl, Nat.le_of_ble_eq_true rfl⟩) hS (fun q _ h => h.elim) (fun q h => h.elim) (fun q _ h => h.elim) (fun En ce q9 _ t H locs ht hvm hw hB hz hk hS hc1 hc2 hc3 => ?_) (fun _ t H locs ht hvm hw hB hz hk hS => ?_)
      · have hT : TH E (T1 E) G [] H := hT.kept (fun q hq => hk q hq (fun h => h))
        subst hB
        exact vx_out (fun x hx => (hne x hx).elim) hlocks hc1 hc2 hc3 (fun t ht hA => ⟨(), trivial, ⟨Or.inl rfl, by show TH E (T1 E) G [] t.heap; rw [ht]; exact hT⟩, hS.F ht⟩) hS.2.2 (Nat.le_of_ble_eq_true rfl) (Nat.le_of_ble_eq_true rfl)
      · have hT : TH E (T1 E) G [] H := hT.kept (fun q hq => hk q hq (fun h => h))
        exact absurd rfl hw
    · have c_2 := bI_n c_2
      refine lv_iload_n hx hb dX9_ready_14 rfl (lv_at hl 3 rfl) ?_
      refine W.callR (W.runS (As := [.int p2]) (rest := []) ⟨hx, hb, hml, hown, hts⟩ (c_X9_isNumber l p2) (cwS 1 hts (gdS ml_X9_81 st_X9_isNumber in_X9 co_X9_isNumber rfl) rfl rfl rfl (by decide +kernel) ⟨Nat.le_of_ble_eq_true rfl, Nat.le_of_ble_eq_true rfl⟩) preEq rfl rfl hl.1 rfl (lv_room (Nat.le_of_ble_eq_true rfl)) dX9_ready_15 ⟨Nat.le_of_ble_eq_true rfl, Nat.le_of_ble_eq_true rfl⟩) ?_
      refine W.eq (g2 := F0 m 18 ls [.int (bI (0 ≤ p2.toInt ∧ p2.toInt < 64))]) (by rfl) ?_
      refine lv_if_eq (tgt := 25) hx hb dX9_ready_18 (by decide) (fun c_3 => ?_) (fun c_3 => ?_)
      · have c_3 := bI_0 c_3
        refine lv_iconst (v := 0) hx hb dX9_ready_25 (by decide) ?_
        refine vx_callv (rxS (fun _ => True) (As := [.int 0]) (rest := []) ⟨hx, hb, hml, hown, hts⟩ (c_X9_require l hst E z0 0) (cwS 1 hts (gdS ml_X9_53 st_X9_require in_X9 co_X9_require rfl) rfl rfl rfl (by decide +kernel) ⟨Nat.le_of_ble_eq_true rfl, Nat.le_of_ble_eq_true rfl⟩) trivial (fun U hU hW => hK.go hW hS hAz hU) rfl rfl hl.1 rfl (lv_room (Nat.le_of_ble_eq_true rfl)) dX9_ready_26 ⟨Nat.le_of_ble_eq_true rfl, Nat.le_of_ble_eq_true rfl⟩) hS (fun q _ h => h.elim) (fun q h => h.elim) (fun q _ h => h.elim) (fun En ce q9 _ t H locs ht hvm hw hB hz hk hS hc1 hc2 hc3 => ?_) (fun _ t H locs ht hvm hw hB hz hk hS => ?_)
        · have hT : TH E (T1 E) G [] H := hT.kept (fun q hq => hk q hq (fun h => h))
          subst hB
          exact vx_out (fun x hx => (hne x hx).elim) hlocks hc1 hc2 hc3 (fun t ht hA => ⟨(), trivial, ⟨Or.inl rfl, by show TH E (T1 E) G [] t.heap; rw [ht]; exact hT⟩, hS.F ht⟩) hS.2.2 (Nat.le_of_ble_eq_true rfl) (Nat.le_of_ble_eq_true rfl)
        · have hT : TH E (T1 E) G [] H := hT.kept (fun q hq => hk q hq (fun h => h))
          exact absurd rfl hw
      · have c_3 := bI_n c_3
        refine lv_iconst (v := 1) hx hb dX9_ready_21 (by decide) ?_
        refine lv_goto (tgt := 26) hx hb dX9_ready_22 (by decide) ?_
        refine vx_callv (rxS (fun _ => True) (As := [.int 1]) (rest := []) ⟨hx, hb, hml, hown, hts⟩ (c_X9_require l hst E z0 1) (cwS 1 hts (gdS ml_X9_53 st_X9_require in_X9 co_X9_require rfl) rfl rfl rfl (by decide +kernel) ⟨Nat.le_of_ble_eq_true rfl, Nat.le_of_ble_eq_true rfl⟩) trivial (fun U hU hW => hK.go hW hS hAz hU) rfl rfl hl.1 rfl (lv_room (Nat.le_of_ble_eq_true rfl)) dX9_ready_26 ⟨Nat.le_of_ble_eq_true rfl, Nat.le_of_ble_eq_true rfl⟩) hS (fun q _ h => h.elim) (fun q h => h.elim) (fun q _ h => h.elim) (fun En ce q9 _ t H locs ht hvm hw hB hz hk hS hc1 hc2 hc3 => ?_) (fun _ t H locs ht hvm hw hB hz hk hS => ?_)
        · have hT : TH E (T1 E) G [] H := hT.kept (fun q hq => hk q hq (fun h => h))
          exact absurd hw (by decide)
        · have hT : TH E (T1 E) G [] H := hT.kept (fun q hq => hk q hq (fun h => h))
          refine lv_aload_n hx hb dX9_ready_29 rfl (lv_at hl 0 rfl) ?_
          obtain ⟨v0_4, v1_4, v2_4, ha_4, hg0_4, hg1_4, hg2_4⟩ := tr_1 hT hG
          refine va_get (D := DG E) (ci := 9) (v := .ref v1_4) (C := RX9) (T := TX9) (N := 3) hx hb hts iw_X9 hown hK.1 (va_one ha_4) 0 rfl rfl 1 (by decide) (hts _ fl_X9_29) (fun _ h9 => h9) rfl dX9_ready_30 ?_
          refine lv_iload_n hx hb dX9_ready_33 rfl (lv_at hl 1 rfl) ?_
          obtain ⟨f_5, ha_5, he_5⟩ := tr_3 hT hg1_4
          obtain ⟨j_6, hj_6, ej_6⟩ := vp_in_of (show vp_in p0 4 from vp_in_iff.mpr (by omega)) (by decide)
          obtain ⟨b_6, eb_6, gb_6⟩ := he_5 j_6 hj_6
          have cj_6 : f_5 (p0 : Int32).toNatClampNeg = some b_6 := by rw [ej_6, nI_clamp (by omega)]; exact eb_6
          refine va_aldq (D := DG E) hx hb hK.1 (va_one ha_5) 0 5 rfl rfl (show vp_in p0 4 from vp_in_iff.mpr (by omega)) dX9_ready_34 ?_
          rw [cj_6]
          refine W.eq (g2 := F0 m 35 ls [.ref b_6]) (by rfl) ?_
          obtain ⟨v0_7, v1_7, v2_7, ha_7, hg0_7, hg1_7⟩ := tr_8 hT gb_6
          refine va_get (D := DG E) (ci := 3) (v := .int v2_7) (C := RX3) (T := TX3) (N := 3) hx hb hts iw_X3 hown hK.1 (va_one ha_7) 0 rfl rfl 2 (by decide) (hts _ fl_X9_84) (fun _ h9 => h9) rfl dX9_ready_35 ?_
          refine lv_if_ne (tgt := 45) hx hb dX9_ready_38 (by decide) (fun c_8 => ?_) (fun c_8 => ?_)
          · simp only [lt_I, le_I, eq_I, i_0, i_1, i_2, i_3, i_4, i_5, i_6, i_7, i_8, i_10, i_12, i_16, i_20, i_23, i_24, i_31, i_32, i_63, i_64, i_m1] at c_8
            refine lv_iconst (v := 0) hx hb dX9_ready_45 (by decide) ?_
            refine vx_callv (rxS (fun _ => True) (As := [.int 0]) (rest := []) ⟨hx, hb, hml, hown, hts⟩ (c_X9_requireState l hst E z0 0) (cwS 1 hts (gdS ml_X9_88 st_X9_requireState in_X9 co_X9_requireState rfl) rfl rfl rfl (by decide +kernel) ⟨Nat.le_of_ble_eq_true rfl, Nat.le_of_ble_eq_true rfl⟩) trivial (fun U hU hW => hK.go hW hS hAz hU) rfl rfl hl.1 rfl (lv_room (Nat.le_of_ble_eq_true rfl)) dX9_ready_46 ⟨Nat.le_of_ble_eq_true rfl, Nat.le_of_ble_eq_true rfl⟩) hS (fun q _ h => h.elim) (fun q h => h.elim) (fun q _ h => h.elim) (fun En ce q9 _ t H locs ht hvm hw hB hz hk hS hc1 hc2 hc3 => ?_) (fun _ t H locs ht hvm hw hB hz hk hS => ?_)
            · have hT : TH E (T1 E) G [] H := hT.kept (fun q hq => hk q hq (fun h => h))
              subst hB
              exact vx_out (fun x hx => (hne x hx).elim) hlocks hc1 hc2 hc3 (fun t ht hA => ⟨(), trivial, ⟨Or.inr rfl, by show TH E (T1 E) G [] t.heap; rw [ht]; exact hT⟩, hS.F ht⟩) hS.2.2 (Nat.le_of_ble_eq_true rfl) (Nat.le_of_ble_eq_true rfl)
            · have hT : TH E (T1 E) G [] H := hT.kept (fun q hq => hk q hq (fun h => h))
              exact absurd rfl hw
          · simp only [lt_I, le_I, eq_I, i_0, i_1, i_2, i_3, i_4, i_5, i_6, i_7, i_8, i_10, i_12, i_16, i_20, i_23, i_24, i_31, i_32, i_63, i_64, i_m1] at c_8
            refine lv_iconst (v := 1) hx hb dX9_ready_41 (by decide) ?_
            refine lv_goto (tgt := 46) hx hb dX9_ready_42 (by decide) ?_
            refine vx_callv (rxS (fun _ => True) (As := [.int 1]) (rest := []) ⟨hx, hb, hml, hown, hts⟩ (c_X9_requireState l hst E z0 1) (cwS 1 hts (gdS ml_X9_88 st_X9_requireState in_X9 co_X9_requireState rfl) rfl rfl rfl (by decide +kernel) ⟨Nat.le_of_ble_eq_true rfl, Nat.le_of_ble_eq_true rfl⟩) trivial (fun U hU hW => hK.go hW hS hAz hU) rfl rfl hl.1 rfl (lv_room (Nat.le_of_ble_eq_true rfl)) dX9_ready_46 ⟨Nat.le_of_ble_eq_true rfl, Nat.le_of_ble_eq_true rfl⟩) hS (fun q _ h => h.elim) (fun q h => h.elim) (fun q _ h => h.elim) (fun En ce q9 _ t H locs ht hvm hw hB hz hk hS hc1 hc2 hc3 => ?_) (fun _ t H locs ht hvm hw hB hz hk hS => ?_)
            · have hT : TH E (T1 E) G [] H := hT.kept (fun q hq => hk q hq (fun h => h))
              exact absurd hw (by decide)
            · have hT : TH E (T1 E) G [] H := hT.kept (fun q hq => hk q hq (fun h => h))
              have ha_4 := ha_4.kept (hk _ ha_4.lt (fun h => h))
              have ha_5 := ha_5.kept (hk _ ha_5.lt (fun h => h))
              have ha_7 := ha_7.kept (hk _ ha_7.lt (fun h => h))
              refine lv_aload_n hx hb dX9_ready_49 rfl (lv_at hl 0 rfl) ?_
              refine va_get (D := DG E) (ci := 9) (v := .ref v1_4) (C := RX9) (T := TX9) (N := 3) hx hb hts iw_X9 hown hK.1 (va_one ha_4) 0 rfl rfl 1 (by decide) (hts _ fl_X9_29) (fun _ h9 => h9) rfl dX9_ready_50 ?_
              refine lv_iload_n hx hb dX9_ready_53 rfl (lv_at hl 1 rfl) ?_
              refine va_aldq (D := DG E) hx hb hK.1 (va_one ha_5) 0 5 rfl rfl (show vp_in p0 4 from vp_in_iff.mpr (by omega)) dX9_ready_54 ?_
              rw [cj_6]
              refine W.eq (g2 := F0 m 55 ls [.ref b_6]) (by rfl) ?_
              refine lv_iload_n hx hb dX9_ready_55 rfl (lv_at hl 2 rfl) ?_
              refine lv_iload_n hx hb dX9_ready_56 rfl (lv_at hl 3 rfl) ?_
              refine va_callv (rnV (fun H => TH E (T1 E) G [] H) (As := [.int p1, .int p2]) (rest := []) ⟨hx, hb, hml, hown, hts⟩ (t_X3_start l E z0 G hGz b_6 p1 p2 gb_6) (cwV 2 hts (gdV ml_X9_91 im_X3_start se_X3_X3_start in_X3 co_X3_start rfl) rfl rfl rfl (by decide +kernel) ⟨Nat.le_of_ble_eq_true rfl, Nat.le_of_ble_eq_true rfl⟩) hT (fun U hU hW => hK.go hW hS hAz hU) (va_recv hK.1 (va_one ha_7) (ci := 3) (q0 := 0) rfl rfl) rfl rfl hl.1 rfl (lv_room (Nat.le_of_ble_eq_true rfl)) dX9_ready_57 ⟨Nat.le_of_ble_eq_true rfl, Nat.le_of_ble_eq_true rfl⟩) hS (fun q _ h => mL (L' := [8, 9, 10]) (L := [8, 9, 10]) (by decide) h) (fun q h => mL (L' := [8, 9, 10]) (L := [8, 9, 10]) (by decide) h) (fun _ t H locs ht hvm hwr_9 hB hz hk hS => ?_)
              have hT : TH E (T1 E) G [] H := by rw [ht] at hB; exact hB
              have ha_4 := ha_4.kept (hk _ ha_4.lt (nL hG (by decide)))
              have ha_5 := ha_5.kept (hk _ ha_5.lt (nL hg1_4 (by decide)))
              refine vx_ret ?_
              refine W.widen (k := 2) (n := 12) (Nat.le_of_ble_eq_true rfl) (Nat.le_of_ble_eq_true rfl) ?_
              exact W.vret hx hb hr (fun t ht hW => ⟨⟨(), rfl, trivial, (by show TH E (T1 E) G [] t.heap; rw [ht]; exact hT)⟩, hS.F ht⟩) hS.2.2 dX9_ready_60
theorem dX9_reset_0 : decode cX9_reset 0 = .ok (.iload_n 1, 1) := by decide +kernel
theorem dX9_reset_1 : decode cX9_reset 1 = .ok (.invokestatic 78, 3) := by decide +kernel
theorem dX9_reset_4 : decode cX9_reset 4 = .ok (.ifCond .ne 5, 3) := by decide +kernel
theorem dX9_reset_7 : decode cX9_reset 7 = .ok (.iconst 0, 1) := by decide +kernel
theorem dX9_reset_8 : decode cX9_reset 8 = .ok (.ireturn, 1) := by decide +kernel
theorem dX9_reset_9 : decode cX9_reset 9 = .ok (.aload_n 0, 1) := by decide +kernel
theorem dX9_reset_10 : decode cX9_reset 10 = .ok (.getfield 29, 3) := by decide +kernel
theorem dX9_reset_13 : decode cX9_reset 13 = .ok (.iload_n 1, 1) := by decide +kernel
theorem dX9_reset_14 : decode cX9_reset 14 = .ok (.aaload, 1) := by decide +kernel
theorem dX9_reset_15 : decode cX9_reset 15 = .ok (.invokevirtual 94, 3) := by decide +kernel
theorem dX9_reset_18 : decode cX9_reset 18 = .ok (.iconst 1, 1) := by decide +kernel
theorem dX9_reset_19 : decode cX9_reset 19 = .ok (.ireturn, 1) := by decide +kernel
set_option maxHeartbeats 8000000 in
set_option maxRecDepth 100000 in
theorem t_X9_reset (l : Launch) (E : EE) (z0 : Nat) (G : Nat → Nat) (hGz : ∀ q, G q ≠ 0 → z0 ≤ q) (h0 : Nat) (p0 : Int32) (hG : G h0 = 1) : Met l yX9_reset [Cond.code yX9_reset cX9_reset 2 (some .boolean)] ({ frames := 3, cells := 0, slots := 0, locals := 61 } : Room) (va_Pc [.ref h0, .int p0] (fun U => (TH E (T1 E) G [] U.heap) ∧ KS E z0 U)) (va_Qi (fun (r : Int32) (_ : Unit) => r = bI (0 ≤ p0.toInt ∧ p0.toInt < 4)) (fun _ t => TH E (T1 E) G [] t.heap) (fun q : Nat => G q ∈ ([8, 9, 10, 11, 16, 17] : List Nat))) 0 0 (fun q : Nat => G q ∈ ([8, 9, 10, 11, 16, 17] : List Nat)) := by
  refine Met.ofW (cc := cX9_reset) (maxL := 2) (ret := (some .boolean)) (by decide) rfl ?_
  intro p e s m args below meth c s₁ B hml hv
  obtain ⟨rfl, hT, hK⟩ := hv
  have hx := B.exec
  have hb := B.bytes
  have hr := B.returns
  have hts : ∀ w ∈ TS, w.before ([.ref h0, .int p0] : List Value).toArray s = true := fun w hw => hK.2.1 w hw _
  have hown : s.vm.findClass RX9 = some m.cls := findClass_of_methodNamed B.named
  have hlocks := B.notSynchronized
  have hS : va_S (fun q : Nat => G q ∈ ([8, 9, 10, 11, 16, 17] : List Nat)) s.heap s.heap [] := va_S.rf
  have hAz : ∀ q, (fun q : Nat => G q ∈ ([8, 9, 10, 11, 16, 17] : List Nat)) q → z0 ≤ q := zL hGz (by decide)
  have hl := lv_entry ([.ref h0, .int p0]) (n := 2) (Nat.le_of_ble_eq_true rfl)
  rw [lg_entry_eq]
  generalize (lg_sl ([.ref h0, .int p0]) ++ List.replicate (2 - (lg_sl ([.ref h0, .int p0])).length) Slot.unset).toArray = ls at hl ⊢
  have hl : lv_has ls 2 [(0, .ref h0), (1, .int p0)] := hl
  refine lv_iload_n hx hb dX9_reset_0 rfl (lv_at hl 1 rfl) ?_
  refine W.callR (W.runS (As := [.int p0]) (rest := []) ⟨hx, hb, hml, hown, hts⟩ (c_X9_isPair l p0) (cwS 1 hts (gdS ml_X9_78 st_X9_isPair in_X9 co_X9_isPair rfl) rfl rfl rfl (by decide +kernel) ⟨Nat.le_of_ble_eq_true rfl, Nat.le_of_ble_eq_true rfl⟩) preEq rfl rfl hl.1 rfl (lv_room (Nat.le_of_ble_eq_true rfl)) dX9_reset_1 ⟨Nat.le_of_ble_eq_true rfl, Nat.le_of_ble_eq_true rfl⟩) ?_
  refine W.eq (g2 := F0 m 4 ls [.int (bI (0 ≤ p0.toInt ∧ p0.toInt < 4))]) (by rfl) ?_
  refine lv_if_ne (tgt := 9) hx hb dX9_reset_4 (by decide) (fun c_1 => ?_) (fun c_1 => ?_)
  · have c_1 := bI_n c_1
    refine lv_aload_n hx hb dX9_reset_9 rfl (lv_at hl 0 rfl) ?_
    obtain ⟨v0_2, v1_2, v2_2, ha_2, hg0_2, hg1_2, hg2_2⟩ := tr_1 hT hG
    refine va_get (D := DG E) (ci := 9) (v := .ref v1_2) (C := RX9) (T := TX9) (N := 3) hx hb hts iw_X9 hown hK.1 (va_one ha_2) 0 rfl rfl 1 (by decide) (hts _ fl_X9_29) (fun _ h9 => h9) rfl dX9_reset_10 ?_
    refine lv_iload_n hx hb dX9_reset_13 rfl (lv_at hl 1 rfl) ?_
    obtain ⟨f_3, ha_3, he_3⟩ := tr_3 hT hg1_2
    obtain ⟨j_4, hj_4, ej_4⟩ := vp_in_of (show vp_in p0 4 from vp_in_iff.mpr (by omega)) (by decide)
    obtain ⟨b_4, eb_4, gb_4⟩ := he_3 j_4 hj_4
    have cj_4 : f_3 (p0 : Int32).toNatClampNeg = some b_4 := by rw [ej_4, nI_clamp (by omega)]; exact eb_4
    refine va_aldq (D := DG E) hx hb hK.1 (va_one ha_3) 0 5 rfl rfl (show vp_in p0 4 from vp_in_iff.mpr (by omega)) dX9_reset_14 ?_
    rw [cj_4]
    refine W.eq (g2 := F0 m 15 ls [.ref b_4]) (by rfl) ?_
    obtain ⟨v0_5, v1_5, v2_5, ha_5, hg0_5, hg1_5⟩ := tr_8 hT gb_4
    refine va_callv (rnV (fun H => TH E (T1 E) G [] H) (As := []) (rest := []) ⟨hx, hb, hml, hown, hts⟩ (t_X3_clear l E z0 G hGz b_4 gb_4) (cwV 0 hts (gdV ml_X9_94 im_X3_clear se_X3_X3_clear in_X3 co_X3_clear rfl) rfl rfl rfl (by decide +kernel) ⟨Nat.le_of_ble_eq_true rfl, Nat.le_of_ble_eq_true rfl⟩) hT (fun U hU hW => hK.go hW hS hAz hU) (va_recv hK.1 (va_one ha_5) (ci := 3) (q0 := 0) rfl rfl) rfl rfl hl.1 rfl (lv_room (Nat.le_of_ble_eq_true rfl)) dX9_reset_15 ⟨Nat.le_of_ble_eq_true rfl, Nat.le_of_ble_eq_true rfl⟩) hS (fun q _ h => mL (L' := [8, 9, 10, 11, 16, 17]) (L := [8, 9, 10, 11, 16, 17]) (by decide) h) (fun q h => mL (L' := [8, 9, 10, 11, 16, 17]) (L := [8, 9, 10, 11, 16, 17]) (by decide) h) (fun _ t H locs ht hvm hwr_6 hB hz hk hS => ?_)
    have hT : TH E (T1 E) G [] H := by rw [ht] at hB; exact hB
    have ha_2 := ha_2.kept (hk _ ha_2.lt (nL hG (by decide)))
    have ha_3 := ha_3.kept (hk _ ha_3.lt (nL hg1_2 (by decide)))
    refine lv_iconst (v := 1) hx hb dX9_reset_18 (by decide) ?_
    exact W.zret (v := 1) (ty := .boolean) hx hb hr rfl (fun t ht hW => ⟨⟨1, (), rfl, (by rw [bI_t (by omega)]), (by show TH E (T1 E) G [] t.heap; rw [ht]; exact hT)⟩, hS.F ht⟩) hS.2.2 dX9_reset_19
  · have c_1 := bI_0 c_1
    refine lv_iconst (v := 0) hx hb dX9_reset_7 (by decide) ?_
    exact W.zret (v := 0) (ty := .boolean) hx hb hr rfl (fun t ht hW => ⟨⟨0, (), rfl, (by rw [bI_f (by omega)]), (by show TH E (T1 E) G [] t.heap; rw [ht]; exact hT)⟩, hS.F ht⟩) hS.2.2 dX9_reset_8
theorem dX9_send_0 : decode cX9_send 0 = .ok (.iload_n 1, 1) := by decide +kernel
theorem dX9_send_1 : decode cX9_send 1 = .ok (.invokestatic 78, 3) := by decide +kernel
theorem dX9_send_4 : decode cX9_send 4 = .ok (.ifCond .eq 15, 3) := by decide +kernel
theorem dX9_send_7 : decode cX9_send 7 = .ok (.iload_n 2, 1) := by decide +kernel
theorem dX9_send_8 : decode cX9_send 8 = .ok (.iload_n 3, 1) := by decide +kernel
theorem dX9_send_9 : decode cX9_send 9 = .ok (.invokestatic 97, 3) := by decide +kernel
theorem dX9_send_12 : decode cX9_send 12 = .ok (.ifCond .eq 7, 3) := by decide +kernel
theorem dX9_send_15 : decode cX9_send 15 = .ok (.iconst 1, 1) := by decide +kernel
theorem dX9_send_16 : decode cX9_send 16 = .ok (.goto 4, 3) := by decide +kernel
theorem dX9_send_19 : decode cX9_send 19 = .ok (.iconst 0, 1) := by decide +kernel
theorem dX9_send_20 : decode cX9_send 20 = .ok (.invokestatic 53, 3) := by decide +kernel
theorem dX9_send_23 : decode cX9_send 23 = .ok (.aload_n 0, 1) := by decide +kernel
theorem dX9_send_24 : decode cX9_send 24 = .ok (.getfield 29, 3) := by decide +kernel
theorem dX9_send_27 : decode cX9_send 27 = .ok (.iload_n 1, 1) := by decide +kernel
theorem dX9_send_28 : decode cX9_send 28 = .ok (.aaload, 1) := by decide +kernel
theorem dX9_send_29 : decode cX9_send 29 = .ok (.invokevirtual 101, 3) := by decide +kernel
theorem dX9_send_32 : decode cX9_send 32 = .ok (.invokestatic 88, 3) := by decide +kernel
theorem dX9_send_35 : decode cX9_send 35 = .ok (.aload_n 0, 1) := by decide +kernel
theorem dX9_send_36 : decode cX9_send 36 = .ok (.getfield 29, 3) := by decide +kernel
theorem dX9_send_39 : decode cX9_send 39 = .ok (.iload_n 1, 1) := by decide +kernel
theorem dX9_send_40 : decode cX9_send 40 = .ok (.aaload, 1) := by decide +kernel
theorem dX9_send_41 : decode cX9_send 41 = .ok (.getfield 105, 3) := by decide +kernel
theorem dX9_send_44 : decode cX9_send 44 = .ok (.iconst 0, 1) := by decide +kernel
theorem dX9_send_45 : decode cX9_send 45 = .ok (.iload_n 2, 1) := by decide +kernel
theorem dX9_send_46 : decode cX9_send 46 = .ok (.iload_n 3, 1) := by decide +kernel
theorem dX9_send_47 : decode cX9_send 47 = .ok (.iconst (-1), 1) := by decide +kernel
theorem dX9_send_48 : decode cX9_send 48 = .ok (.iconst (-1), 1) := by decide +kernel
theorem dX9_send_49 : decode cX9_send 49 = .ok (.iconst 0, 1) := by decide +kernel
theorem dX9_send_50 : decode cX9_send 50 = .ok (.invokevirtual 109, 3) := by decide +kernel
theorem dX9_send_53 : decode cX9_send 53 = .ok (.ireturn, 1) := by decide +kernel
set_option maxHeartbeats 8000000 in
set_option maxRecDepth 100000 in
theorem t_X9_send (l : Launch) (hst : l.stackTraces = false) (E : EE) (z0 : Nat) (G : Nat → Nat) (hGz : ∀ q, G q ≠ 0 → z0 ≤ q) (h0 : Nat) (p0 : Int32) (p1 : Int32) (p2 : Int32) (hG : G h0 = 1) : vx_Met l yX9_send [Cond.code yX9_send cX9_send 4 (some .int)] ({ frames := 7, cells := 2, slots := 12, locals := 101 } : Room) (va_Pc [.ref h0, .int p0, .int p1, .int p2] (fun U => (TH E (T1 E) G [] U.heap) ∧ KS E z0 U)) (va_Qi (fun (r : Int32) (_ : Unit) => True) (fun _ t => TH E (T1 E) G [] t.heap) (fun q : Nat => G q ∈ ([9, 11, 13] : List Nat))) (vx_X (fun (_ : Unit) => True) (fun En _ t => (En = IAE ∨ En = ISE) ∧ TH E (T1 E) G [] t.heap) (fun q : Nat => G q ∈ ([9, 11, 13] : List Nat))) 2 12 (fun q : Nat => G q ∈ ([9, 11, 13] : List Nat)) := by
  refine vx_ofW (cc := cX9_send) (maxL := 4) (ret := (some .int)) (by decide) rfl ?_
  intro p e s m args below meth c s₁ B hml hne hv
  obtain ⟨rfl, hT, hK⟩ := hv
  have hx := B.exec
  have hb := B.bytes
  have hr := B.returns
  have hts : ∀ w ∈ TS, w.before ([.ref h0, .int p0, .int p1, .int p2] : List Value).toArray s = true := fun w hw => hK.2.1 w hw _
  have hown : s.vm.findClass RX9 = some m.cls := findClass_of_methodNamed B.named
  have hlocks := B.notSynchronized
  have hS : va_S (fun q : Nat => G q ∈ ([9, 11, 13] : List Nat)) s.heap s.heap [] := va_S.rf
  have hAz : ∀ q, (fun q : Nat => G q ∈ ([9, 11, 13] : List Nat)) q → z0 ≤ q := zL hGz (by decide)
  have hl := lv_entry ([.ref h0, .int p0, .int p1, .int p2]) (n := 4) (Nat.le_of_ble_eq_true rfl)
  rw [lg_entry_eq]
  generalize (lg_sl ([.ref h0, .int p0, .int p1, .int p2]) ++ List.replicate (4 - (lg_sl ([.ref h0, .int p0, .int p1, .int p2])).length) Slot.unset).toArray = ls at hl ⊢
  have hl : lv_has ls 4 [(0, .ref h0), (1, .int p0), (2, .int p1), (3, .int p2)] := hl
  refine lv_iload_n hx hb dX9_send_0 rfl (lv_at hl 1 rfl) ?_
  refine W.callR (W.runS (As := [.int p0]) (rest := []) ⟨hx, hb, hml, hown, hts⟩ (c_X9_isPair l p0) (cwS 1 hts (gdS ml_X9_78 st_X9_isPair in_X9 co_X9_isPair rfl) rfl rfl rfl (by decide +kernel) ⟨Nat.le_of_ble_eq_true rfl, Nat.le_of_ble_eq_true rfl⟩) preEq rfl rfl hl.1 rfl (lv_room (Nat.le_of_ble_eq_true rfl)) dX9_send_1 ⟨Nat.le_of_ble_eq_true rfl, Nat.le_of_ble_eq_true rfl⟩) ?_
  refine W.eq (g2 := F0 m 4 ls [.int (bI (0 ≤ p0.toInt ∧ p0.toInt < 4))]) (by rfl) ?_
  refine lv_if_eq (tgt := 19) hx hb dX9_send_4 (by decide) (fun c_1 => ?_) (fun c_1 => ?_)
  · have c_1 := bI_0 c_1
    refine lv_iconst (v := 0) hx hb dX9_send_19 (by decide) ?_
    refine vx_callv (rxS (fun _ => True) (As := [.int 0]) (rest := []) ⟨hx, hb, hml, hown, hts⟩ (c_X9_require l hst E z0 0) (cwS 1 hts (gdS ml_X9_53 st_X9_require in_X9 co_X9_require rfl) rfl rfl rfl (by decide +kernel) ⟨Nat.le_of_ble_eq_true rfl, Nat.le_of_ble_eq_true rfl⟩) trivial (fun U hU hW => hK.go hW hS hAz hU) rfl rfl hl.1 rfl (lv_room (Nat.le_of_ble_eq_true rfl)) dX9_send_20 ⟨Nat.le_of_ble_eq_true rfl, Nat.le_of_ble_eq_true rfl⟩) hS (fun q _ h => h.elim) (fun q h => h.elim) (fun q _ h => h.elim) (fun En ce q9 _ t H locs ht hvm hw hB hz hk hS hc1 hc2 hc3 => ?_) (fun _ t H locs ht hvm hw hB hz hk hS => ?_)
    · have hT : TH E (T1 E) G [] H := hT.kept (fun q hq => hk q hq (fun h => h))
      subst hB
      exact vx_out (fun x hx => (hne x hx).elim) hlocks hc1 hc2 hc3 (fun t ht hA => ⟨(), trivial, ⟨Or.inl rfl, by show TH E (T1 E) G [] t.heap; rw [ht]; exact hT⟩, hS.F ht⟩) hS.2.2 (Nat.le_of_ble_eq_true rfl) (Nat.le_of_ble_eq_true rfl)
    · have hT : TH E (T1 E) G [] H := hT.kept (fun q hq => hk q hq (fun h => h))
      exact absurd rfl hw
  · have c_1 := bI_n c_1
    refine lv_iload_n hx hb dX9_send_7 rfl (lv_at hl 2 rfl) ?_
    refine lv_iload_n hx hb dX9_send_8 rfl (lv_at hl 3 rfl) ?_
    refine W.callR (W.runS (As := [.int p1, .int p2]) (rest := []) ⟨hx, hb, hml, hown, hts⟩ (c_X9_areCells l p1 p2) (cwS 2 hts (gdS ml_X9_97 st_X9_areCells in_X9 co_X9_areCells rfl) rfl rfl rfl (by decide +kernel) ⟨Nat.le_of_ble_eq_true rfl, Nat.le_of_ble_eq_true rfl⟩) preEq rfl rfl hl.1 rfl (lv_room (Nat.le_of_ble_eq_true rfl)) dX9_send_9 ⟨Nat.le_of_ble_eq_true rfl, Nat.le_of_ble_eq_true rfl⟩) ?_
    refine W.eq (g2 := F0 m 12 ls [.int (bI (1 ≤ p2.toInt ∧ p2.toInt ≤ 12 ∧ 0 ≤ p1.toInt ∧ p1.toInt ≤ 32 - p2.toInt))]) (by rfl) ?_
    refine lv_if_eq (tgt := 19) hx hb dX9_send_12 (by decide) (fun c_2 => ?_) (fun c_2 => ?_)
    · have c_2 := bI_0 c_2
      refine lv_iconst (v := 0) hx hb dX9_send_19 (by decide) ?_
      refine vx_callv (rxS (fun _ => True) (As := [.int 0]) (rest := []) ⟨hx, hb, hml, hown, hts⟩ (c_X9_require l hst E z0 0) (cwS 1 hts (gdS ml_X9_53 st_X9_require in_X9 co_X9_require rfl) rfl rfl rfl (by decide +kernel) ⟨Nat.le_of_ble_eq_true rfl, Nat.le_of_ble_eq_true rfl⟩) trivial (fun U hU hW => hK.go hW hS hAz hU) rfl rfl hl.1 rfl (lv_room (Nat.le_of_ble_eq_true rfl)) dX9_send_20 ⟨Nat.le_of_ble_eq_true rfl, Nat.le_of_ble_eq_true rfl⟩) hS (fun q _ h => h.elim) (fun q h => h.elim) (fun q _ h => h.elim) (fun En ce q9 _ t H locs ht hvm hw hB hz hk hS hc1 hc2 hc3 => ?_) (fun _ t H locs ht hvm hw hB hz hk hS => ?_)
      · have hT : TH E (T1 E) G [] H := hT.kept (fun q hq => hk q hq (fun h => h))
        subst hB
        exact vx_out (fun x hx => (hne x hx).elim) hlocks hc1 hc2 hc3 (fun t ht hA => ⟨(), trivial, ⟨Or.inl rfl, by show TH E (T1 E) G [] t.heap; rw [ht]; exact hT⟩, hS.F ht⟩) hS.2.2 (Nat.le_of_ble_eq_true rfl) (Nat.le_of_ble_eq_true rfl)
      · have hT : TH E (T1 E) G [] H := hT.kept (fun q hq => hk q hq (fun h => h))
        exact absurd rfl hw
    · have c_2 := bI_n c_2
      refine lv_iconst (v := 1) hx hb dX9_send_15 (by decide) ?_
      refine lv_goto (tgt := 20) hx hb dX9_send_16 (by decide) ?_
      refine vx_callv (rxS (fun _ => True) (As := [.int 1]) (rest := []) ⟨hx, hb, hml, hown, hts⟩ (c_X9_require l hst E z0 1) (cwS 1 hts (gdS ml_X9_53 st_X9_require in_X9 co_X9_require rfl) rfl rfl rfl (by decide +kernel) ⟨Nat.le_of_ble_eq_true rfl, Nat.le_of_ble_eq_true rfl⟩) trivial (fun U hU hW => hK.go hW hS hAz hU) rfl rfl hl.1 rfl (lv_room (Nat.le_of_ble_eq_true rfl)) dX9_send_20 ⟨Nat.le_of_ble_eq_true rfl, Nat.le_of_ble_eq_true rfl⟩) hS (fun q _ h => h.elim) (fun q h => h.elim) (fun q _ h => h.elim) (fun En ce q9 _ t H locs ht hvm hw hB hz hk hS hc1 hc2 hc3 => ?_) (fun _ t H locs ht hvm hw hB hz hk hS => ?_)
      · have hT : TH E (T1 E) G [] H := hT.kept (fun q hq => hk q hq (fun h => h))
        exact absurd hw (by decide)
      · have hT : TH E (T1 E) G [] H := hT.kept (fun q hq => hk q hq (fun h => h))
        refine lv_aload_n hx hb dX9_send_23 rfl (lv_at hl 0 rfl) ?_
        obtain ⟨v0_3, v1_3, v2_3, ha_3, hg0_3, hg1_3, hg2_3⟩ := tr_1 hT hG
        refine va_get (D := DG E) (ci := 9) (v := .ref v1_3) (C := RX9) (T := TX9) (N := 3) hx hb hts iw_X9 hown hK.1 (va_one ha_3) 0 rfl rfl 1 (by decide) (hts _ fl_X9_29) (fun _ h9 => h9) rfl dX9_send_24 ?_
        refine lv_iload_n hx hb dX9_send_27 rfl (lv_at hl 1 rfl) ?_
        obtain ⟨f_4, ha_4, he_4⟩ := tr_3 hT hg1_3
        obtain ⟨j_5, hj_5, ej_5⟩ := vp_in_of (show vp_in p0 4 from vp_in_iff.mpr (by omega)) (by decide)
        obtain ⟨b_5, eb_5, gb_5⟩ := he_4 j_5 hj_5
        have cj_5 : f_4 (p0 : Int32).toNatClampNeg = some b_5 := by rw [ej_5, nI_clamp (by omega)]; exact eb_5
        refine va_aldq (D := DG E) hx hb hK.1 (va_one ha_4) 0 5 rfl rfl (show vp_in p0 4 from vp_in_iff.mpr (by omega)) dX9_send_28 ?_
        rw [cj_5]
        refine W.eq (g2 := F0 m 29 ls [.ref b_5]) (by rfl) ?_
        obtain ⟨v0_6, v1_6, v2_6, ha_6, hg0_6, hg1_6⟩ := tr_8 hT gb_5
        obtain ⟨v0_7, v1_7, v2_7, v3_7, v4_7, v5_7, v6_7, v7_7, v8_7, v9_7, v10_7, v11_7, v12_7, v13_7, ha_7, hb0_7, hg1_7, hg2_7, hg6_7⟩ := tr_9 hT hg0_6
        obtain ⟨v0_8, v1_8, v2_8, v3_8, v4_8, v5_8, ha_8, hg1_8, hg2_8, hb3_8, hb4_8⟩ := tr_11 hT hg6_7
        refine va_calli (rnV (fun H => TH E (T1 E) G [] H ∧ va_at (DG E) vwCl (b_5, .inr (3, [.ref v0_6, .ref v1_6, .int v2_6])) H ∧ va_at (DG E) vwCl (v0_6, .inr (7, [.int v0_7, .ref v1_7, .ref v2_7, .int v3_7, .int v4_7, .int v5_7, .ref v6_7, .int v7_7, .int v8_7, .int v9_7, .int v10_7, .int v11_7, .int v12_7, .int v13_7])) H ∧ va_at (DG E) vwCl (v6_7, .inr (5, [.int v0_8, .ref v1_8, .ref v2_8, .int v3_8, .int v4_8, .int v5_8])) H) (As := []) (rest := []) ⟨hx, hb, hml, hown, hts⟩ (t_X3_takesRequests l E z0 G hGz b_5 gb_5 v0_6 v1_6 v2_6 hg0_6 hg1_6 v0_7 v1_7 v2_7 v3_7 v4_7 v5_7 v6_7 v7_7 v8_7 v9_7 v10_7 v11_7 v12_7 v13_7 hg1_7 hg2_7 hg6_7 (by omega) v0_8 v1_8 v2_8 v3_8 v4_8 v5_8 hg1_8 hg2_8 (by omega) (by omega)) (cwV 0 hts (gdV ml_X9_101 im_X3_takesRequests se_X3_X3_takesRequests in_X3 co_X3_takesRequests rfl) rfl rfl rfl (by decide +kernel) ⟨Nat.le_of_ble_eq_true rfl, Nat.le_of_ble_eq_true rfl⟩) ⟨hT, ha_6, ha_7, ha_8⟩ (fun U hU hW => hK.go hW hS hAz hU) (va_recv hK.1 (va_one ha_6) (ci := 3) (q0 := 0) rfl rfl) rfl rfl hl.1 rfl (lv_room (Nat.le_of_ble_eq_true rfl)) dX9_send_29 ⟨Nat.le_of_ble_eq_true rfl, Nat.le_of_ble_eq_true rfl⟩) hS (fun q _ h => h.elim) (fun q h => h.elim) (fun r_9 _ t H locs ht hvm hwr_9 hB hz hk hS => ?_)
        have hT : TH E (T1 E) G [] H := hT.kept (fun q hq => hk q hq (fun h => h))
        have ha_3 := ha_3.kept (hk _ ha_3.lt (fun h => h))
        have ha_4 := ha_4.kept (hk _ ha_4.lt (fun h => h))
        have ha_6 := ha_6.kept (hk _ ha_6.lt (fun h => h))
        have ha_7 := ha_7.kept (hk _ ha_7.lt (fun h => h))
        have ha_8 := ha_8.kept (hk _ ha_8.lt (fun h => h))
        have hzr_9 := s_rng hwr_9.1
        refine vx_callv (rxS (fun _ => True) (As := [.int r_9]) (rest := []) ⟨hx, hb, hml, hown, hts⟩ (c_X9_requireState l hst E z0 r_9) (cwS 1 hts (gdS ml_X9_88 st_X9_requireState in_X9 co_X9_requireState rfl) rfl rfl rfl (by decide +kernel) ⟨Nat.le_of_ble_eq_true rfl, Nat.le_of_ble_eq_true rfl⟩) trivial (fun U hU hW => hK.go hW hS hAz hU) rfl rfl hl.1 rfl (lv_room (Nat.le_of_ble_eq_true rfl)) dX9_send_32 ⟨Nat.le_of_ble_eq_true rfl, Nat.le_of_ble_eq_true rfl⟩) hS (fun q _ h => h.elim) (fun q h => h.elim) (fun q _ h => h.elim) (fun En ce q9 _ t H locs ht hvm hw hB hz hk hS hc1 hc2 hc3 => ?_) (fun _ t H locs ht hvm hw hB hz hk hS => ?_)
        · have hT : TH E (T1 E) G [] H := hT.kept (fun q hq => hk q hq (fun h => h))
          simp only [lt_I, le_I, eq_I, i_0, i_1, i_2, i_3, i_4, i_5, i_6, i_7, i_8, i_10, i_12, i_16, i_20, i_23, i_24, i_31, i_32, i_63, i_64, i_m1] at hw
          subst hB
          exact vx_out (fun x hx => (hne x hx).elim) hlocks hc1 hc2 hc3 (fun t ht hA => ⟨(), trivial, ⟨Or.inr rfl, by show TH E (T1 E) G [] t.heap; rw [ht]; exact hT⟩, hS.F ht⟩) hS.2.2 (Nat.le_of_ble_eq_true rfl) (Nat.le_of_ble_eq_true rfl)
        · have hT : TH E (T1 E) G [] H := hT.kept (fun q hq => hk q hq (fun h => h))
          simp only [lt_I, le_I, eq_I, i_0, i_1, i_2, i_3, i_4, i_5, i_6, i_7, i_8, i_10, i_12, i_16, i_20, i_23, i_24, i_31, i_32, i_63, i_64, i_m1] at hw
          have ha_3 := ha_3.kept (hk _ ha_3.lt (fun h => h))
          have ha_4 := ha_4.kept (hk _ ha_4.lt (fun h => h))
          have ha_6 := ha_6.kept (hk _ ha_6.lt (fun h => h))
          have ha_7 := ha_7.kept (hk _ ha_7.lt (fun h => h))
          have ha_8 := ha_8.kept (hk _ ha_8.lt (fun h => h))
          refine lv_aload_n hx hb dX9_send_35 rfl (lv_at hl 0 rfl) ?_
          refine va_get (D := DG E) (ci := 9) (v := .ref v1_3) (C := RX9) (T := TX9) (N := 3) hx hb hts iw_X9 hown hK.1 (va_one ha_3) 0 rfl rfl 1 (by decide) (hts _ fl_X9_29) (fun _ h9 => h9) rfl dX9_send_36 ?_
          refine lv_iload_n hx hb dX9_send_39 rfl (lv_at hl 1 rfl) ?_
          refine va_aldq (D := DG E) hx hb hK.1 (va_one ha_4) 0 5 rfl rfl (show vp_in p0 4 from vp_in_iff.mpr (by omega)) dX9_send_40 ?_
          rw [cj_5]
          refine W.eq (g2 := F0 m 41 ls [.ref b_5]) (by rfl) ?_
          refine va_get (D := DG E) (ci := 3) (v := .ref v0_6) (C := RX3) (T := TX3) (N := 3) hx hb hts iw_X3 hown hK.1 (va_one ha_6) 0 rfl rfl 0 (by decide) (hts _ fl_X9_105) (fun _ h9 => h9) rfl dX9_send_41 ?_
          refine lv_iconst (v := 0) hx hb dX9_send_44 (by decide) ?_
          refine lv_iload_n hx hb dX9_send_45 rfl (lv_at hl 2 rfl) ?_
          refine lv_iload_n hx hb dX9_send_46 rfl (lv_at hl 3 rfl) ?_
          refine lv_iconst (v := (-1)) hx hb dX9_send_47 (by decide) ?_
          refine lv_iconst (v := (-1)) hx hb dX9_send_48 (by decide) ?_
          refine lv_iconst (v := 0) hx hb dX9_send_49 (by decide) ?_
          refine va_calli (rnV (fun H => TH E (T1 E) G [] H ∧ va_at (DG E) vwCl (v0_6, .inr (7, [.int v0_7, .ref v1_7, .ref v2_7, .int v3_7, .int v4_7, .int v5_7, .ref v6_7, .int v7_7, .int v8_7, .int v9_7, .int v10_7, .int v11_7, .int v12_7, .int v13_7])) H ∧ va_at (DG E) vwCl (v6_7, .inr (5, [.int v0_8, .ref v1_8, .ref v2_8, .int v3_8, .int v4_8, .int v5_8])) H) (As := [.int 0, .int p1, .int p2, .int (-1), .int (-1), .int 0]) (rest := []) ⟨hx, hb, hml, hown, hts⟩ (t_X7_post l E z0 G hGz v0_6 0 p1 p2 (-1) (-1) 0 hg0_6 v0_7 v1_7 v2_7 v3_7 v4_7 v5_7 v6_7 v7_7 v8_7 v9_7 v10_7 v11_7 v12_7 v13_7 hg1_7 hg2_7 hg6_7 (by omega) v0_8 v1_8 v2_8 v3_8 v4_8 v5_8 hg1_8 hg2_8 (by omega) (by omega) (by have := i_0; have := i_m1; have := i_m1; have := i_0; first | omega | decide) (by have := i_0; have := i_m1; have := i_m1; have := i_0; first | omega | decide)) (cwV 6 hts (gdV ml_X9_109 im_X7_post se_X7_X7_post in_X7 co_X7_post rfl) rfl rfl rfl (by decide +kernel) ⟨Nat.le_of_ble_eq_true rfl, Nat.le_of_ble_eq_true rfl⟩) ⟨hT, ha_7, ha_8⟩ (fun U hU hW => hK.go hW hS hAz hU) (va_recv hK.1 (va_one ha_7) (ci := 7) (q0 := 0) rfl rfl) rfl rfl hl.1 rfl (lv_room (Nat.le_of_ble_eq_true rfl)) dX9_send_50 ⟨Nat.le_of_ble_eq_true rfl, Nat.le_of_ble_eq_true rfl⟩) hS (fun q _ h => mL (L' := [9, 11, 13]) (L := [9, 11, 13]) (by decide) h) (fun q h => mL (L' := [9, 11, 13]) (L := [9, 11, 13]) (by decide) h) (fun r_10 _ t H locs ht hvm hwr_10 hB hz hk hS => ?_)
          have hT : TH E (T1 E) G [] H := by rw [ht] at hB; exact hB
          have ha_3 := ha_3.kept (hk _ ha_3.lt (nL hG (by decide)))
          have ha_4 := ha_4.kept (hk _ ha_4.lt (nL hg1_3 (by decide)))
          have ha_6 := ha_6.kept (hk _ ha_6.lt (nL gb_5 (by decide)))
          refine vx_ret ?_
          refine W.widen (k := 2) (n := 12) (Nat.le_of_ble_eq_true rfl) (Nat.le_of_ble_eq_true rfl) ?_
          exact W.iret (v := r_10) hx hb hr (fun t ht hW => ⟨⟨r_10, (), rfl, trivial, (by show TH E (T1 E) G [] t.heap; rw [ht]; exact hT)⟩, hS.F ht⟩) hS.2.2 dX9_send_53
theorem dX9_move_0 : decode cX9_move 0 = .ok (.iload_n 1, 1) := by decide +kernel
theorem dX9_move_1 : decode cX9_move 1 = .ok (.invokestatic 78, 3) := by decide +kernel
theorem dX9_move_4 : decode cX9_move 4 = .ok (.ifCond .eq 32, 3) := by decide +kernel
theorem dX9_move_7 : decode cX9_move 7 = .ok (.iload_n 3, 1) := by decide +kernel
theorem dX9_move_8 : decode cX9_move 8 = .ok (.iload 4, 2) := by decide +kernel
theorem dX9_move_10 : decode cX9_move 10 = .ok (.invokestatic 97, 3) := by decide +kernel
theorem dX9_move_13 : decode cX9_move 13 = .ok (.ifCond .eq 23, 3) := by decide +kernel
theorem dX9_move_16 : decode cX9_move 16 = .ok (.iload 5, 2) := by decide +kernel
theorem dX9_move_18 : decode cX9_move 18 = .ok (.invokestatic 50, 3) := by decide +kernel
theorem dX9_move_21 : decode cX9_move 21 = .ok (.ifCond .eq 15, 3) := by decide +kernel
theorem dX9_move_24 : decode cX9_move 24 = .ok (.iload 6, 2) := by decide +kernel
theorem dX9_move_26 : decode cX9_move 26 = .ok (.invokestatic 67, 3) := by decide +kernel
theorem dX9_move_29 : decode cX9_move 29 = .ok (.ifCond .eq 7, 3) := by decide +kernel
theorem dX9_move_32 : decode cX9_move 32 = .ok (.iconst 1, 1) := by decide +kernel
theorem dX9_move_33 : decode cX9_move 33 = .ok (.goto 4, 3) := by decide +kernel
theorem dX9_move_36 : decode cX9_move 36 = .ok (.iconst 0, 1) := by decide +kernel
theorem dX9_move_37 : decode cX9_move 37 = .ok (.invokestatic 53, 3) := by decide +kernel
theorem dX9_move_40 : decode cX9_move 40 = .ok (.aload_n 0, 1) := by decide +kernel
theorem dX9_move_41 : decode cX9_move 41 = .ok (.getfield 29, 3) := by decide +kernel
theorem dX9_move_44 : decode cX9_move 44 = .ok (.iload_n 1, 1) := by decide +kernel
theorem dX9_move_45 : decode cX9_move 45 = .ok (.aaload, 1) := by decide +kernel
theorem dX9_move_46 : decode cX9_move 46 = .ok (.invokevirtual 101, 3) := by decide +kernel
theorem dX9_move_49 : decode cX9_move 49 = .ok (.invokestatic 88, 3) := by decide +kernel
theorem dX9_move_52 : decode cX9_move 52 = .ok (.aload_n 0, 1) := by decide +kernel
theorem dX9_move_53 : decode cX9_move 53 = .ok (.getfield 29, 3) := by decide +kernel
theorem dX9_move_56 : decode cX9_move 56 = .ok (.iload_n 1, 1) := by decide +kernel
theorem dX9_move_57 : decode cX9_move 57 = .ok (.aaload, 1) := by decide +kernel
theorem dX9_move_58 : decode cX9_move 58 = .ok (.getfield 105, 3) := by decide +kernel
theorem dX9_move_61 : decode cX9_move 61 = .ok (.iload_n 2, 1) := by decide +kernel
theorem dX9_move_62 : decode cX9_move 62 = .ok (.ifCond .eq 7, 3) := by decide +kernel
theorem dX9_move_65 : decode cX9_move 65 = .ok (.iconst 2, 1) := by decide +kernel
theorem dX9_move_66 : decode cX9_move 66 = .ok (.goto 4, 3) := by decide +kernel
theorem dX9_move_69 : decode cX9_move 69 = .ok (.iconst 1, 1) := by decide +kernel
theorem dX9_move_70 : decode cX9_move 70 = .ok (.iload_n 3, 1) := by decide +kernel
theorem dX9_move_71 : decode cX9_move 71 = .ok (.iload 4, 2) := by decide +kernel
theorem dX9_move_73 : decode cX9_move 73 = .ok (.iload 5, 2) := by decide +kernel
theorem dX9_move_75 : decode cX9_move 75 = .ok (.iload 6, 2) := by decide +kernel
theorem dX9_move_77 : decode cX9_move 77 = .ok (.iconst 0, 1) := by decide +kernel
theorem dX9_move_78 : decode cX9_move 78 = .ok (.invokevirtual 109, 3) := by decide +kernel
theorem dX9_move_81 : decode cX9_move 81 = .ok (.ireturn, 1) := by decide +kernel
set_option maxHeartbeats 8000000 in
set_option maxRecDepth 100000 in
theorem t_X9_move (l : Launch) (hst : l.stackTraces = false) (E : EE) (z0 : Nat) (G : Nat → Nat) (hGz : ∀ q, G q ≠ 0 → z0 ≤ q) (h0 : Nat) (p0 : Int32) (p1 : Int32) (p2 : Int32) (p3 : Int32) (p4 : Int32) (p5 : Int32) (hG : G h0 = 1) : vx_Met l yX9_move [Cond.code yX9_move cX9_move 7 (some .int)] ({ frames := 7, cells := 2, slots := 12, locals := 101 } : Room) (va_Pc [.ref h0, .int p0, .int p1, .int p2, .int p3, .int p4, .int p5] (fun U => (TH E (T1 E) G [] U.heap) ∧ KS E z0 U)) (va_Qi (fun (r : Int32) (_ : Unit) => True) (fun _ t => TH E (T1 E) G [] t.heap) (fun q : Nat => G q ∈ ([9, 11, 13] : List Nat))) (vx_X (fun (_ : Unit) => True) (fun En _ t => (En = IAE ∨ En = ISE) ∧ TH E (T1 E) G [] t.heap) (fun q : Nat => G q ∈ ([9, 11, 13] : List Nat))) 2 12 (fun q : Nat => G q ∈ ([9, 11, 13] : List Nat)) := by
  refine vx_ofW (cc := cX9_move) (maxL := 7) (ret := (some .int)) (by decide) rfl ?_
  intro p e s m args below meth c s₁ B hml hne hv
  obtain ⟨rfl, hT, hK⟩ := hv
  have hx := B.exec
  have hb := B.bytes
  have hr := B.returns
  have hts : ∀ w ∈ TS, w.before ([.ref h0, .int p0, .int p1, .int p2, .int p3, .int p4, .int p5] : List Value).toArray s = true := fun w hw => hK.2.1 w hw _
  have hown : s.vm.findClass RX9 = some m.cls := findClass_of_methodNamed B.named
  have hlocks := B.notSynchronized
  have hS : va_S (fun q : Nat => G q ∈ ([9, 11, 13] : List Nat)) s.heap s.heap [] := va_S.rf
  have hAz : ∀ q, (fun q : Nat => G q ∈ ([9, 11, 13] : List Nat)) q → z0 ≤ q := zL hGz (by decide)
  have hl := lv_entry ([.ref h0, .int p0, .int p1, .int p2, .int p3, .int p4, .int p5]) (n := 7) (Nat.le_of_ble_eq_true rfl)
  rw [lg_entry_eq]
  generalize (lg_sl ([.ref h0, .int p0, .int p1, .int p2, .int p3, .int p4, .int p5]) ++ List.replicate (7 - (lg_sl ([.ref h0, .int p0, .int p1, .int p2, .int p3, .int p4, .int p5])).length) Slot.unset).toArray = ls at hl ⊢
  have hl : lv_has ls 7 [(0, .ref h0), (1, .int p0), (2, .int p1), (3, .int p2), (4, .int p3), (5, .int p4), (6, .int p5)] := hl
  refine lv_iload_n hx hb dX9_move_0 rfl (lv_at hl 1 rfl) ?_
  refine W.callR (W.runS (As := [.int p0]) (rest := []) ⟨hx, hb, hml, hown, hts⟩ (c_X9_isPair l p0) (cwS 1 hts (gdS ml_X9_78 st_X9_isPair in_X9 co_X9_isPair rfl) rfl rfl rfl (by decide +kernel) ⟨Nat.le_of_ble_eq_true rfl, Nat.le_of_ble_eq_true rfl⟩) preEq rfl rfl hl.1 rfl (lv_room (Nat.le_of_ble_eq_true rfl)) dX9_move_1 ⟨Nat.le_of_ble_eq_true rfl, Nat.le_of_ble_eq_true rfl⟩) ?_
  refine W.eq (g2 := F0 m 4 ls [.int (bI (0 ≤ p0.toInt ∧ p0.toInt < 4))]) (by rfl) ?_
  refine lv_if_eq (tgt := 36) hx hb dX9_move_4 (by decide) (fun c_1 => ?_) (fun c_1 => ?_)
  · have c_1 := bI_0 c_1
    refine lv_iconst (v := 0) hx hb dX9_move_36 (by decide) ?_
    refine vx_callv (rxS (fun _ => True) (As := [.int 0]) (rest := []) ⟨hx, hb, hml, hown, hts⟩ (c_X9_require l hst E z0 0) (cwS 1 hts (gdS ml_X9_53 st_X9_require in_X9 co_X9_require rfl) rfl rfl rfl (by decide +kernel) ⟨Nat.le_of_ble_eq_true rfl, Nat.le_of_ble_eq_true rfl⟩) trivial (fun U hU hW => hK.go hW hS hAz hU) rfl rfl hl.1 rfl (lv_room (Nat.le_of_ble_eq_true rfl)) dX9_move_37 ⟨Nat.le_of_ble_eq_true rfl, Nat.le_of_ble_eq_true rfl⟩) hS (fun q _ h => h.elim) (fun q h => h.elim) (fun q _ h => h.elim) (fun En ce q9 _ t H locs ht hvm hw hB hz hk hS hc1 hc2 hc3 => ?_) (fun _ t H locs ht hvm hw hB hz hk hS => ?_)
    · have hT : TH E (T1 E) G [] H := hT.kept (fun q hq => hk q hq (fun h => h))
      subst hB
      exact vx_out (fun x hx => (hne x hx).elim) hlocks hc1 hc2 hc3 (fun t ht hA => ⟨(), trivial, ⟨Or.inl rfl, by show TH E (T1 E) G [] t.heap; rw [ht]; exact hT⟩, hS.F ht⟩) hS.2.2 (Nat.le_of_ble_eq_true rfl) (Nat.le_of_ble_eq_true rfl)
    · have hT : TH E (T1 E) G [] H := hT.kept (fun q hq => hk q hq (fun h => h))
      exact absurd rfl hw
  · have c_1 := bI_n c_1
    refine lv_iload_n hx hb dX9_move_7 rfl (lv_at hl 3 rfl) ?_
    refine lv_iload hx hb dX9_move_8 (lv_at hl 4 rfl) ?_
    refine W.callR (W.runS (As := [.int p2, .int p3]) (rest := []) ⟨hx, hb, hml, hown, hts⟩ (c_X9_areCells l p2 p3) (cwS 2 hts (gdS ml_X9_97 st_X9_areCells in_X9 co_X9_areCells rfl) rfl rfl rfl (by decide +kernel) ⟨Nat.le_of_ble_eq_true rfl, Nat.le_of_ble_eq_true rfl⟩) preEq rfl rfl hl.1 rfl (lv_room (Nat.le_of_ble_eq_true rfl)) dX9_move_10 ⟨Nat.le_of_ble_eq_true rfl, Nat.le_of_ble_eq_true rfl⟩) ?_
    refine W.eq (g2 := F0 m 13 ls [.int (bI (1 ≤ p3.toInt ∧ p3.toInt ≤ 12 ∧ 0 ≤ p2.toInt ∧ p2.toInt ≤ 32 - p3.toInt))]) (by rfl) ?_
    refine lv_if_eq (tgt := 36) hx hb dX9_move_13 (by decide) (fun c_2 => ?_) (fun c_2 => ?_)
    · have c_2 := bI_0 c_2
      refine lv_iconst (v := 0) hx hb dX9_move_36 (by decide) ?_
      refine vx_callv (rxS (fun _ => True) (As := [.int 0]) (rest := []) ⟨hx, hb, hml, hown, hts⟩ (c_X9_require l hst E z0 0) (cwS 1 hts (gdS ml_X9_53 st_X9_require in_X9 co_X9_require rfl) rfl rfl rfl (by decide +kernel) ⟨Nat.le_of_ble_eq_true rfl, Nat.le_of_ble_eq_true rfl⟩) trivial (fun U hU hW => hK.go hW hS hAz hU) rfl rfl hl.1 rfl (lv_room (Nat.le_of_ble_eq_true rfl)) dX9_move_37 ⟨Nat.le_of_ble_eq_true rfl, Nat.le_of_ble_eq_true rfl⟩) hS (fun q _ h => h.elim) (fun q h => h.elim) (fun q _ h => h.elim) (fun En ce q9 _ t H locs ht hvm hw hB hz hk hS hc1 hc2 hc3 => ?_) (fun _ t H locs ht hvm hw hB hz hk hS => ?_)
      · have hT : TH E (T1 E) G [] H := hT.kept (fun q hq => hk q hq (fun h => h))
        subst hB
        exact vx_out (fun x hx => (hne x hx).elim) hlocks hc1 hc2 hc3 (fun t ht hA => ⟨(), trivial, ⟨Or.inl rfl, by show TH E (T1 E) G [] t.heap; rw [ht]; exact hT⟩, hS.F ht⟩) hS.2.2 (Nat.le_of_ble_eq_true rfl) (Nat.le_of_ble_eq_true rfl)
      · have hT : TH E (T1 E) G [] H := hT.kept (fun q hq => hk q hq (fun h => h))
        exact absurd rfl hw
    · have c_2 := bI_n c_2
      refine lv_iload hx hb dX9_move_16 (lv_at hl 5 rfl) ?_
      refine W.callR (W.runS (As := [.int p4]) (rest := []) ⟨hx, hb, hml, hown, hts⟩ (c_X9_isRegion l p4) (cwS 1 hts (gdS ml_X9_50 st_X9_isRegion in_X9 co_X9_isRegion rfl) rfl rfl rfl (by decide +kernel) ⟨Nat.le_of_ble_eq_true rfl, Nat.le_of_ble_eq_true rfl⟩) preEq rfl rfl hl.1 rfl (lv_room (Nat.le_of_ble_eq_true rfl)) dX9_move_18 ⟨Nat.le_of_ble_eq_true rfl, Nat.le_of_ble_eq_true rfl⟩) ?_
      refine W.eq (g2 := F0 m 21 ls [.int (bI (0 ≤ p4.toInt ∧ p4.toInt < 6))]) (by rfl) ?_
      refine lv_if_eq (tgt := 36) hx hb dX9_move_21 (by decide) (fun c_3 => ?_) (fun c_3 => ?_)
      · have c_3 := bI_0 c_3
        refine lv_iconst (v := 0) hx hb dX9_move_36 (by decide) ?_
        refine vx_callv (rxS (fun _ => True) (As := [.int 0]) (rest := []) ⟨hx, hb, hml, hown, hts⟩ (c_X9_require l hst E z0 0) (cwS 1 hts (gdS ml_X9_53 st_X9_require in_X9 co_X9_require rfl) rfl rfl rfl (by decide +kernel) ⟨Nat.le_of_ble_eq_true rfl, Nat.le_of_ble_eq_true rfl⟩) trivial (fun U hU hW => hK.go hW hS hAz hU) rfl rfl hl.1 rfl (lv_room (Nat.le_of_ble_eq_true rfl)) dX9_move_37 ⟨Nat.le_of_ble_eq_true rfl, Nat.le_of_ble_eq_true rfl⟩) hS (fun q _ h => h.elim) (fun q h => h.elim) (fun q _ h => h.elim) (fun En ce q9 _ t H locs ht hvm hw hB hz hk hS hc1 hc2 hc3 => ?_) (fun _ t H locs ht hvm hw hB hz hk hS => ?_)
        · have hT : TH E (T1 E) G [] H := hT.kept (fun q hq => hk q hq (fun h => h))
          subst hB
          exact vx_out (fun x hx => (hne x hx).elim) hlocks hc1 hc2 hc3 (fun t ht hA => ⟨(), trivial, ⟨Or.inl rfl, by show TH E (T1 E) G [] t.heap; rw [ht]; exact hT⟩, hS.F ht⟩) hS.2.2 (Nat.le_of_ble_eq_true rfl) (Nat.le_of_ble_eq_true rfl)
        · have hT : TH E (T1 E) G [] H := hT.kept (fun q hq => hk q hq (fun h => h))
          exact absurd rfl hw
      · have c_3 := bI_n c_3
        refine lv_iload hx hb dX9_move_24 (lv_at hl 6 rfl) ?_
        refine W.callR (W.runS (As := [.int p5]) (rest := []) ⟨hx, hb, hml, hown, hts⟩ (c_X9_isCell l p5) (cwS 1 hts (gdS ml_X9_67 st_X9_isCell in_X9 co_X9_isCell rfl) rfl rfl rfl (by decide +kernel) ⟨Nat.le_of_ble_eq_true rfl, Nat.le_of_ble_eq_true rfl⟩) preEq rfl rfl hl.1 rfl (lv_room (Nat.le_of_ble_eq_true rfl)) dX9_move_26 ⟨Nat.le_of_ble_eq_true rfl, Nat.le_of_ble_eq_true rfl⟩) ?_
        refine W.eq (g2 := F0 m 29 ls [.int (bI (0 ≤ p5.toInt ∧ p5.toInt < 32))]) (by rfl) ?_
        refine lv_if_eq (tgt := 36) hx hb dX9_move_29 (by decide) (fun c_4 => ?_) (fun c_4 => ?_)
        · have c_4 := bI_0 c_4
          refine lv_iconst (v := 0) hx hb dX9_move_36 (by decide) ?_
          refine vx_callv (rxS (fun _ => True) (As := [.int 0]) (rest := []) ⟨hx, hb, hml, hown, hts⟩ (c_X9_require l hst E z0 0) (cwS 1 hts (gdS ml_X9_53 st_X9_require in_X9 co_X9_require rfl) rfl rfl rfl (by decide +kernel) ⟨Nat.le_of_ble_eq_true rfl, Nat.le_of_ble_eq_true rfl⟩) trivial (fun U hU hW => hK.go hW hS hAz hU) rfl rfl hl.1 rfl (lv_room (Nat.le_of_ble_eq_true rfl)) dX9_move_37 ⟨Nat.le_of_ble_eq_true rfl, Nat.le_of_ble_eq_true rfl⟩) hS (fun q _ h => h.elim) (fun q h => h.elim) (fun q _ h => h.elim) (fun En ce q9 _ t H locs ht hvm hw hB hz hk hS hc1 hc2 hc3 => ?_) (fun _ t H locs ht hvm hw hB hz hk hS => ?_)
          · have hT : TH E (T1 E) G [] H := hT.kept (fun q hq => hk q hq (fun h => h))
            subst hB
            exact vx_out (fun x hx => (hne x hx).elim) hlocks hc1 hc2 hc3 (fun t ht hA => ⟨(), trivial, ⟨Or.inl rfl, by show TH E (T1 E) G [] t.heap; rw [ht]; exact hT⟩, hS.F ht⟩) hS.2.2 (Nat.le_of_ble_eq_true rfl) (Nat.le_of_ble_eq_true rfl)
          · have hT : TH E (T1 E) G [] H := hT.kept (fun q hq => hk q hq (fun h => h))
            exact absurd rfl hw
        · have c_4 := bI_n c_4
          refine lv_iconst (v := 1) hx hb dX9_move_32 (by decide) ?_
          refine lv_goto (tgt := 37) hx hb dX9_move_33 (by decide) ?_
          refine vx_callv (rxS (fun _ => True) (As := [.int 1]) (rest := []) ⟨hx, hb, hml, hown, hts⟩ (c_X9_require l hst E z0 1) (cwS 1 hts (gdS ml_X9_53 st_X9_require in_X9 co_X9_require rfl) rfl rfl rfl (by decide +kernel) ⟨Nat.le_of_ble_eq_true rfl, Nat.le_of_ble_eq_true rfl⟩) trivial (fun U hU hW => hK.go hW hS hAz hU) rfl rfl hl.1 rfl (lv_room (Nat.le_of_ble_eq_true rfl)) dX9_move_37 ⟨Nat.le_of_ble_eq_true rfl, Nat.le_of_ble_eq_true rfl⟩) hS (fun q _ h => h.elim) (fun q h => h.elim) (fun q _ h => h.elim) (fun En ce q9 _ t H locs ht hvm hw hB hz hk hS hc1 hc2 hc3 => ?_) (fun _ t H locs ht hvm hw hB hz hk hS => ?_)
          · have hT : TH E (T1 E) G [] H := hT.kept (fun q hq => hk q hq (fun h => h))
            exact absurd hw (by decide)
          · have hT : TH E (T1 E) G [] H := hT.kept (fun q hq => hk q hq (fun h => h))
            refine lv_aload_n hx hb dX9_move_40 rfl (lv_at hl 0 rfl) ?_
            obtain ⟨v0_5, v1_5, v2_5, ha_5, hg0_5, hg1_5, hg2_5⟩ := tr_1 hT hG
            refine va_get (D := DG E) (ci := 9) (v := .ref v1_5) (C := RX9) (T := TX9) (N := 3) hx hb hts iw_X9 hown hK.1 (va_one ha_5) 0 rfl rfl 1 (by decide) (hts _ fl_X9_29) (fun _ h9 => h9) rfl dX9_move_41 ?_
            refine lv_iload_n hx hb dX9_move_44 rfl (lv_at hl 1 rfl) ?_
            obtain ⟨f_6, ha_6, he_6⟩ := tr_3 hT hg1_5
            obtain ⟨j_7, hj_7, ej_7⟩ := vp_in_of (show vp_in p0 4 from vp_in_iff.mpr (by omega)) (by decide)
            obtain ⟨b_7, eb_7, gb_7⟩ := he_6 j_7 hj_7
            have cj_7 : f_6 (p0 : Int32).toNatClampNeg = some b_7 := by rw [ej_7, nI_clamp (by omega)]; exact eb_7
            refine va_aldq (D := DG E) hx hb hK.1 (va_one ha_6) 0 5 rfl rfl (show vp_in p0 4 from vp_in_iff.mpr (by omega)) dX9_move_45 ?_
            rw [cj_7]
            refine W.eq (g2 := F0 m 46 ls [.ref b_7]) (by rfl) ?_
            obtain ⟨v0_8, v1_8, v2_8, ha_8, hg0_8, hg1_8⟩ := tr_8 hT gb_7
            obtain ⟨v0_9, v1_9, v2_9, v3_9, v4_9, v5_9, v6_9, v7_9, v8_9, v9_9, v10_9, v11_9, v12_9, v13_9, ha_9, hb0_9, hg1_9, hg2_9, hg6_9⟩ := tr_9 hT hg0_8
            obtain ⟨v0_10, v1_10, v2_10, v3_10, v4_10, v5_10, ha_10, hg1_10, hg2_10, hb3_10, hb4_10⟩ := tr_11 hT hg6_9
            refine va_calli (rnV (fun H => TH E (T1 E) G [] H ∧ va_at (DG E) vwCl (b_7, .inr (3, [.ref v0_8, .ref v1_8, .int v2_8])) H ∧ va_at (DG E) vwCl (v0_8, .inr (7, [.int v0_9, .ref v1_9, .ref v2_9, .int v3_9, .int v4_9, .int v5_9, .ref v6_9, .int v7_9, .int v8_9, .int v9_9, .int v10_9, .int v11_9, .int v12_9, .int v13_9])) H ∧ va_at (DG E) vwCl (v6_9, .inr (5, [.int v0_10, .ref v1_10, .ref v2_10, .int v3_10, .int v4_10, .int v5_10])) H) (As := []) (rest := []) ⟨hx, hb, hml, hown, hts⟩ (t_X3_takesRequests l E z0 G hGz b_7 gb_7 v0_8 v1_8 v2_8 hg0_8 hg1_8 v0_9 v1_9 v2_9 v3_9 v4_9 v5_9 v6_9 v7_9 v8_9 v9_9 v10_9 v11_9 v12_9 v13_9 hg1_9 hg2_9 hg6_9 (by omega) v0_10 v1_10 v2_10 v3_10 v4_10 v5_10 hg1_10 hg2_10 (by omega) (by omega)) (cwV 0 hts (gdV ml_X9_101 im_X3_takesRequests se_X3_X3_takesRequests in_X3 co_X3_takesRequests rfl) rfl rfl rfl (by decide +kernel) ⟨Nat.le_of_ble_eq_true rfl, Nat.le_of_ble_eq_true rfl⟩) ⟨hT, ha_8, ha_9, ha_10⟩ (fun U hU hW => hK.go hW hS hAz hU) (va_recv hK.1 (va_one ha_8) (ci := 3) (q0 := 0) rfl rfl) rfl rfl hl.1 rfl (lv_room (Nat.le_of_ble_eq_true rfl)) dX9_move_46 ⟨Nat.le_of_ble_eq_true rfl, Nat.le_of_ble_eq_true rfl⟩) hS (fun q _ h => h.elim) (fun q h => h.elim) (fun r_11 _ t H locs ht hvm hwr_11 hB hz hk hS => ?_)
            have hT : TH E (T1 E) G [] H := hT.kept (fun q hq => hk q hq (fun h => h))
            have ha_5 := ha_5.kept (hk _ ha_5.lt (fun h => h))
            have ha_6 := ha_6.kept (hk _ ha_6.lt (fun h => h))
            have ha_8 := ha_8.kept (hk _ ha_8.lt (fun h => h))
            have ha_9 := ha_9.kept (hk _ ha_9.lt (fun h => h))
            have ha_10 := ha_10.kept (hk _ ha_10.lt (fun h => h))
            have hzr_11 := s_rng hwr_11.1
            refine vx_callv (rxS (fun _ => True) (As := [.int r_11]) (rest := []) ⟨hx, hb, hml, hown, hts⟩ (c_X9_requireState l hst E z0 r_11) (cwS 1 hts (gdS ml_X9_88 st_X9_requireState in_X9 co_X9_requireState rfl) rfl rfl rfl (by decide +kernel) ⟨Nat.le_of_ble_eq_true rfl, Nat.le_of_ble_eq_true rfl⟩) trivial (fun U hU hW => hK.go hW hS hAz hU) rfl rfl hl.1 rfl (lv_room (Nat.le_of_ble_eq_true rfl)) dX9_move_49 ⟨Nat.le_of_ble_eq_true rfl, Nat.le_of_ble_eq_true rfl⟩) hS (fun q _ h => h.elim) (fun q h => h.elim) (fun q _ h => h.elim) (fun En ce q9 _ t H locs ht hvm hw hB hz hk hS hc1 hc2 hc3 => ?_) (fun _ t H locs ht hvm hw hB hz hk hS => ?_)
            · have hT : TH E (T1 E) G [] H := hT.kept (fun q hq => hk q hq (fun h => h))
              simp only [lt_I, le_I, eq_I, i_0, i_1, i_2, i_3, i_4, i_5, i_6, i_7, i_8, i_10, i_12, i_16, i_20, i_23, i_24, i_31, i_32, i_63, i_64, i_m1] at hw
              subst hB
              exact vx_out (fun x hx => (hne x hx).elim) hlocks hc1 hc2 hc3 (fun t ht hA => ⟨(), trivial, ⟨Or.inr rfl, by show TH E (T1 E) G [] t.heap; rw [ht]; exact hT⟩, hS.F ht⟩) hS.2.2 (Nat.le_of_ble_eq_true rfl) (Nat.le_of_ble_eq_true rfl)
            · have hT : TH E (T1 E) G [] H := hT.kept (fun q hq => hk q hq (fun h => h))
              simp only [lt_I, le_I, eq_I, i_0, i_1, i_2, i_3, i_4, i_5, i_6, i_7, i_8, i_10, i_12, i_16, i_20, i_23, i_24, i_31, i_32, i_63, i_64, i_m1] at hw
              have ha_5 := ha_5.kept (hk _ ha_5.lt (fun h => h))
              have ha_6 := ha_6.kept (hk _ ha_6.lt (fun h => h))
              have ha_8 := ha_8.kept (hk _ ha_8.lt (fun h => h))
              have ha_9 := ha_9.kept (hk _ ha_9.lt (fun h => h))
              have ha_10 := ha_10.kept (hk _ ha_10.lt (fun h => h))
              refine lv_aload_n hx hb dX9_move_52 rfl (lv_at hl 0 rfl) ?_
              refine va_get (D := DG E) (ci := 9) (v := .ref v1_5) (C := RX9) (T := TX9) (N := 3) hx hb hts iw_X9 hown hK.1 (va_one ha_5) 0 rfl rfl 1 (by decide) (hts _ fl_X9_29) (fun _ h9 => h9) rfl dX9_move_53 ?_
              refine lv_iload_n hx hb dX9_move_56 rfl (lv_at hl 1 rfl) ?_
              refine va_aldq (D := DG E) hx hb hK.1 (va_one ha_6) 0 5 rfl rfl (show vp_in p0 4 from vp_in_iff.mpr (by omega)) dX9_move_57 ?_
              rw [cj_7]
              refine W.eq (g2 := F0 m 58 ls [.ref b_7]) (by rfl) ?_
              refine va_get (D := DG E) (ci := 3) (v := .ref v0_8) (C := RX3) (T := TX3) (N := 3) hx hb hts iw_X3 hown hK.1 (va_one ha_8) 0 rfl rfl 0 (by decide) (hts _ fl_X9_105) (fun _ h9 => h9) rfl dX9_move_58 ?_
              refine lv_iload_n hx hb dX9_move_61 rfl (lv_at hl 2 rfl) ?_
              refine lv_if_eq (tgt := 69) hx hb dX9_move_62 (by decide) (fun c_12 => ?_) (fun c_12 => ?_)
              · simp only [lt_I, le_I, eq_I, i_0, i_1, i_2, i_3, i_4, i_5, i_6, i_7, i_8, i_10, i_12, i_16, i_20, i_23, i_24, i_31, i_32, i_63, i_64, i_m1] at c_12
                refine lv_iconst (v := 1) hx hb dX9_move_69 (by decide) ?_
                refine lv_iload_n hx hb dX9_move_70 rfl (lv_at hl 3 rfl) ?_
                refine lv_iload hx hb dX9_move_71 (lv_at hl 4 rfl) ?_
                refine lv_iload hx hb dX9_move_73 (lv_at hl 5 rfl) ?_
                refine lv_iload hx hb dX9_move_75 (lv_at hl 6 rfl) ?_
                refine lv_iconst (v := 0) hx hb dX9_move_77 (by decide) ?_
                refine va_calli (rnV (fun H => TH E (T1 E) G [] H ∧ va_at (DG E) vwCl (v0_8, .inr (7, [.int v0_9, .ref v1_9, .ref v2_9, .int v3_9, .int v4_9, .int v5_9, .ref v6_9, .int v7_9, .int v8_9, .int v9_9, .int v10_9, .int v11_9, .int v12_9, .int v13_9])) H ∧ va_at (DG E) vwCl (v6_9, .inr (5, [.int v0_10, .ref v1_10, .ref v2_10, .int v3_10, .int v4_10, .int v5_10])) H) (As := [.int 1, .int p2, .int p3, .int p4, .int p5, .int 0]) (rest := []) ⟨hx, hb, hml, hown, hts⟩ (t_X7_post l E z0 G hGz v0_8 1 p2 p3 p4 p5 0 hg0_8 v0_9 v1_9 v2_9 v3_9 v4_9 v5_9 v6_9 v7_9 v8_9 v9_9 v10_9 v11_9 v12_9 v13_9 hg1_9 hg2_9 hg6_9 (by omega) v0_10 v1_10 v2_10 v3_10 v4_10 v5_10 hg1_10 hg2_10 (by omega) (by omega) (by have := i_1; have := i_0; first | omega | decide) (by have := i_1; have := i_0; first | omega | decide)) (cwV 6 hts (gdV ml_X9_109 im_X7_post se_X7_X7_post in_X7 co_X7_post rfl) rfl rfl rfl (by decide +kernel) ⟨Nat.le_of_ble_eq_true rfl, Nat.le_of_ble_eq_true rfl⟩) ⟨hT, ha_9, ha_10⟩ (fun U hU hW => hK.go hW hS hAz hU) (va_recv hK.1 (va_one ha_9) (ci := 7) (q0 := 0) rfl rfl) rfl rfl hl.1 rfl (lv_room (Nat.le_of_ble_eq_true rfl)) dX9_move_78 ⟨Nat.le_of_ble_eq_true rfl, Nat.le_of_ble_eq_true rfl⟩) hS (fun q _ h => mL (L' := [9, 11, 13]) (L := [9, 11, 13]) (by decide) h) (fun q h => mL (L' := [9, 11, 13]) (L := [9, 11, 13]) (by decide) h) (fun r_13 _ t H locs ht hvm hwr_13 hB hz hk hS => ?_)
                have hT : TH E (T1 E) G [] H := by rw [ht] at hB; exact hB
                have ha_5 := ha_5.kept (hk _ ha_5.lt (nL hG (by decide)))
                have ha_6 := ha_6.kept (hk _ ha_6.lt (nL hg1_5 (by decide)))
                have ha_8 := ha_8.kept (hk _ ha_8.lt (nL gb_7 (by decide)))
                refine vx_ret ?_
                refine W.widen (k := 2) (n := 12) (Nat.le_of_ble_eq_true rfl) (Nat.le_of_ble_eq_true rfl) ?_
                exact W.iret (v := r_13) hx hb hr (fun t ht hW => ⟨⟨r_13, (), rfl, trivial, (by show TH E (T1 E) G [] t.heap; rw [ht]; exact hT)⟩, hS.F ht⟩) hS.2.2 dX9_move_81
              · simp only [lt_I, le_I, eq_I, i_0, i_1, i_2, i_3, i_4, i_5, i_6, i_7, i_8, i_10, i_12, i_16, i_20, i_23, i_24, i_31, i_32, i_63, i_64, i_m1] at c_12
                refine lv_iconst (v := 2) hx hb dX9_move_65 (by decide) ?_
                refine lv_goto (tgt := 70) hx hb dX9_move_66 (by decide) ?_
                refine lv_iload_n hx hb dX9_move_70 rfl (lv_at hl 3 rfl) ?_
                refine lv_iload hx hb dX9_move_71 (lv_at hl 4 rfl) ?_
                refine lv_iload hx hb dX9_move_73 (lv_at hl 5 rfl) ?_
                refine lv_iload hx hb dX9_move_75 (lv_at hl 6 rfl) ?_
                refine lv_iconst (v := 0) hx hb dX9_move_77 (by decide) ?_
                refine va_calli (rnV (fun H => TH E (T1 E) G [] H ∧ va_at (DG E) vwCl (v0_8, .inr (7, [.int v0_9, .ref v1_9, .ref v2_9, .int v3_9, .int v4_9, .int v5_9, .ref v6_9, .int v7_9, .int v8_9, .int v9_9, .int v10_9, .int v11_9, .int v12_9, .int v13_9])) H ∧ va_at (DG E) vwCl (v6_9, .inr (5, [.int v0_10, .ref v1_10, .ref v2_10, .int v3_10, .int v4_10, .int v5_10])) H) (As := [.int 2, .int p2, .int p3, .int p4, .int p5, .int 0]) (rest := []) ⟨hx, hb, hml, hown, hts⟩ (t_X7_post l E z0 G hGz v0_8 2 p2 p3 p4 p5 0 hg0_8 v0_9 v1_9 v2_9 v3_9 v4_9 v5_9 v6_9 v7_9 v8_9 v9_9 v10_9 v11_9 v12_9 v13_9 hg1_9 hg2_9 hg6_9 (by omega) v0_10 v1_10 v2_10 v3_10 v4_10 v5_10 hg1_10 hg2_10 (by omega) (by omega) (by have := i_2; have := i_0; first | omega | decide) (by have := i_2; have := i_0; first | omega | decide)) (cwV 6 hts (gdV ml_X9_109 im_X7_post se_X7_X7_post in_X7 co_X7_post rfl) rfl rfl rfl (by decide +kernel) ⟨Nat.le_of_ble_eq_true rfl, Nat.le_of_ble_eq_true rfl⟩) ⟨hT, ha_9, ha_10⟩ (fun U hU hW => hK.go hW hS hAz hU) (va_recv hK.1 (va_one ha_9) (ci := 7) (q0 := 0) rfl rfl) rfl rfl hl.1 rfl (lv_room (Nat.le_of_ble_eq_true rfl)) dX9_move_78 ⟨Nat.le_of_ble_eq_true rfl, Nat.le_of_ble_eq_true rfl⟩) hS (fun q _ h => mL (L' := [9, 11, 13]) (L := [9, 11, 13]) (by decide) h) (fun q h => mL (L' := [9, 11, 13]) (L := [9, 11, 13]) (by decide) h) (fun r_14 _ t H locs ht hvm hwr_14 hB hz hk hS => ?_)
                have hT : TH E (T1 E) G [] H := by rw [ht] at hB; exact hB
                have ha_5 := ha_5.kept (hk _ ha_5.lt (nL hG (by decide)))
                have ha_6 := ha_6.kept (hk _ ha_6.lt (nL hg1_5 (by decide)))
                have ha_8 := ha_8.kept (hk _ ha_8.lt (nL gb_7 (by decide)))
                refine vx_ret ?_
                refine W.widen (k := 2) (n := 12) (Nat.le_of_ble_eq_true rfl) (Nat.le_of_ble_eq_true rfl) ?_
                exact W.iret (v := r_14) hx hb hr (fun t ht hW => ⟨⟨r_14, (), rfl, trivial, (by show TH E (T1 E) G [] t.heap; rw [ht]; exact hT)⟩, hS.F ht⟩) hS.2.2 dX9_move_81
theorem dX9_add_0 : decode cX9_add 0 = .ok (.iload_n 1, 1) := by decide +kernel
theorem dX9_add_1 : decode cX9_add 1 = .ok (.invokestatic 78, 3) := by decide +kernel
theorem dX9_add_4 : decode cX9_add 4 = .ok (.ifCond .eq 29, 3) := by decide +kernel
theorem dX9_add_7 : decode cX9_add 7 = .ok (.iload_n 2, 1) := by decide +kernel
theorem dX9_add_8 : decode cX9_add 8 = .ok (.invokestatic 67, 3) := by decide +kernel
theorem dX9_add_11 : decode cX9_add 11 = .ok (.ifCond .eq 22, 3) := by decide +kernel
theorem dX9_add_14 : decode cX9_add 14 = .ok (.iload_n 3, 1) := by decide +kernel
theorem dX9_add_15 : decode cX9_add 15 = .ok (.invokestatic 50, 3) := by decide +kernel
theorem dX9_add_18 : decode cX9_add 18 = .ok (.ifCond .eq 15, 3) := by decide +kernel
theorem dX9_add_21 : decode cX9_add 21 = .ok (.iload 4, 2) := by decide +kernel
theorem dX9_add_23 : decode cX9_add 23 = .ok (.invokestatic 67, 3) := by decide +kernel
theorem dX9_add_26 : decode cX9_add 26 = .ok (.ifCond .eq 7, 3) := by decide +kernel
theorem dX9_add_29 : decode cX9_add 29 = .ok (.iconst 1, 1) := by decide +kernel
theorem dX9_add_30 : decode cX9_add 30 = .ok (.goto 4, 3) := by decide +kernel
theorem dX9_add_33 : decode cX9_add 33 = .ok (.iconst 0, 1) := by decide +kernel
theorem dX9_add_34 : decode cX9_add 34 = .ok (.invokestatic 53, 3) := by decide +kernel
theorem dX9_add_37 : decode cX9_add 37 = .ok (.aload_n 0, 1) := by decide +kernel
theorem dX9_add_38 : decode cX9_add 38 = .ok (.getfield 29, 3) := by decide +kernel
theorem dX9_add_41 : decode cX9_add 41 = .ok (.iload_n 1, 1) := by decide +kernel
theorem dX9_add_42 : decode cX9_add 42 = .ok (.aaload, 1) := by decide +kernel
theorem dX9_add_43 : decode cX9_add 43 = .ok (.invokevirtual 101, 3) := by decide +kernel
theorem dX9_add_46 : decode cX9_add 46 = .ok (.invokestatic 88, 3) := by decide +kernel
theorem dX9_add_49 : decode cX9_add 49 = .ok (.aload_n 0, 1) := by decide +kernel
theorem dX9_add_50 : decode cX9_add 50 = .ok (.getfield 29, 3) := by decide +kernel
theorem dX9_add_53 : decode cX9_add 53 = .ok (.iload_n 1, 1) := by decide +kernel
theorem dX9_add_54 : decode cX9_add 54 = .ok (.aaload, 1) := by decide +kernel
theorem dX9_add_55 : decode cX9_add 55 = .ok (.getfield 105, 3) := by decide +kernel
theorem dX9_add_58 : decode cX9_add 58 = .ok (.iconst 3, 1) := by decide +kernel
theorem dX9_add_59 : decode cX9_add 59 = .ok (.iload_n 2, 1) := by decide +kernel
theorem dX9_add_60 : decode cX9_add 60 = .ok (.iconst 1, 1) := by decide +kernel
theorem dX9_add_61 : decode cX9_add 61 = .ok (.iload_n 3, 1) := by decide +kernel
theorem dX9_add_62 : decode cX9_add 62 = .ok (.iload 4, 2) := by decide +kernel
theorem dX9_add_64 : decode cX9_add 64 = .ok (.iload 5, 2) := by decide +kernel
theorem dX9_add_66 : decode cX9_add 66 = .ok (.invokevirtual 109, 3) := by decide +kernel
theorem dX9_add_69 : decode cX9_add 69 = .ok (.ireturn, 1) := by decide +kernel
set_option maxHeartbeats 8000000 in
set_option maxRecDepth 100000 in
theorem t_X9_add (l : Launch) (hst : l.stackTraces = false) (E : EE) (z0 : Nat) (G : Nat → Nat) (hGz : ∀ q, G q ≠ 0 → z0 ≤ q) (h0 : Nat) (p0 : Int32) (p1 : Int32) (p2 : Int32) (p3 : Int32) (p4 : Int32) (hG : G h0 = 1) : vx_Met l yX9_add [Cond.code yX9_add cX9_add 6 (some .int)] ({ frames := 7, cells := 2, slots := 12, locals := 101 } : Room) (va_Pc [.ref h0, .int p0, .int p1, .int p2, .int p3, .int p4] (fun U => (TH E (T1 E) G [] U.heap) ∧ KS E z0 U)) (va_Qi (fun (r : Int32) (_ : Unit) => True) (fun _ t => TH E (T1 E) G [] t.heap) (fun q : Nat => G q ∈ ([9, 11, 13] : List Nat))) (vx_X (fun (_ : Unit) => True) (fun En _ t => (En = IAE ∨ En = ISE) ∧ TH E (T1 E) G [] t.heap) (fun q : Nat => G q ∈ ([9, 11, 13] : List Nat))) 2 12 (fun q : Nat => G q ∈ ([9, 11, 13] : List Nat)) := by
  refine vx_ofW (cc := cX9_add) (maxL := 6) (ret := (some .int)) (by decide) rfl ?_
  intro p e s m args below meth c s₁ B hml hne hv
  obtain ⟨rfl, hT, hK⟩ := hv
  have hx := B.exec
  have hb := B.bytes
  have hr := B.returns
  have hts : ∀ w ∈ TS, w.before ([.ref h0, .int p0, .int p1, .int p2, .int p3, .int p4] : List Value).toArray s = true := fun w hw => hK.2.1 w hw _
  have hown : s.vm.findClass RX9 = some m.cls := findClass_of_methodNamed B.named
  have hlocks := B.notSynchronized
  have hS : va_S (fun q : Nat => G q ∈ ([9, 11, 13] : List Nat)) s.heap s.heap [] := va_S.rf
  have hAz : ∀ q, (fun q : Nat => G q ∈ ([9, 11, 13] : List Nat)) q → z0 ≤ q := zL hGz (by decide)
  have hl := lv_entry ([.ref h0, .int p0, .int p1, .int p2, .int p3, .int p4]) (n := 6) (Nat.le_of_ble_eq_true rfl)
  rw [lg_entry_eq]
  generalize (lg_sl ([.ref h0, .int p0, .int p1, .int p2, .int p3, .int p4]) ++ List.replicate (6 - (lg_sl ([.ref h0, .int p0, .int p1, .int p2, .int p3, .int p4])).length) Slot.unset).toArray = ls at hl ⊢
  have hl : lv_has ls 6 [(0, .ref h0), (1, .int p0), (2, .int p1), (3, .int p2), (4, .int p3), (5, .int p4)] := hl
  refine lv_iload_n hx hb dX9_add_0 rfl (lv_at hl 1 rfl) ?_
  refine W.callR (W.runS (As := [.int p0]) (rest := []) ⟨hx, hb, hml, hown, hts⟩ (c_X9_isPair l p0) (cwS 1 hts (gdS ml_X9_78 st_X9_isPair in_X9 co_X9_isPair rfl) rfl rfl rfl (by decide +kernel) ⟨Nat.le_of_ble_eq_true rfl, Nat.le_of_ble_eq_true rfl⟩) preEq rfl rfl hl.1 rfl (lv_room (Nat.le_of_ble_eq_true rfl)) dX9_add_1 ⟨Nat.le_of_ble_eq_true rfl, Nat.le_of_ble_eq_true rfl⟩) ?_
  refine W.eq (g2 := F0 m 4 ls [.int (bI (0 ≤ p0.toInt ∧ p0.toInt < 4))]) (by rfl) ?_
  refine lv_if_eq (tgt := 33) hx hb dX9_add_4 (by decide) (fun c_1 => ?_) (fun c_1 => ?_)
  · have c_1 := bI_0 c_1
    refine lv_iconst (v := 0) hx hb dX9_add_33 (by decide) ?_
    refine vx_callv (rxS (fun _ => True) (As := [.int 0]) (rest := []) ⟨hx, hb, hml, hown, hts⟩ (c_X9_require l hst E z0 0) (cwS 1 hts (gdS ml_X9_53 st_X9_require in_X9 co_X9_require rfl) rfl rfl rfl (by decide +kernel) ⟨Nat.le_of_ble_eq_true rfl, Nat.le_of_ble_eq_true rfl⟩) trivial (fun U hU hW => hK.go hW hS hAz hU) rfl rfl hl.1 rfl (lv_room (Nat.le_of_ble_eq_true rfl)) dX9_add_34 ⟨Nat.le_of_ble_eq_true rfl, Nat.le_of_ble_eq_true rfl⟩) hS (fun q _ h => h.elim) (fun q h => h.elim) (fun q _ h => h.elim) (fun En ce q9 _ t H locs ht hvm hw hB hz hk hS hc1 hc2 hc3 => ?_) (fun _ t H locs ht hvm hw hB hz hk hS => ?_)
    · have hT : TH E (T1 E) G [] H := hT.kept (fun q hq => hk q hq (fun h => h))
      subst hB
      exact vx_out (fun x hx => (hne x hx).elim) hlocks hc1 hc2 hc3 (fun t ht hA => ⟨(), trivial, ⟨Or.inl rfl, by show TH E (T1 E) G [] t.heap; rw [ht]; exact hT⟩, hS.F ht⟩) hS.2.2 (Nat.le_of_ble_eq_true rfl) (Nat.le_of_ble_eq_true rfl)
    · have hT : TH E (T1 E) G [] H := hT.kept (fun q hq => hk q hq (fun h => h))
      exact absurd rfl hw
  · have c_1 := bI_n c_1
    refine lv_iload_n hx hb dX9_add_7 rfl (lv_at hl 2 rfl) ?_
    refine W.callR (W.runS (As := [.int p1]) (rest := []) ⟨hx, hb, hml, hown, hts⟩ (c_X9_isCell l p1) (cwS 1 hts (gdS ml_X9_67 st_X9_isCell in_X9 co_X9_isCell rfl) rfl rfl rfl (by decide +kernel) ⟨Nat.le_of_ble_eq_true rfl, Nat.le_of_ble_eq_true rfl⟩) preEq rfl rfl hl.1 rfl (lv_room (Nat.le_of_ble_eq_true rfl)) dX9_add_8 ⟨Nat.le_of_ble_eq_true rfl, Nat.le_of_ble_eq_true rfl⟩) ?_
    refine W.eq (g2 := F0 m 11 ls [.int (bI (0 ≤ p1.toInt ∧ p1.toInt < 32))]) (by rfl) ?_
    refine lv_if_eq (tgt := 33) hx hb dX9_add_11 (by decide) (fun c_2 => ?_) (fun c_2 => ?_)
    · have c_2 := bI_0 c_2
      refine lv_iconst (v := 0) hx hb dX9_add_33 (by decide) ?_
      refine vx_callv (rxS (fun _ => True) (As := [.int 0]) (rest := []) ⟨hx, hb, hml, hown, hts⟩ (c_X9_require l hst E z0 0) (cwS 1 hts (gdS ml_X9_53 st_X9_require in_X9 co_X9_require rfl) rfl rfl rfl (by decide +kernel) ⟨Nat.le_of_ble_eq_true rfl, Nat.le_of_ble_eq_true rfl⟩) trivial (fun U hU hW => hK.go hW hS hAz hU) rfl rfl hl.1 rfl (lv_room (Nat.le_of_ble_eq_true rfl)) dX9_add_34 ⟨Nat.le_of_ble_eq_true rfl, Nat.le_of_ble_eq_true rfl⟩) hS (fun q _ h => h.elim) (fun q h => h.elim) (fun q _ h => h.elim) (fun En ce q9 _ t H locs ht hvm hw hB hz hk hS hc1 hc2 hc3 => ?_) (fun _ t H locs ht hvm hw hB hz hk hS => ?_)
      · have hT : TH E (T1 E) G [] H := hT.kept (fun q hq => hk q hq (fun h => h))
        subst hB
        exact vx_out (fun x hx => (hne x hx).elim) hlocks hc1 hc2 hc3 (fun t ht hA => ⟨(), trivial, ⟨Or.inl rfl, by show TH E (T1 E) G [] t.heap; rw [ht]; exact hT⟩, hS.F ht⟩) hS.2.2 (Nat.le_of_ble_eq_true rfl) (Nat.le_of_ble_eq_true rfl)
      · have hT : TH E (T1 E) G [] H := hT.kept (fun q hq => hk q hq (fun h => h))
        exact absurd rfl hw
    · have c_2 := bI_n c_2
      refine lv_iload_n hx hb dX9_add_14 rfl (lv_at hl 3 rfl) ?_
      refine W.callR (W.runS (As := [.int p2]) (rest := []) ⟨hx, hb, hml, hown, hts⟩ (c_X9_isRegion l p2) (cwS 1 hts (gdS ml_X9_50 st_X9_isRegion in_X9 co_X9_isRegion rfl) rfl rfl rfl (by decide +kernel) ⟨Nat.le_of_ble_eq_true rfl, Nat.le_of_ble_eq_true rfl⟩) preEq rfl rfl hl.1 rfl (lv_room (Nat.le_of_ble_eq_true rfl)) dX9_add_15 ⟨Nat.le_of_ble_eq_true rfl, Nat.le_of_ble_eq_true rfl⟩) ?_
      refine W.eq (g2 := F0 m 18 ls [.int (bI (0 ≤ p2.toInt ∧ p2.toInt < 6))]) (by rfl) ?_
      refine lv_if_eq (tgt := 33) hx hb dX9_add_18 (by decide) (fun c_3 => ?_) (fun c_3 => ?_)
      · have c_3 := bI_0 c_3
        refine lv_iconst (v := 0) hx hb dX9_add_33 (by decide) ?_
        refine vx_callv (rxS (fun _ => True) (As := [.int 0]) (rest := []) ⟨hx, hb, hml, hown, hts⟩ (c_X9_require l hst E z0 0) (cwS 1 hts (gdS ml_X9_53 st_X9_require in_X9 co_X9_require rfl) rfl rfl rfl (by decide +kernel) ⟨Nat.le_of_ble_eq_true rfl, Nat.le_of_ble_eq_true rfl⟩) trivial (fun U hU hW => hK.go hW hS hAz hU) rfl rfl hl.1 rfl (lv_room (Nat.le_of_ble_eq_true rfl)) dX9_add_34 ⟨Nat.le_of_ble_eq_true rfl, Nat.le_of_ble_eq_true rfl⟩) hS (fun q _ h => h.elim) (fun q h => h.elim) (fun q _ h => h.elim) (fun En ce q9 _ t H locs ht hvm hw hB hz hk hS hc1 hc2 hc3 => ?_) (fun _ t H locs ht hvm hw hB hz hk hS => ?_)
        · have hT : TH E (T1 E) G [] H := hT.kept (fun q hq => hk q hq (fun h => h))
          subst hB
          exact vx_out (fun x hx => (hne x hx).elim) hlocks hc1 hc2 hc3 (fun t ht hA => ⟨(), trivial, ⟨Or.inl rfl, by show TH E (T1 E) G [] t.heap; rw [ht]; exact hT⟩, hS.F ht⟩) hS.2.2 (Nat.le_of_ble_eq_true rfl) (Nat.le_of_ble_eq_true rfl)
        · have hT : TH E (T1 E) G [] H := hT.kept (fun q hq => hk q hq (fun h => h))
          exact absurd rfl hw
      · have c_3 := bI_n c_3
        refine lv_iload hx hb dX9_add_21 (lv_at hl 4 rfl) ?_
        refine W.callR (W.runS (As := [.int p3]) (rest := []) ⟨hx, hb, hml, hown, hts⟩ (c_X9_isCell l p3) (cwS 1 hts (gdS ml_X9_67 st_X9_isCell in_X9 co_X9_isCell rfl) rfl rfl rfl (by decide +kernel) ⟨Nat.le_of_ble_eq_true rfl, Nat.le_of_ble_eq_true rfl⟩) preEq rfl rfl hl.1 rfl (lv_room (Nat.le_of_ble_eq_true rfl)) dX9_add_23 ⟨Nat.le_of_ble_eq_true rfl, Nat.le_of_ble_eq_true rfl⟩) ?_
        refine W.eq (g2 := F0 m 26 ls [.int (bI (0 ≤ p3.toInt ∧ p3.toInt < 32))]) (by rfl) ?_
        refine lv_if_eq (tgt := 33) hx hb dX9_add_26 (by decide) (fun c_4 => ?_) (fun c_4 => ?_)
        · have c_4 := bI_0 c_4
          refine lv_iconst (v := 0) hx hb dX9_add_33 (by decide) ?_
          refine vx_callv (rxS (fun _ => True) (As := [.int 0]) (rest := []) ⟨hx, hb, hml, hown, hts⟩ (c_X9_require l hst E z0 0) (cwS 1 hts (gdS ml_X9_53 st_X9_require in_X9 co_X9_require rfl) rfl rfl rfl (by decide +kernel) ⟨Nat.le_of_ble_eq_true rfl, Nat.le_of_ble_eq_true rfl⟩) trivial (fun U hU hW => hK.go hW hS hAz hU) rfl rfl hl.1 rfl (lv_room (Nat.le_of_ble_eq_true rfl)) dX9_add_34 ⟨Nat.le_of_ble_eq_true rfl, Nat.le_of_ble_eq_true rfl⟩) hS (fun q _ h => h.elim) (fun q h => h.elim) (fun q _ h => h.elim) (fun En ce q9 _ t H locs ht hvm hw hB hz hk hS hc1 hc2 hc3 => ?_) (fun _ t H locs ht hvm hw hB hz hk hS => ?_)
          · have hT : TH E (T1 E) G [] H := hT.kept (fun q hq => hk q hq (fun h => h))
            subst hB
            exact vx_out (fun x hx => (hne x hx).elim) hlocks hc1 hc2 hc3 (fun t ht hA => ⟨(), trivial, ⟨Or.inl rfl, by show TH E (T1 E) G [] t.heap; rw [ht]; exact hT⟩, hS.F ht⟩) hS.2.2 (Nat.le_of_ble_eq_true rfl) (Nat.le_of_ble_eq_true rfl)
          · have hT : TH E (T1 E) G [] H := hT.kept (fun q hq => hk q hq (fun h => h))
            exact absurd rfl hw
        · have c_4 := bI_n c_4
          refine lv_iconst (v := 1) hx hb dX9_add_29 (by decide) ?_
          refine lv_goto (tgt := 34) hx hb dX9_add_30 (by decide) ?_
          refine vx_callv (rxS (fun _ => True) (As := [.int 1]) (rest := []) ⟨hx, hb, hml, hown, hts⟩ (c_X9_require l hst E z0 1) (cwS 1 hts (gdS ml_X9_53 st_X9_require in_X9 co_X9_require rfl) rfl rfl rfl (by decide +kernel) ⟨Nat.le_of_ble_eq_true rfl, Nat.le_of_ble_eq_true rfl⟩) trivial (fun U hU hW => hK.go hW hS hAz hU) rfl rfl hl.1 rfl (lv_room (Nat.le_of_ble_eq_true rfl)) dX9_add_34 ⟨Nat.le_of_ble_eq_true rfl, Nat.le_of_ble_eq_true rfl⟩) hS (fun q _ h => h.elim) (fun q h => h.elim) (fun q _ h => h.elim) (fun En ce q9 _ t H locs ht hvm hw hB hz hk hS hc1 hc2 hc3 => ?_) (fun _ t H locs ht hvm hw hB hz hk hS => ?_)
          · have hT : TH E (T1 E) G [] H := hT.kept (fun q hq => hk q hq (fun h => h))
            exact absurd hw (by decide)
          · have hT : TH E (T1 E) G [] H := hT.kept (fun q hq => hk q hq (fun h => h))
            refine lv_aload_n hx hb dX9_add_37 rfl (lv_at hl 0 rfl) ?_
            obtain ⟨v0_5, v1_5, v2_5, ha_5, hg0_5, hg1_5, hg2_5⟩ := tr_1 hT hG
            refine va_get (D := DG E) (ci := 9) (v := .ref v1_5) (C := RX9) (T := TX9) (N := 3) hx hb hts iw_X9 hown hK.1 (va_one ha_5) 0 rfl rfl 1 (by decide) (hts _ fl_X9_29) (fun _ h9 => h9) rfl dX9_add_38 ?_
            refine lv_iload_n hx hb dX9_add_41 rfl (lv_at hl 1 rfl) ?_
            obtain ⟨f_6, ha_6, he_6⟩ := tr_3 hT hg1_5
            obtain ⟨j_7, hj_7, ej_7⟩ := vp_in_of (show vp_in p0 4 from vp_in_iff.mpr (by omega)) (by decide)
            obtain ⟨b_7, eb_7, gb_7⟩ := he_6 j_7 hj_7
            have cj_7 : f_6 (p0 : Int32).toNatClampNeg = some b_7 := by rw [ej_7, nI_clamp (by omega)]; exact eb_7
            refine va_aldq (D := DG E) hx hb hK.1 (va_one ha_6) 0 5 rfl rfl (show vp_in p0 4 from vp_in_iff.mpr (by omega)) dX9_add_42 ?_
            rw [cj_7]
            refine W.eq (g2 := F0 m 43 ls [.ref b_7]) (by rfl) ?_
            obtain ⟨v0_8, v1_8, v2_8, ha_8, hg0_8, hg1_8⟩ := tr_8 hT gb_7
            obtain ⟨v0_9, v1_9, v2_9, v3_9, v4_9, v5_9, v6_9, v7_9, v8_9, v9_9, v10_9, v11_9, v12_9, v13_9, ha_9, hb0_9, hg1_9, hg2_9, hg6_9⟩ := tr_9 hT hg0_8
            obtain ⟨v0_10, v1_10, v2_10, v3_10, v4_10, v5_10, ha_10, hg1_10, hg2_10, hb3_10, hb4_10⟩ := tr_11 hT hg6_9
            refine va_calli (rnV (fun H => TH E (T1 E) G [] H ∧ va_at (DG E) vwCl (b_7, .inr (3, [.ref v0_8, .ref v1_8, .int v2_8])) H ∧ va_at (DG E) vwCl (v0_8, .inr (7, [.int v0_9, .ref v1_9, .ref v2_9, .int v3_9, .int v4_9, .int v5_9, .ref v6_9, .int v7_9, .int v8_9, .int v9_9, .int v10_9, .int v11_9, .int v12_9, .int v13_9])) H ∧ va_at (DG E) vwCl (v6_9, .inr (5, [.int v0_10, .ref v1_10, .ref v2_10, .int v3_10, .int v4_10, .int v5_10])) H) (As := []) (rest := []) ⟨hx, hb, hml, hown, hts⟩ (t_X3_takesRequests l E z0 G hGz b_7 gb_7 v0_8 v1_8 v2_8 hg0_8 hg1_8 v0_9 v1_9 v2_9 v3_9 v4_9 v5_9 v6_9 v7_9 v8_9 v9_9 v10_9 v11_9 v12_9 v13_9 hg1_9 hg2_9 hg6_9 (by omega) v0_10 v1_10 v2_10 v3_10 v4_10 v5_10 hg1_10 hg2_10 (by omega) (by omega)) (cwV 0 hts (gdV ml_X9_101 im_X3_takesRequests se_X3_X3_takesRequests in_X3 co_X3_takesRequests rfl) rfl rfl rfl (by decide +kernel) ⟨Nat.le_of_ble_eq_true rfl, Nat.le_of_ble_eq_true rfl⟩) ⟨hT, ha_8, ha_9, ha_10⟩ (fun U hU hW => hK.go hW hS hAz hU) (va_recv hK.1 (va_one ha_8) (ci := 3) (q0 := 0) rfl rfl) rfl rfl hl.1 rfl (lv_room (Nat.le_of_ble_eq_true rfl)) dX9_add_43 ⟨Nat.le_of_ble_eq_true rfl, Nat.le_of_ble_eq_true rfl⟩) hS (fun q _ h => h.elim) (fun q h => h.elim) (fun r_11 _ t H locs ht hvm hwr_11 hB hz hk hS => ?_)
            have hT : TH E (T1 E) G [] H := hT.kept (fun q hq => hk q hq (fun h => h))
            have ha_5 := ha_5.kept (hk _ ha_5.lt (fun h => h))
            have ha_6 := ha_6.kept (hk _ ha_6.lt (fun h => h))
            have ha_8 := ha_8.kept (hk _ ha_8.lt (fun h => h))
            have ha_9 := ha_9.kept (hk _ ha_9.lt (fun h => h))
            have ha_10 := ha_10.kept (hk _ ha_10.lt (fun h => h))
            have hzr_11 := s_rng hwr_11.1
            refine vx_callv (rxS (fun _ => True) (As := [.int r_11]) (rest := []) ⟨hx, hb, hml, hown, hts⟩ (c_X9_requireState l hst E z0 r_11) (cwS 1 hts (gdS ml_X9_88 st_X9_requireState in_X9 co_X9_requireState rfl) rfl rfl rfl (by decide +kernel) ⟨Nat.le_of_ble_eq_true rfl, Nat.le_of_ble_eq_true rfl⟩) trivial (fun U hU hW => hK.go hW hS hAz hU) rfl rfl hl.1 rfl (lv_room (Nat.le_of_ble_eq_true rfl)) dX9_add_46 ⟨Nat.le_of_ble_eq_true rfl, Nat.le_of_ble_eq_true rfl⟩) hS (fun q _ h => h.elim) (fun q h => h.elim) (fun q _ h => h.elim) (fun En ce q9 _ t H locs ht hvm hw hB hz hk hS hc1 hc2 hc3 => ?_) (fun _ t H locs ht hvm hw hB hz hk hS => ?_)
            · have hT : TH E (T1 E) G [] H := hT.kept (fun q hq => hk q hq (fun h => h))
              simp only [lt_I, le_I, eq_I, i_0, i_1, i_2, i_3, i_4, i_5, i_6, i_7, i_8, i_10, i_12, i_16, i_20, i_23, i_24, i_31, i_32, i_63, i_64, i_m1] at hw
              subst hB
              exact vx_out (fun x hx => (hne x hx).elim) hlocks hc1 hc2 hc3 (fun t ht hA => ⟨(), trivial, ⟨Or.inr rfl, by show TH E (T1 E) G [] t.heap; rw [ht]; exact hT⟩, hS.F ht⟩) hS.2.2 (Nat.le_of_ble_eq_true rfl) (Nat.le_of_ble_eq_true rfl)
            · have hT : TH E (T1 E) G [] H := hT.kept (fun q hq => hk q hq (fun h => h))
              simp only [lt_I, le_I, eq_I, i_0, i_1, i_2, i_3, i_4, i_5, i_6, i_7, i_8, i_10, i_12, i_16, i_20, i_23, i_24, i_31, i_32, i_63, i_64, i_m1] at hw
              have ha_5 := ha_5.kept (hk _ ha_5.lt (fun h => h))
              have ha_6 := ha_6.kept (hk _ ha_6.lt (fun h => h))
              have ha_8 := ha_8.kept (hk _ ha_8.lt (fun h => h))
              have ha_9 := ha_9.kept (hk _ ha_9.lt (fun h => h))
              have ha_10 := ha_10.kept (hk _ ha_10.lt (fun h => h))
              refine lv_aload_n hx hb dX9_add_49 rfl (lv_at hl 0 rfl) ?_
              refine va_get (D := DG E) (ci := 9) (v := .ref v1_5) (C := RX9) (T := TX9) (N := 3) hx hb hts iw_X9 hown hK.1 (va_one ha_5) 0 rfl rfl 1 (by decide) (hts _ fl_X9_29) (fun _ h9 => h9) rfl dX9_add_50 ?_
              refine lv_iload_n hx hb dX9_add_53 rfl (lv_at hl 1 rfl) ?_
              refine va_aldq (D := DG E) hx hb hK.1 (va_one ha_6) 0 5 rfl rfl (show vp_in p0 4 from vp_in_iff.mpr (by omega)) dX9_add_54 ?_
              rw [cj_7]
              refine W.eq (g2 := F0 m 55 ls [.ref b_7]) (by rfl) ?_
              refine va_get (D := DG E) (ci := 3) (v := .ref v0_8) (C := RX3) (T := TX3) (N := 3) hx hb hts iw_X3 hown hK.1 (va_one ha_8) 0 rfl rfl 0 (by decide) (hts _ fl_X9_105) (fun _ h9 => h9) rfl dX9_add_55 ?_
              refine lv_iconst (v := 3) hx hb dX9_add_58 (by decide) ?_
              refine lv_iload_n hx hb dX9_add_59 rfl (lv_at hl 2 rfl) ?_
              refine lv_iconst (v := 1) hx hb dX9_add_60 (by decide) ?_
              refine lv_iload_n hx hb dX9_add_61 rfl (lv_at hl 3 rfl) ?_
              refine lv_iload hx hb dX9_add_62 (lv_at hl 4 rfl) ?_
              refine lv_iload hx hb dX9_add_64 (lv_at hl 5 rfl) ?_
              refine va_calli (rnV (fun H => TH E (T1 E) G [] H ∧ va_at (DG E) vwCl (v0_8, .inr (7, [.int v0_9, .ref v1_9, .ref v2_9, .int v3_9, .int v4_9, .int v5_9, .ref v6_9, .int v7_9, .int v8_9, .int v9_9, .int v10_9, .int v11_9, .int v12_9, .int v13_9])) H ∧ va_at (DG E) vwCl (v6_9, .inr (5, [.int v0_10, .ref v1_10, .ref v2_10, .int v3_10, .int v4_10, .int v5_10])) H) (As := [.int 3, .int p1, .int 1, .int p2, .int p3, .int p4]) (rest := []) ⟨hx, hb, hml, hown, hts⟩ (t_X7_post l E z0 G hGz v0_8 3 p1 1 p2 p3 p4 hg0_8 v0_9 v1_9 v2_9 v3_9 v4_9 v5_9 v6_9 v7_9 v8_9 v9_9 v10_9 v11_9 v12_9 v13_9 hg1_9 hg2_9 hg6_9 (by omega) v0_10 v1_10 v2_10 v3_10 v4_10 v5_10 hg1_10 hg2_10 (by omega) (by omega) (by have := i_3; have := i_1; first | omega | decide) (by have := i_3; have := i_1; first | omega | decide)) (cwV 6 hts (gdV ml_X9_109 im_X7_post se_X7_X7_post in_X7 co_X7_post rfl) rfl rfl rfl (by decide +kernel) ⟨Nat.le_of_ble_eq_true rfl, Nat.le_of_ble_eq_true rfl⟩) ⟨hT, ha_9, ha_10⟩ (fun U hU hW => hK.go hW hS hAz hU) (va_recv hK.1 (va_one ha_9) (ci := 7) (q0 := 0) rfl rfl) rfl rfl hl.1 rfl (lv_room (Nat.le_of_ble_eq_true rfl)) dX9_add_66 ⟨Nat.le_of_ble_eq_true rfl, Nat.le_of_ble_eq_true rfl⟩) hS (fun q _ h => mL (L' := [9, 11, 13]) (L := [9, 11, 13]) (by decide) h) (fun q h => mL (L' := [9, 11, 13]) (L := [9, 11, 13]) (by decide) h) (fun r_12 _ t H locs ht hvm hwr_12 hB hz hk hS => ?_)
              have hT : TH E (T1 E) G [] H := by rw [ht] at hB; exact hB
              have ha_5 := ha_5.kept (hk _ ha_5.lt (nL hG (by decide)))
              have ha_6 := ha_6.kept (hk _ ha_6.lt (nL hg1_5 (by decide)))
              have ha_8 := ha_8.kept (hk _ ha_8.lt (nL gb_7 (by decide)))
              refine vx_ret ?_
              refine W.widen (k := 2) (n := 12) (Nat.le_of_ble_eq_true rfl) (Nat.le_of_ble_eq_true rfl) ?_
              exact W.iret (v := r_12) hx hb hr (fun t ht hW => ⟨⟨r_12, (), rfl, trivial, (by show TH E (T1 E) G [] t.heap; rw [ht]; exact hT)⟩, hS.F ht⟩) hS.2.2 dX9_add_69
theorem dX9_receive_0 : decode cX9_receive 0 = .ok (.iload_n 1, 1) := by decide +kernel
theorem dX9_receive_1 : decode cX9_receive 1 = .ok (.invokestatic 78, 3) := by decide +kernel
theorem dX9_receive_4 : decode cX9_receive 4 = .ok (.ifCond .eq 15, 3) := by decide +kernel
theorem dX9_receive_7 : decode cX9_receive 7 = .ok (.iload_n 2, 1) := by decide +kernel
theorem dX9_receive_8 : decode cX9_receive 8 = .ok (.iload_n 3, 1) := by decide +kernel
theorem dX9_receive_9 : decode cX9_receive 9 = .ok (.invokestatic 97, 3) := by decide +kernel
theorem dX9_receive_12 : decode cX9_receive 12 = .ok (.ifCond .eq 7, 3) := by decide +kernel
theorem dX9_receive_15 : decode cX9_receive 15 = .ok (.iconst 1, 1) := by decide +kernel
theorem dX9_receive_16 : decode cX9_receive 16 = .ok (.goto 4, 3) := by decide +kernel
theorem dX9_receive_19 : decode cX9_receive 19 = .ok (.iconst 0, 1) := by decide +kernel
theorem dX9_receive_20 : decode cX9_receive 20 = .ok (.invokestatic 53, 3) := by decide +kernel
theorem dX9_receive_23 : decode cX9_receive 23 = .ok (.aload_n 0, 1) := by decide +kernel
theorem dX9_receive_24 : decode cX9_receive 24 = .ok (.getfield 29, 3) := by decide +kernel
theorem dX9_receive_27 : decode cX9_receive 27 = .ok (.iload_n 1, 1) := by decide +kernel
theorem dX9_receive_28 : decode cX9_receive 28 = .ok (.aaload, 1) := by decide +kernel
theorem dX9_receive_29 : decode cX9_receive 29 = .ok (.invokevirtual 113, 3) := by decide +kernel
theorem dX9_receive_32 : decode cX9_receive 32 = .ok (.invokestatic 88, 3) := by decide +kernel
theorem dX9_receive_35 : decode cX9_receive 35 = .ok (.aload_n 0, 1) := by decide +kernel
theorem dX9_receive_36 : decode cX9_receive 36 = .ok (.getfield 29, 3) := by decide +kernel
theorem dX9_receive_39 : decode cX9_receive 39 = .ok (.iload_n 1, 1) := by decide +kernel
theorem dX9_receive_40 : decode cX9_receive 40 = .ok (.aaload, 1) := by decide +kernel
theorem dX9_receive_41 : decode cX9_receive 41 = .ok (.getfield 116, 3) := by decide +kernel
theorem dX9_receive_44 : decode cX9_receive 44 = .ok (.getfield 120, 3) := by decide +kernel
theorem dX9_receive_47 : decode cX9_receive 47 = .ok (.iconst 4, 1) := by decide +kernel
theorem dX9_receive_48 : decode cX9_receive 48 = .ok (.iload_n 2, 1) := by decide +kernel
theorem dX9_receive_49 : decode cX9_receive 49 = .ok (.iload_n 3, 1) := by decide +kernel
theorem dX9_receive_50 : decode cX9_receive 50 = .ok (.invokevirtual 124, 3) := by decide +kernel
theorem dX9_receive_53 : decode cX9_receive 53 = .ok (.getfield 130, 3) := by decide +kernel
theorem dX9_receive_56 : decode cX9_receive 56 = .ok (.ireturn, 1) := by decide +kernel
set_option maxHeartbeats 8000000 in
set_option maxRecDepth 100000 in
theorem t_X9_receive (l : Launch) (hst : l.stackTraces = false) (E : EE) (z0 : Nat) (G : Nat → Nat) (hGz : ∀ q, G q ≠ 0 → z0 ≤ q) (h0 : Nat) (p0 : Int32) (p1 : Int32) (p2 : Int32) (hG : G h0 = 1) : vx_Met l yX9_receive [Cond.code yX9_receive cX9_receive 4 (some .int)] ({ frames := 7, cells := 2, slots := 12, locals := 101 } : Room) (va_Pc [.ref h0, .int p0, .int p1, .int p2] (fun U => (TH E (T1 E) G [] U.heap) ∧ KS E z0 U)) (va_Qi (fun (r : Int32) (_ : Unit) => True) (fun _ t => TH E (T1 E) G [] t.heap) (fun q : Nat => G q ∈ ([11, 13] : List Nat))) (vx_X (fun (_ : Unit) => True) (fun En _ t => (En = IAE ∨ En = ISE) ∧ TH E (T1 E) G [] t.heap) (fun q : Nat => G q ∈ ([11, 13] : List Nat))) 2 12 (fun q : Nat => G q ∈ ([11, 13] : List Nat)) := by
  refine vx_ofW (cc := cX9_receive) (maxL := 4) (ret := (some .int)) (by decide) rfl ?_
  intro p e s m args below meth c s₁ B hml hne hv
  obtain ⟨rfl, hT, hK⟩ := hv
  have hx := B.exec
  have hb := B.bytes
  have hr := B.returns
  have hts : ∀ w ∈ TS, w.before ([.ref h0, .int p0, .int p1, .int p2] : List Value).toArray s = true := fun w hw => hK.2.1 w hw _
  have hown : s.vm.findClass RX9 = some m.cls := findClass_of_methodNamed B.named
  have hlocks := B.notSynchronized
  have hS : va_S (fun q : Nat => G q ∈ ([11, 13] : List Nat)) s.heap s.heap [] := va_S.rf
  have hAz : ∀ q, (fun q : Nat => G q ∈ ([11, 13] : List Nat)) q → z0 ≤ q := zL hGz (by decide)
  have hl := lv_entry ([.ref h0, .int p0, .int p1, .int p2]) (n := 4) (Nat.le_of_ble_eq_true rfl)
  rw [lg_entry_eq]
  generalize (lg_sl ([.ref h0, .int p0, .int p1, .int p2]) ++ List.replicate (4 - (lg_sl ([.ref h0, .int p0, .int p1, .int p2])).length) Slot.unset).toArray = ls at hl ⊢
  have hl : lv_has ls 4 [(0, .ref h0), (1, .int p0), (2, .int p1), (3, .int p2)] := hl
  refine lv_iload_n hx hb dX9_receive_0 rfl (lv_at hl 1 rfl) ?_
  refine W.callR (W.runS (As := [.int p0]) (rest := []) ⟨hx, hb, hml, hown, hts⟩ (c_X9_isPair l p0) (cwS 1 hts (gdS ml_X9_78 st_X9_isPair in_X9 co_X9_isPair rfl) rfl rfl rfl (by decide +kernel) ⟨Nat.le_of_ble_eq_true rfl, Nat.le_of_ble_eq_true rfl⟩) preEq rfl rfl hl.1 rfl (lv_room (Nat.le_of_ble_eq_true rfl)) dX9_receive_1 ⟨Nat.le_of_ble_eq_true rfl, Nat.le_of_ble_eq_true rfl⟩) ?_
  refine W.eq (g2 := F0 m 4 ls [.int (bI (0 ≤ p0.toInt ∧ p0.toInt < 4))]) (by rfl) ?_
  refine lv_if_eq (tgt := 19) hx hb dX9_receive_4 (by decide) (fun c_1 => ?_) (fun c_1 => ?_)
  · have c_1 := bI_0 c_1
    refine lv_iconst (v := 0) hx hb dX9_receive_19 (by decide) ?_
    refine vx_callv (rxS (fun _ => True) (As := [.int 0]) (rest := []) ⟨hx, hb, hml, hown, hts⟩ (c_X9_require l hst E z0 0) (cwS 1 hts (gdS ml_X9_53 st_X9_require in_X9 co_X9_require rfl) rfl rfl rfl (by decide +kernel) ⟨Nat.le_of_ble_eq_true rfl, Nat.le_of_ble_eq_true rfl⟩) trivial (fun U hU hW => hK.go hW hS hAz hU) rfl rfl hl.1 rfl (lv_room (Nat.le_of_ble_eq_true rfl)) dX9_receive_20 ⟨Nat.le_of_ble_eq_true rfl, Nat.le_of_ble_eq_true rfl⟩) hS (fun q _ h => h.elim) (fun q h => h.elim) (fun q _ h => h.elim) (fun En ce q9 _ t H locs ht hvm hw hB hz hk hS hc1 hc2 hc3 => ?_) (fun _ t H locs ht hvm hw hB hz hk hS => ?_)
    · have hT : TH E (T1 E) G [] H := hT.kept (fun q hq => hk q hq (fun h => h))
      subst hB
      exact vx_out (fun x hx => (hne x hx).elim) hlocks hc1 hc2 hc3 (fun t ht hA => ⟨(), trivial, ⟨Or.inl rfl, by show TH E (T1 E) G [] t.heap; rw [ht]; exact hT⟩, hS.F ht⟩) hS.2.2 (Nat.le_of_ble_eq_true rfl) (Nat.le_of_ble_eq_true rfl)
    · have hT : TH E (T1 E) G [] H := hT.kept (fun q hq => hk q hq (fun h => h))
      exact absurd rfl hw
  · have c_1 := bI_n c_1
    refine lv_iload_n hx hb dX9_receive_7 rfl (lv_at hl 2 rfl) ?_
    refine lv_iload_n hx hb dX9_receive_8 rfl (lv_at hl 3 rfl) ?_
    refine W.callR (W.runS (As := [.int p1, .int p2]) (rest := []) ⟨hx, hb, hml, hown, hts⟩ (c_X9_areCells l p1 p2) (cwS 2 hts (gdS ml_X9_97 st_X9_areCells in_X9 co_X9_areCells rfl) rfl rfl rfl (by decide +kernel) ⟨Nat.le_of_ble_eq_true rfl, Nat.le_of_ble_eq_true rfl⟩) preEq rfl rfl hl.1 rfl (lv_room (Nat.le_of_ble_eq_true rfl)) dX9_receive_9 ⟨Nat.le_of_ble_eq_true rfl, Nat.le_of_ble_eq_true rfl⟩) ?_
    refine W.eq (g2 := F0 m 12 ls [.int (bI (1 ≤ p2.toInt ∧ p2.toInt ≤ 12 ∧ 0 ≤ p1.toInt ∧ p1.toInt ≤ 32 - p2.toInt))]) (by rfl) ?_
    refine lv_if_eq (tgt := 19) hx hb dX9_receive_12 (by decide) (fun c_2 => ?_) (fun c_2 => ?_)
    · have c_2 := bI_0 c_2
      refine lv_iconst (v := 0) hx hb dX9_receive_19 (by decide) ?_
      refine vx_callv (rxS (fun _ => True) (As := [.int 0]) (rest := []) ⟨hx, hb, hml, hown, hts⟩ (c_X9_require l hst E z0 0) (cwS 1 hts (gdS ml_X9_53 st_X9_require in_X9 co_X9_require rfl) rfl rfl rfl (by decide +kernel) ⟨Nat.le_of_ble_eq_true rfl, Nat.le_of_ble_eq_true rfl⟩) trivial (fun U hU hW => hK.go hW hS hAz hU) rfl rfl hl.1 rfl (lv_room (Nat.le_of_ble_eq_true rfl)) dX9_receive_20 ⟨Nat.le_of_ble_eq_true rfl, Nat.le_of_ble_eq_true rfl⟩) hS (fun q _ h => h.elim) (fun q h => h.elim) (fun q _ h => h.elim) (fun En ce q9 _ t H locs ht hvm hw hB hz hk hS hc1 hc2 hc3 => ?_) (fun _ t H locs ht hvm hw hB hz hk hS => ?_)
      · have hT : TH E (T1 E) G [] H := hT.kept (fun q hq => hk q hq (fun h => h))
        subst hB
        exact vx_out (fun x hx => (hne x hx).elim) hlocks hc1 hc2 hc3 (fun t ht hA => ⟨(), trivial, ⟨Or.inl rfl, by show TH E (T1 E) G [] t.heap; rw [ht]; exact hT⟩, hS.F ht⟩) hS.2.2 (Nat.le_of_ble_eq_true rfl) (Nat.le_of_ble_eq_true rfl)
      · have hT : TH E (T1 E) G [] H := hT.kept (fun q hq => hk q hq (fun h => h))
        exact absurd rfl hw
    · have c_2 := bI_n c_2
      refine lv_iconst (v := 1) hx hb dX9_receive_15 (by decide) ?_
      refine lv_goto (tgt := 20) hx hb dX9_receive_16 (by decide) ?_
      refine vx_callv (rxS (fun _ => True) (As := [.int 1]) (rest := []) ⟨hx, hb, hml, hown, hts⟩ (c_X9_require l hst E z0 1) (cwS 1 hts (gdS ml_X9_53 st_X9_require in_X9 co_X9_require rfl) rfl rfl rfl (by decide +kernel) ⟨Nat.le_of_ble_eq_true rfl, Nat.le_of_ble_eq_true rfl⟩) trivial (fun U hU hW => hK.go hW hS hAz hU) rfl rfl hl.1 rfl (lv_room (Nat.le_of_ble_eq_true rfl)) dX9_receive_20 ⟨Nat.le_of_ble_eq_true rfl, Nat.le_of_ble_eq_true rfl⟩) hS (fun q _ h => h.elim) (fun q h => h.elim) (fun q _ h => h.elim) (fun En ce q9 _ t H locs ht hvm hw hB hz hk hS hc1 hc2 hc3 => ?_) (fun _ t H locs ht hvm hw hB hz hk hS => ?_)
      · have hT : TH E (T1 E) G [] H := hT.kept (fun q hq => hk q hq (fun h => h))
        exact absurd hw (by decide)
      · have hT : TH E (T1 E) G [] H := hT.kept (fun q hq => hk q hq (fun h => h))
        refine lv_aload_n hx hb dX9_receive_23 rfl (lv_at hl 0 rfl) ?_
        obtain ⟨v0_3, v1_3, v2_3, ha_3, hg0_3, hg1_3, hg2_3⟩ := tr_1 hT hG
        refine va_get (D := DG E) (ci := 9) (v := .ref v1_3) (C := RX9) (T := TX9) (N := 3) hx hb hts iw_X9 hown hK.1 (va_one ha_3) 0 rfl rfl 1 (by decide) (hts _ fl_X9_29) (fun _ h9 => h9) rfl dX9_receive_24 ?_
        refine lv_iload_n hx hb dX9_receive_27 rfl (lv_at hl 1 rfl) ?_
        obtain ⟨f_4, ha_4, he_4⟩ := tr_3 hT hg1_3
        obtain ⟨j_5, hj_5, ej_5⟩ := vp_in_of (show vp_in p0 4 from vp_in_iff.mpr (by omega)) (by decide)
        obtain ⟨b_5, eb_5, gb_5⟩ := he_4 j_5 hj_5
        have cj_5 : f_4 (p0 : Int32).toNatClampNeg = some b_5 := by rw [ej_5, nI_clamp (by omega)]; exact eb_5
        refine va_aldq (D := DG E) hx hb hK.1 (va_one ha_4) 0 5 rfl rfl (show vp_in p0 4 from vp_in_iff.mpr (by omega)) dX9_receive_28 ?_
        rw [cj_5]
        refine W.eq (g2 := F0 m 29 ls [.ref b_5]) (by rfl) ?_
        obtain ⟨v0_6, v1_6, v2_6, ha_6, hg0_6, hg1_6⟩ := tr_8 hT gb_5
        obtain ⟨v0_7, v1_7, v2_7, v3_7, v4_7, v5_7, v6_7, v7_7, v8_7, ha_7, hb0_7, hg1_7, hg2_7, hg3_7, hg7_7, hg8_7⟩ := tr_10 hT hg1_6
        obtain ⟨v0_8, v1_8, v2_8, v3_8, v4_8, v5_8, ha_8, hg1_8, hg2_8, hb3_8, hb4_8⟩ := tr_11 hT hg3_7
        refine va_calli (rnV (fun H => TH E (T1 E) G [] H ∧ va_at (DG E) vwCl (b_5, .inr (3, [.ref v0_6, .ref v1_6, .int v2_6])) H ∧ va_at (DG E) vwCl (v1_6, .inr (8, [.int v0_7, .ref v1_7, .ref v2_7, .ref v3_7, .int v4_7, .int v5_7, .int v6_7, .ref v7_7, .ref v8_7])) H ∧ va_at (DG E) vwCl (v3_7, .inr (5, [.int v0_8, .ref v1_8, .ref v2_8, .int v3_8, .int v4_8, .int v5_8])) H) (As := []) (rest := []) ⟨hx, hb, hml, hown, hts⟩ (t_X3_takesReceives l E z0 G hGz b_5 gb_5 v0_6 v1_6 v2_6 hg0_6 hg1_6 v0_7 v1_7 v2_7 v3_7 v4_7 v5_7 v6_7 v7_7 v8_7 hg1_7 hg2_7 hg3_7 hg7_7 hg8_7 (by omega) v0_8 v1_8 v2_8 v3_8 v4_8 v5_8 hg1_8 hg2_8 (by omega) (by omega)) (cwV 0 hts (gdV ml_X9_113 im_X3_takesReceives se_X3_X3_takesReceives in_X3 co_X3_takesReceives rfl) rfl rfl rfl (by decide +kernel) ⟨Nat.le_of_ble_eq_true rfl, Nat.le_of_ble_eq_true rfl⟩) ⟨hT, ha_6, ha_7, ha_8⟩ (fun U hU hW => hK.go hW hS hAz hU) (va_recv hK.1 (va_one ha_6) (ci := 3) (q0 := 0) rfl rfl) rfl rfl hl.1 rfl (lv_room (Nat.le_of_ble_eq_true rfl)) dX9_receive_29 ⟨Nat.le_of_ble_eq_true rfl, Nat.le_of_ble_eq_true rfl⟩) hS (fun q _ h => h.elim) (fun q h => h.elim) (fun r_9 _ t H locs ht hvm hwr_9 hB hz hk hS => ?_)
        have hT : TH E (T1 E) G [] H := hT.kept (fun q hq => hk q hq (fun h => h))
        have ha_3 := ha_3.kept (hk _ ha_3.lt (fun h => h))
        have ha_4 := ha_4.kept (hk _ ha_4.lt (fun h => h))
        have ha_6 := ha_6.kept (hk _ ha_6.lt (fun h => h))
        have ha_7 := ha_7.kept (hk _ ha_7.lt (fun h => h))
        have ha_8 := ha_8.kept (hk _ ha_8.lt (fun h => h))
        have hzr_9 := s_rng hwr_9.1
        refine vx_callv (rxS (fun _ => True) (As := [.int r_9]) (rest := []) ⟨hx, hb, hml, hown, hts⟩ (c_X9_requireState l hst E z0 r_9) (cwS 1 hts (gdS ml_X9_88 st_X9_requireState in_X9 co_X9_requireState rfl) rfl rfl rfl (by decide +kernel) ⟨Nat.le_of_ble_eq_true rfl, Nat.le_of_ble_eq_true rfl⟩) trivial (fun U hU hW => hK.go hW hS hAz hU) rfl rfl hl.1 rfl (lv_room (Nat.le_of_ble_eq_true rfl)) dX9_receive_32 ⟨Nat.le_of_ble_eq_true rfl, Nat.le_of_ble_eq_true rfl⟩) hS (fun q _ h => h.elim) (fun q h => h.elim) (fun q _ h => h.elim) (fun En ce q9 _ t H locs ht hvm hw hB hz hk hS hc1 hc2 hc3 => ?_) (fun _ t H locs ht hvm hw hB hz hk hS => ?_)
        · have hT : TH E (T1 E) G [] H := hT.kept (fun q hq => hk q hq (fun h => h))
          simp only [lt_I, le_I, eq_I, i_0, i_1, i_2, i_3, i_4, i_5, i_6, i_7, i_8, i_10, i_12, i_16, i_20, i_23, i_24, i_31, i_32, i_63, i_64, i_m1] at hw
          subst hB
          exact vx_out (fun x hx => (hne x hx).elim) hlocks hc1 hc2 hc3 (fun t ht hA => ⟨(), trivial, ⟨Or.inr rfl, by show TH E (T1 E) G [] t.heap; rw [ht]; exact hT⟩, hS.F ht⟩) hS.2.2 (Nat.le_of_ble_eq_true rfl) (Nat.le_of_ble_eq_true rfl)
        · have hT : TH E (T1 E) G [] H := hT.kept (fun q hq => hk q hq (fun h => h))
          simp only [lt_I, le_I, eq_I, i_0, i_1, i_2, i_3, i_4, i_5, i_6, i_7, i_8, i_10, i_12, i_16, i_20, i_23, i_24, i_31, i_32, i_63, i_64, i_m1] at hw
          have ha_3 := ha_3.kept (hk _ ha_3.lt (fun h => h))
          have ha_4 := ha_4.kept (hk _ ha_4.lt (fun h => h))
          have ha_6 := ha_6.kept (hk _ ha_6.lt (fun h => h))
          have ha_7 := ha_7.kept (hk _ ha_7.lt (fun h => h))
          have ha_8 := ha_8.kept (hk _ ha_8.lt (fun h => h))
          refine lv_aload_n hx hb dX9_receive_35 rfl (lv_at hl 0 rfl) ?_
          refine va_get (D := DG E) (ci := 9) (v := .ref v1_3) (C := RX9) (T := TX9) (N := 3) hx hb hts iw_X9 hown hK.1 (va_one ha_3) 0 rfl rfl 1 (by decide) (hts _ fl_X9_29) (fun _ h9 => h9) rfl dX9_receive_36 ?_
          refine lv_iload_n hx hb dX9_receive_39 rfl (lv_at hl 1 rfl) ?_
          refine va_aldq (D := DG E) hx hb hK.1 (va_one ha_4) 0 5 rfl rfl (show vp_in p0 4 from vp_in_iff.mpr (by omega)) dX9_receive_40 ?_
          rw [cj_5]
          refine W.eq (g2 := F0 m 41 ls [.ref b_5]) (by rfl) ?_
          refine va_get (D := DG E) (ci := 3) (v := .ref v1_6) (C := RX3) (T := TX3) (N := 3) hx hb hts iw_X3 hown hK.1 (va_one ha_6) 0 rfl rfl 1 (by decide) (hts _ fl_X9_116) (fun _ h9 => h9) rfl dX9_receive_41 ?_
          refine va_get (D := DG E) (ci := 8) (v := .ref v3_7) (C := RX8) (T := TX8) (N := 9) hx hb hts iw_X8 hown hK.1 (va_one ha_7) 0 rfl rfl 3 (by decide) (hts _ fl_X9_120) (fun _ h9 => h9) rfl dX9_receive_44 ?_
          refine lv_iconst (v := 4) hx hb dX9_receive_47 (by decide) ?_
          refine lv_iload_n hx hb dX9_receive_48 rfl (lv_at hl 2 rfl) ?_
          refine lv_iload_n hx hb dX9_receive_49 rfl (lv_at hl 3 rfl) ?_
          refine va_callr (rnV (fun H => TH E (T1 E) G [] H ∧ va_at (DG E) vwCl (v3_7, .inr (5, [.int v0_8, .ref v1_8, .ref v2_8, .int v3_8, .int v4_8, .int v5_8])) H) (As := [.int 4, .int p1, .int p2]) (rest := []) ⟨hx, hb, hml, hown, hts⟩ (t_X5_append l E z0 G hGz v3_7 4 p1 p2 hg3_7 v0_8 v1_8 v2_8 v3_8 v4_8 v5_8 hg1_8 hg2_8 (by omega) (by omega) (by have := i_4; first | omega | decide) (by have := i_4; first | omega | decide)) (cwV 3 hts (gdV ml_X9_124 im_X5_append se_X5_X5_append in_X5 co_X5_append rfl) rfl rfl rfl (by decide +kernel) ⟨Nat.le_of_ble_eq_true rfl, Nat.le_of_ble_eq_true rfl⟩) ⟨hT, ha_8⟩ (fun U hU hW => hK.go hW hS hAz hU) (va_recv hK.1 (va_one ha_8) (ci := 5) (q0 := 0) rfl rfl) rfl rfl hl.1 rfl (lv_room (Nat.le_of_ble_eq_true rfl)) dX9_receive_50 ⟨Nat.le_of_ble_eq_true rfl, Nat.le_of_ble_eq_true rfl⟩) hS (fun q _ h => mL (L' := [11, 13]) (L := [11, 13]) (by decide) h) (fun q h => mL (L' := [11, 13]) (L := [11, 13]) (by decide) h) (fun _ r_10 t H locs ht hvm hwr_10 hB hz hk hS => ?_)
          have hT : TH E (T1 E) G [] H := by have hB := hB.2; rw [ht] at hB; exact hB
          have grr_10 : G r_10 = 13 := hB.1
          have ha_3 := ha_3.kept (hk _ ha_3.lt (nL hG (by decide)))
          have ha_4 := ha_4.kept (hk _ ha_4.lt (nL hg1_3 (by decide)))
          have ha_6 := ha_6.kept (hk _ ha_6.lt (nL gb_5 (by decide)))
          have ha_7 := ha_7.kept (hk _ ha_7.lt (nL hg1_6 (by decide)))
          obtain ⟨v0_11, v1_11, v2_11, v3_11, v4_11, v5_11, v6_11, v7_11, v8_11, v9_11, ha_11, hb3_11⟩ := tr_13 hT grr_10
          refine va_get (D := DG E) (ci := 4) (v := .int v1_11) (C := RX4) (T := TX4) (N := 10) hx hb hts iw_X4 hown hK.1 (va_one ha_11) 0 rfl rfl 1 (by decide) (hts _ fl_X9_130) (fun _ h9 => h9) rfl dX9_receive_53 ?_
          refine vx_ret ?_
          refine W.widen (k := 2) (n := 12) (Nat.le_of_ble_eq_true rfl) (Nat.le_of_ble_eq_true rfl) ?_
          exact W.iret (v := v1_11) hx hb hr (fun t ht hW => ⟨⟨v1_11, (), rfl, trivial, (by show TH E (T1 E) G [] t.heap; rw [ht]; exact hT)⟩, hS.F ht⟩) hS.2.2 dX9_receive_56
theorem dX9_push_0 : decode cX9_push 0 = .ok (.iload_n 1, 1) := by decide +kernel
theorem dX9_push_1 : decode cX9_push 1 = .ok (.invokestatic 78, 3) := by decide +kernel
theorem dX9_push_4 : decode cX9_push 4 = .ok (.ifCond .eq 31, 3) := by decide +kernel
theorem dX9_push_7 : decode cX9_push 7 = .ok (.aload_n 0, 1) := by decide +kernel
theorem dX9_push_8 : decode cX9_push 8 = .ok (.getfield 29, 3) := by decide +kernel
theorem dX9_push_11 : decode cX9_push 11 = .ok (.iload_n 1, 1) := by decide +kernel
theorem dX9_push_12 : decode cX9_push 12 = .ok (.aaload, 1) := by decide +kernel
theorem dX9_push_13 : decode cX9_push 13 = .ok (.getfield 84, 3) := by decide +kernel
theorem dX9_push_16 : decode cX9_push 16 = .ok (.iconst 1, 1) := by decide +kernel
theorem dX9_push_17 : decode cX9_push 17 = .ok (.if_icmp .ne 18, 3) := by decide +kernel
theorem dX9_push_20 : decode cX9_push 20 = .ok (.aload_n 0, 1) := by decide +kernel
theorem dX9_push_21 : decode cX9_push 21 = .ok (.getfield 29, 3) := by decide +kernel
theorem dX9_push_24 : decode cX9_push 24 = .ok (.iload_n 1, 1) := by decide +kernel
theorem dX9_push_25 : decode cX9_push 25 = .ok (.aaload, 1) := by decide +kernel
theorem dX9_push_26 : decode cX9_push 26 = .ok (.getfield 105, 3) := by decide +kernel
theorem dX9_push_29 : decode cX9_push 29 = .ok (.invokevirtual 135, 3) := by decide +kernel
theorem dX9_push_32 : decode cX9_push 32 = .ok (.goto 4, 3) := by decide +kernel
theorem dX9_push_35 : decode cX9_push 35 = .ok (.iconst (-1), 1) := by decide +kernel
theorem dX9_push_36 : decode cX9_push 36 = .ok (.ireturn, 1) := by decide +kernel
set_option maxHeartbeats 8000000 in
set_option maxRecDepth 100000 in
theorem t_X9_push (l : Launch) (E : EE) (z0 : Nat) (G : Nat → Nat) (hGz : ∀ q, G q ≠ 0 → z0 ≤ q) (h0 : Nat) (p0 : Int32) (hG : G h0 = 1) : Met l yX9_push [Cond.code yX9_push cX9_push 2 (some .int)] ({ frames := 5, cells := 0, slots := 0, locals := 114 } : Room) (va_Pc [.ref h0, .int p0] (fun U => (TH E (T1 E) G [] U.heap) ∧ KS E z0 U)) (va_Qi (fun (r : Int32) (_ : Unit) => True) (fun _ t => TH E (T1 E) G [] t.heap) (fun q : Nat => G q ∈ ([9, 4, 31, 32] : List Nat))) 0 0 (fun q : Nat => G q ∈ ([9, 4, 31, 32] : List Nat)) := by
  refine Met.ofW (cc := cX9_push) (maxL := 2) (ret := (some .int)) (by decide) rfl ?_
  intro p e s m args below meth c s₁ B hml hv
  obtain ⟨rfl, hT, hK⟩ := hv
  have hx := B.exec
  have hb := B.bytes
  have hr := B.returns
  have hts : ∀ w ∈ TS, w.before ([.ref h0, .int p0] : List Value).toArray s = true := fun w hw => hK.2.1 w hw _
  have hown : s.vm.findClass RX9 = some m.cls := findClass_of_methodNamed B.named
  have hlocks := B.notSynchronized
  have hS : va_S (fun q : Nat => G q ∈ ([9, 4, 31, 32] : List Nat)) s.heap s.heap [] := va_S.rf
  have hAz : ∀ q, (fun q : Nat => G q ∈ ([9, 4, 31, 32] : List Nat)) q → z0 ≤ q := zL hGz (by decide)
  have hl := lv_entry ([.ref h0, .int p0]) (n := 2) (Nat.le_of_ble_eq_true rfl)
  rw [lg_entry_eq]
  generalize (lg_sl ([.ref h0, .int p0]) ++ List.replicate (2 - (lg_sl ([.ref h0, .int p0])).length) Slot.unset).toArray = ls at hl ⊢
  have hl : lv_has ls 2 [(0, .ref h0), (1, .int p0)] := hl
  refine lv_iload_n hx hb dX9_push_0 rfl (lv_at hl 1 rfl) ?_
  refine W.callR (W.runS (As := [.int p0]) (rest := []) ⟨hx, hb, hml, hown, hts⟩ (c_X9_isPair l p0) (cwS 1 hts (gdS ml_X9_78 st_X9_isPair in_X9 co_X9_isPair rfl) rfl rfl rfl (by decide +kernel) ⟨Nat.le_of_ble_eq_true rfl, Nat.le_of_ble_eq_true rfl⟩) preEq rfl rfl hl.1 rfl (lv_room (Nat.le_of_ble_eq_true rfl)) dX9_push_1 ⟨Nat.le_of_ble_eq_true rfl, Nat.le_of_ble_eq_true rfl⟩) ?_
  refine W.eq (g2 := F0 m 4 ls [.int (bI (0 ≤ p0.toInt ∧ p0.toInt < 4))]) (by rfl) ?_
  refine lv_if_eq (tgt := 35) hx hb dX9_push_4 (by decide) (fun c_1 => ?_) (fun c_1 => ?_)
  · have c_1 := bI_0 c_1
    refine lv_iconst (v := (-1)) hx hb dX9_push_35 (by decide) ?_
    exact W.iret (v := (-1)) hx hb hr (fun t ht hW => ⟨⟨(-1), (), rfl, trivial, (by show TH E (T1 E) G [] t.heap; rw [ht]; exact hT)⟩, hS.F ht⟩) hS.2.2 dX9_push_36
  · have c_1 := bI_n c_1
    refine lv_aload_n hx hb dX9_push_7 rfl (lv_at hl 0 rfl) ?_
    obtain ⟨v0_2, v1_2, v2_2, ha_2, hg0_2, hg1_2, hg2_2⟩ := tr_1 hT hG
    refine va_get (D := DG E) (ci := 9) (v := .ref v1_2) (C := RX9) (T := TX9) (N := 3) hx hb hts iw_X9 hown hK.1 (va_one ha_2) 0 rfl rfl 1 (by decide) (hts _ fl_X9_29) (fun _ h9 => h9) rfl dX9_push_8 ?_
    refine lv_iload_n hx hb dX9_push_11 rfl (lv_at hl 1 rfl) ?_
    obtain ⟨f_3, ha_3, he_3⟩ := tr_3 hT hg1_2
    obtain ⟨j_4, hj_4, ej_4⟩ := vp_in_of (show vp_in p0 4 from vp_in_iff.mpr (by omega)) (by decide)
    obtain ⟨b_4, eb_4, gb_4⟩ := he_3 j_4 hj_4
    have cj_4 : f_3 (p0 : Int32).toNatClampNeg = some b_4 := by rw [ej_4, nI_clamp (by omega)]; exact eb_4
    refine va_aldq (D := DG E) hx hb hK.1 (va_one ha_3) 0 5 rfl rfl (show vp_in p0 4 from vp_in_iff.mpr (by omega)) dX9_push_12 ?_
    rw [cj_4]
    refine W.eq (g2 := F0 m 13 ls [.ref b_4]) (by rfl) ?_
    obtain ⟨v0_5, v1_5, v2_5, ha_5, hg0_5, hg1_5⟩ := tr_8 hT gb_4
    refine va_get (D := DG E) (ci := 3) (v := .int v2_5) (C := RX3) (T := TX3) (N := 3) hx hb hts iw_X3 hown hK.1 (va_one ha_5) 0 rfl rfl 2 (by decide) (hts _ fl_X9_84) (fun _ h9 => h9) rfl dX9_push_13 ?_
    refine lv_iconst (v := 1) hx hb dX9_push_16 (by decide) ?_
    refine lv_icmp_ne (tgt := 35) hx hb dX9_push_17 (by decide) (fun c_6 => ?_) (fun c_6 => ?_)
    · simp only [lt_I, le_I, eq_I, i_0, i_1, i_2, i_3, i_4, i_5, i_6, i_7, i_8, i_10, i_12, i_16, i_20, i_23, i_24, i_31, i_32, i_63, i_64, i_m1] at c_6
      refine lv_iconst (v := (-1)) hx hb dX9_push_35 (by decide) ?_
      exact W.iret (v := (-1)) hx hb hr (fun t ht hW => ⟨⟨(-1), (), rfl, trivial, (by show TH E (T1 E) G [] t.heap; rw [ht]; exact hT)⟩, hS.F ht⟩) hS.2.2 dX9_push_36
    · simp only [lt_I, le_I, eq_I, i_0, i_1, i_2, i_3, i_4, i_5, i_6, i_7, i_8, i_10, i_12, i_16, i_20, i_23, i_24, i_31, i_32, i_63, i_64, i_m1] at c_6
      refine lv_aload_n hx hb dX9_push_20 rfl (lv_at hl 0 rfl) ?_
      refine va_get (D := DG E) (ci := 9) (v := .ref v1_2) (C := RX9) (T := TX9) (N := 3) hx hb hts iw_X9 hown hK.1 (va_one ha_2) 0 rfl rfl 1 (by decide) (hts _ fl_X9_29) (fun _ h9 => h9) rfl dX9_push_21 ?_
      refine lv_iload_n hx hb dX9_push_24 rfl (lv_at hl 1 rfl) ?_
      refine va_aldq (D := DG E) hx hb hK.1 (va_one ha_3) 0 5 rfl rfl (show vp_in p0 4 from vp_in_iff.mpr (by omega)) dX9_push_25 ?_
      rw [cj_4]
      refine W.eq (g2 := F0 m 26 ls [.ref b_4]) (by rfl) ?_
      refine va_get (D := DG E) (ci := 3) (v := .ref v0_5) (C := RX3) (T := TX3) (N := 3) hx hb hts iw_X3 hown hK.1 (va_one ha_5) 0 rfl rfl 0 (by decide) (hts _ fl_X9_105) (fun _ h9 => h9) rfl dX9_push_26 ?_
      obtain ⟨v0_7, v1_7, v2_7, v3_7, v4_7, v5_7, v6_7, v7_7, v8_7, v9_7, v10_7, v11_7, v12_7, v13_7, ha_7, hb0_7, hg1_7, hg2_7, hg6_7⟩ := tr_9 hT hg0_5
      refine va_calli (rnV (fun H => TH E (T1 E) G [] H) (As := []) (rest := []) ⟨hx, hb, hml, hown, hts⟩ (t_X7_sendNext l E z0 G hGz v0_5 hg0_5) (cwV 0 hts (gdV ml_X9_135 im_X7_sendNext se_X7_X7_sendNext in_X7 co_X7_sendNext rfl) rfl rfl rfl (by decide +kernel) ⟨Nat.le_of_ble_eq_true rfl, Nat.le_of_ble_eq_true rfl⟩) hT (fun U hU hW => hK.go hW hS hAz hU) (va_recv hK.1 (va_one ha_7) (ci := 7) (q0 := 0) rfl rfl) rfl rfl hl.1 rfl (lv_room (Nat.le_of_ble_eq_true rfl)) dX9_push_29 ⟨Nat.le_of_ble_eq_true rfl, Nat.le_of_ble_eq_true rfl⟩) hS (fun q _ h => mL (L' := [9, 4, 31, 32]) (L := [9, 4, 31, 32]) (by decide) h) (fun q h => mL (L' := [9, 4, 31, 32]) (L := [9, 4, 31, 32]) (by decide) h) (fun r_8 _ t H locs ht hvm hwr_8 hB hz hk hS => ?_)
      have hT : TH E (T1 E) G [] H := by rw [ht] at hB; exact hB
      have ha_2 := ha_2.kept (hk _ ha_2.lt (nL hG (by decide)))
      have ha_3 := ha_3.kept (hk _ ha_3.lt (nL hg1_2 (by decide)))
      have ha_5 := ha_5.kept (hk _ ha_5.lt (nL gb_4 (by decide)))
      refine lv_goto (tgt := 36) hx hb dX9_push_32 (by decide) ?_
      exact W.iret (v := r_8) hx hb hr (fun t ht hW => ⟨⟨r_8, (), rfl, trivial, (by show TH E (T1 E) G [] t.heap; rw [ht]; exact hT)⟩, hS.F ht⟩) hS.2.2 dX9_push_36
theorem dX9_deliver_0 : decode cX9_deliver 0 = .ok (.aload_n 0, 1) := by decide +kernel
theorem dX9_deliver_1 : decode cX9_deliver 1 = .ok (.getfield 16, 3) := by decide +kernel
theorem dX9_deliver_4 : decode cX9_deliver 4 = .ok (.iload_n 1, 1) := by decide +kernel
theorem dX9_deliver_5 : decode cX9_deliver 5 = .ok (.invokevirtual 139, 3) := by decide +kernel
theorem dX9_deliver_8 : decode cX9_deliver 8 = .ok (.ifCond .ne 5, 3) := by decide +kernel
theorem dX9_deliver_11 : decode cX9_deliver 11 = .ok (.iconst 0, 1) := by decide +kernel
theorem dX9_deliver_12 : decode cX9_deliver 12 = .ok (.ireturn, 1) := by decide +kernel
theorem dX9_deliver_13 : decode cX9_deliver 13 = .ok (.aload_n 0, 1) := by decide +kernel
theorem dX9_deliver_14 : decode cX9_deliver 14 = .ok (.getfield 16, 3) := by decide +kernel
theorem dX9_deliver_17 : decode cX9_deliver 17 = .ok (.iload_n 1, 1) := by decide +kernel
theorem dX9_deliver_18 : decode cX9_deliver 18 = .ok (.invokevirtual 142, 3) := by decide +kernel
theorem dX9_deliver_21 : decode cX9_deliver 21 = .ok (.astore_n 2, 1) := by decide +kernel
theorem dX9_deliver_22 : decode cX9_deliver 22 = .ok (.aload_n 0, 1) := by decide +kernel
theorem dX9_deliver_23 : decode cX9_deliver 23 = .ok (.getfield 29, 3) := by decide +kernel
theorem dX9_deliver_26 : decode cX9_deliver 26 = .ok (.aload_n 2, 1) := by decide +kernel
theorem dX9_deliver_27 : decode cX9_deliver 27 = .ok (.getfield 146, 3) := by decide +kernel
theorem dX9_deliver_30 : decode cX9_deliver 30 = .ok (.aaload, 1) := by decide +kernel
theorem dX9_deliver_31 : decode cX9_deliver 31 = .ok (.aload_n 2, 1) := by decide +kernel
theorem dX9_deliver_32 : decode cX9_deliver 32 = .ok (.invokevirtual 151, 3) := by decide +kernel
theorem dX9_deliver_35 : decode cX9_deliver 35 = .ok (.iconst 1, 1) := by decide +kernel
theorem dX9_deliver_36 : decode cX9_deliver 36 = .ok (.ireturn, 1) := by decide +kernel
set_option maxHeartbeats 8000000 in
set_option maxRecDepth 100000 in
theorem t_X9_deliver (l : Launch) (E : EE) (z0 : Nat) (G : Nat → Nat) (hGz : ∀ q, G q ≠ 0 → z0 ≤ q) (h0 : Nat) (p0 : Int32) (hG : G h0 = 1) : Met l yX9_deliver [Cond.code yX9_deliver cX9_deliver 3 (some .boolean)] ({ frames := 7, cells := 0, slots := 0, locals := 154 } : Room) (va_Pc [.ref h0, .int p0] (fun U => (TH E (T1 E) G [] U.heap) ∧ KS E z0 U)) (va_Qi (fun (r : Int32) (_ : Unit) => r = 0 ∨ r = 1) (fun _ t => TH E (T1 E) G [] t.heap) (fun q : Nat => G q ∈ ([8, 9, 10, 4, 31, 32, 14, 13, 5, 15, 11, 16, 17, 30] : List Nat))) 0 0 (fun q : Nat => G q ∈ ([8, 9, 10, 4, 31, 32, 14, 13, 5, 15, 11, 16, 17, 30] : List Nat)) := by
  refine Met.ofW (cc := cX9_deliver) (maxL := 3) (ret := (some .boolean)) (by decide) rfl ?_
  intro p e s m args below meth c s₁ B hml hv
  obtain ⟨rfl, hT, hK⟩ := hv
  have hx := B.exec
  have hb := B.bytes
  have hr := B.returns
  have hts : ∀ w ∈ TS, w.before ([.ref h0, .int p0] : List Value).toArray s = true := fun w hw => hK.2.1 w hw _
  have hown : s.vm.findClass RX9 = some m.cls := findClass_of_methodNamed B.named
  have hlocks := B.notSynchronized
  have hS : va_S (fun q : Nat => G q ∈ ([8, 9, 10, 4, 31, 32, 14, 13, 5, 15, 11, 16, 17, 30] : List Nat)) s.heap s.heap [] := va_S.rf
  have hAz : ∀ q, (fun q : Nat => G q ∈ ([8, 9, 10, 4, 31, 32, 14, 13, 5, 15, 11, 16, 17, 30] : List Nat)) q → z0 ≤ q := zL hGz (by decide)
  have hl := lv_entry ([.ref h0, .int p0]) (n := 3) (Nat.le_of_ble_eq_true rfl)
  rw [lg_entry_eq]
  generalize (lg_sl ([.ref h0, .int p0]) ++ List.replicate (3 - (lg_sl ([.ref h0, .int p0])).length) Slot.unset).toArray = ls at hl ⊢
  have hl : lv_has ls 3 [(0, .ref h0), (1, .int p0)] := hl
  refine lv_aload_n hx hb dX9_deliver_0 rfl (lv_at hl 0 rfl) ?_
  obtain ⟨v0_1, v1_1, v2_1, ha_1, hg0_1, hg1_1, hg2_1⟩ := tr_1 hT hG
  refine va_get (D := DG E) (ci := 9) (v := .ref v2_1) (C := RX9) (T := TX9) (N := 3) hx hb hts iw_X9 hown hK.1 (va_one ha_1) 0 rfl rfl 2 (by decide) (hts _ fl_X9_16) (fun _ h9 => h9) rfl dX9_deliver_1 ?_
  refine lv_iload_n hx hb dX9_deliver_4 rfl (lv_at hl 1 rfl) ?_
  obtain ⟨v0_2, v1_2, v2_2, v3_2, ha_2, hg0_2, hb1_2, hg2_2, hg3_2⟩ := tr_4 hT hg2_1
  refine va_calli (rnV (fun H => TH E (T1 E) G [] H ∧ va_at (DG E) vwCl (v2_1, .inr (0, [.ref v0_2, .int v1_2, .ref v2_2, .ref v3_2])) H) (As := [.int p0]) (rest := []) ⟨hx, hb, hml, hown, hts⟩ (t_X0_has l E z0 G hGz v2_1 p0 hg2_1 v0_2 v1_2 v2_2 v3_2 hg0_2 hg2_2 hg3_2 (by omega)) (cwV 1 hts (gdV ml_X9_139 im_X0_has se_X0_X0_has in_X0 co_X0_has rfl) rfl rfl rfl (by decide +kernel) ⟨Nat.le_of_ble_eq_true rfl, Nat.le_of_ble_eq_true rfl⟩) ⟨hT, ha_2⟩ (fun U hU hW => hK.go hW hS hAz hU) (va_recv hK.1 (va_one ha_2) (ci := 0) (q0 := 0) rfl rfl) rfl rfl hl.1 rfl (lv_room (Nat.le_of_ble_eq_true rfl)) dX9_deliver_5 ⟨Nat.le_of_ble_eq_true rfl, Nat.le_of_ble_eq_true rfl⟩) hS (fun q _ h => h.elim) (fun q h => h.elim) (fun r_3 _ t H locs ht hvm hwr_3 hB hz hk hS => ?_)
  have hT : TH E (T1 E) G [] H := hT.kept (fun q hq => hk q hq (fun h => h))
  have ha_1 := ha_1.kept (hk _ ha_1.lt (fun h => h))
  have ha_2 := ha_2.kept (hk _ ha_2.lt (fun h => h))
  have hzr_3 := s_rng hwr_3.1
  refine lv_if_ne (tgt := 13) hx hb dX9_deliver_8 (by decide) (fun c_4 => ?_) (fun c_4 => ?_)
  · simp only [lt_I, le_I, eq_I, i_0, i_1, i_2, i_3, i_4, i_5, i_6, i_7, i_8, i_10, i_12, i_16, i_20, i_23, i_24, i_31, i_32, i_63, i_64, i_m1] at c_4
    refine lv_aload_n hx hb dX9_deliver_13 rfl (lv_at hl 0 rfl) ?_
    refine va_get (D := DG E) (ci := 9) (v := .ref v2_1) (C := RX9) (T := TX9) (N := 3) hx hb hts iw_X9 hown hK.1 (va_one ha_1) 0 rfl rfl 2 (by decide) (hts _ fl_X9_16) (fun _ h9 => h9) rfl dX9_deliver_14 ?_
    refine lv_iload_n hx hb dX9_deliver_17 rfl (lv_at hl 1 rfl) ?_
    refine va_callr (rnV (fun H => TH E (T1 E) G [] H ∧ va_at (DG E) vwCl (v2_1, .inr (0, [.ref v0_2, .int v1_2, .ref v2_2, .ref v3_2])) H) (As := [.int p0]) (rest := []) ⟨hx, hb, hml, hown, hts⟩ (t_X0_takeOut l E z0 G hGz v2_1 p0 hg2_1 v0_2 v1_2 v2_2 v3_2 hg0_2 hg2_2 hg3_2 (by omega) (by first | omega | decide) (by first | omega | decide)) (cwV 1 hts (gdV ml_X9_142 im_X0_takeOut se_X0_X0_takeOut in_X0 co_X0_takeOut rfl) rfl rfl rfl (by decide +kernel) ⟨Nat.le_of_ble_eq_true rfl, Nat.le_of_ble_eq_true rfl⟩) ⟨hT, ha_2⟩ (fun U hU hW => hK.go hW hS hAz hU) (va_recv hK.1 (va_one ha_2) (ci := 0) (q0 := 0) rfl rfl) rfl rfl hl.1 rfl (lv_room (Nat.le_of_ble_eq_true rfl)) dX9_deliver_18 ⟨Nat.le_of_ble_eq_true rfl, Nat.le_of_ble_eq_true rfl⟩) hS (fun q _ h => mL (L' := [4, 30]) (L := [8, 9, 10, 4, 31, 32, 14, 13, 5, 15, 11, 16, 17, 30]) (by decide) h) (fun q h => mL (L' := [4, 30]) (L := [8, 9, 10, 4, 31, 32, 14, 13, 5, 15, 11, 16, 17, 30]) (by decide) h) (fun _ r_5 t H locs ht hvm hwr_5 hB hz hk hS => ?_)
    have hT : TH E (T1 E) G [] H := by have hB := hB.2; rw [ht] at hB; exact hB
    have grr_5 : G r_5 = 31 := hB.1
    have ha_1 := ha_1.kept (hk _ ha_1.lt (nL hG (by decide)))
    refine lv_astore_n (lv' := [(2, .ref r_5), (0, .ref h0), (1, .int p0)]) hx hb dX9_deliver_21 rfl hl (by decide) rfl (fun ls hl => ?_)
    refine lv_aload_n hx hb dX9_deliver_22 rfl (lv_at hl 1 rfl) ?_
    refine va_get (D := DG E) (ci := 9) (v := .ref v1_1) (C := RX9) (T := TX9) (N := 3) hx hb hts iw_X9 hown hK.1 (va_one ha_1) 0 rfl rfl 1 (by decide) (hts _ fl_X9_29) (fun _ h9 => h9) rfl dX9_deliver_23 ?_
    refine lv_aload_n hx hb dX9_deliver_26 rfl (lv_at hl 0 rfl) ?_
    obtain ⟨v0_6, v1_6, v2_6, v3_6, v4_6, v5_6, v6_6, v7_6, ha_6, hb0_6, hb3_6, hg7_6⟩ := tr_31 hT grr_5
    refine va_get (D := DG E) (ci := 2) (v := .int v0_6) (C := RX2) (T := TX2) (N := 8) hx hb hts iw_X2 hown hK.1 (va_one ha_6) 0 rfl rfl 0 (by decide) (hts _ fl_X9_146) (fun _ h9 => h9) rfl dX9_deliver_27 ?_
    obtain ⟨f_7, ha_7, he_7⟩ := tr_3 hT hg1_1
    obtain ⟨j_8, hj_8, ej_8⟩ := vp_in_of (show vp_in v0_6 4 from vp_in_iff.mpr (by omega)) (by decide)
    obtain ⟨b_8, eb_8, gb_8⟩ := he_7 j_8 hj_8
    have cj_8 : f_7 (v0_6 : Int32).toNatClampNeg = some b_8 := by rw [ej_8, nI_clamp (by omega)]; exact eb_8
    refine va_aldq (D := DG E) hx hb hK.1 (va_one ha_7) 0 5 rfl rfl (show vp_in v0_6 4 from vp_in_iff.mpr (by omega)) dX9_deliver_30 ?_
    rw [cj_8]
    refine W.eq (g2 := F0 m 31 ls [.ref b_8]) (by rfl) ?_
    refine lv_aload_n hx hb dX9_deliver_31 rfl (lv_at hl 0 rfl) ?_
    obtain ⟨v0_9, v1_9, v2_9, ha_9, hg0_9, hg1_9⟩ := tr_8 hT gb_8
    refine va_callv (rnV (fun H => TH E (T1 E) G [] H) (As := [.ref r_5]) (rest := []) ⟨hx, hb, hml, hown, hts⟩ (t_X3_takeIn l E z0 G hGz b_8 r_5 gb_8 grr_5) (cwV 1 hts (gdV ml_X9_151 im_X3_takeIn se_X3_X3_takeIn in_X3 co_X3_takeIn rfl) rfl rfl rfl (by decide +kernel) ⟨Nat.le_of_ble_eq_true rfl, Nat.le_of_ble_eq_true rfl⟩) hT (fun U hU hW => hK.go hW hS hAz hU) (va_recv hK.1 (va_one ha_9) (ci := 3) (q0 := 0) rfl rfl) rfl rfl hl.1 rfl (lv_room (Nat.le_of_ble_eq_true rfl)) dX9_deliver_32 ⟨Nat.le_of_ble_eq_true rfl, Nat.le_of_ble_eq_true rfl⟩) hS (fun q _ h => mL (L' := [8, 9, 10, 4, 31, 32, 14, 13, 5, 15, 11, 16, 17]) (L := [8, 9, 10, 4, 31, 32, 14, 13, 5, 15, 11, 16, 17, 30]) (by decide) h) (fun q h => mL (L' := [8, 9, 10, 4, 31, 32, 14, 13, 5, 15, 11, 16, 17]) (L := [8, 9, 10, 4, 31, 32, 14, 13, 5, 15, 11, 16, 17, 30]) (by decide) h) (fun _ t H locs ht hvm hwr_10 hB hz hk hS => ?_)
    have hT : TH E (T1 E) G [] H := by rw [ht] at hB; exact hB
    have ha_1 := ha_1.kept (hk _ ha_1.lt (nL hG (by decide)))
    have ha_7 := ha_7.kept (hk _ ha_7.lt (nL hg1_1 (by decide)))
    refine lv_iconst (v := 1) hx hb dX9_deliver_35 (by decide) ?_
    exact W.zret (v := 1) (ty := .boolean) hx hb hr rfl (fun t ht hW => ⟨⟨1, (), rfl, (by decide), (by show TH E (T1 E) G [] t.heap; rw [ht]; exact hT)⟩, hS.F ht⟩) hS.2.2 dX9_deliver_36
  · simp only [lt_I, le_I, eq_I, i_0, i_1, i_2, i_3, i_4, i_5, i_6, i_7, i_8, i_10, i_12, i_16, i_20, i_23, i_24, i_31, i_32, i_63, i_64, i_m1] at c_4
    refine lv_iconst (v := 0) hx hb dX9_deliver_11 (by decide) ?_
    exact W.zret (v := 0) (ty := .boolean) hx hb hr rfl (fun t ht hW => ⟨⟨0, (), rfl, (by decide), (by show TH E (T1 E) G [] t.heap; rw [ht]; exact hT)⟩, hS.F ht⟩) hS.2.2 dX9_deliver_12
theorem dX9_spoil_0 : decode cX9_spoil 0 = .ok (.aload_n 0, 1) := by decide +kernel
theorem dX9_spoil_1 : decode cX9_spoil 1 = .ok (.getfield 16, 3) := by decide +kernel
theorem dX9_spoil_4 : decode cX9_spoil 4 = .ok (.iload_n 1, 1) := by decide +kernel
theorem dX9_spoil_5 : decode cX9_spoil 5 = .ok (.invokevirtual 139, 3) := by decide +kernel
theorem dX9_spoil_8 : decode cX9_spoil 8 = .ok (.ifCond .eq 17, 3) := by decide +kernel
theorem dX9_spoil_11 : decode cX9_spoil 11 = .ok (.iload_n 2, 1) := by decide +kernel
theorem dX9_spoil_12 : decode cX9_spoil 12 = .ok (.ifCond .eq 15, 3) := by decide +kernel
theorem dX9_spoil_15 : decode cX9_spoil 15 = .ok (.aload_n 0, 1) := by decide +kernel
theorem dX9_spoil_16 : decode cX9_spoil 16 = .ok (.getfield 16, 3) := by decide +kernel
theorem dX9_spoil_19 : decode cX9_spoil 19 = .ok (.invokevirtual 155, 3) := by decide +kernel
theorem dX9_spoil_22 : decode cX9_spoil 22 = .ok (.ifCond .eq 5, 3) := by decide +kernel
theorem dX9_spoil_25 : decode cX9_spoil 25 = .ok (.iconst 0, 1) := by decide +kernel
theorem dX9_spoil_26 : decode cX9_spoil 26 = .ok (.ireturn, 1) := by decide +kernel
theorem dX9_spoil_27 : decode cX9_spoil 27 = .ok (.iload_n 2, 1) := by decide +kernel
theorem dX9_spoil_28 : decode cX9_spoil 28 = .ok (.ifCond .eq 14, 3) := by decide +kernel
theorem dX9_spoil_31 : decode cX9_spoil 31 = .ok (.aload_n 0, 1) := by decide +kernel
theorem dX9_spoil_32 : decode cX9_spoil 32 = .ok (.getfield 16, 3) := by decide +kernel
theorem dX9_spoil_35 : decode cX9_spoil 35 = .ok (.iload_n 1, 1) := by decide +kernel
theorem dX9_spoil_36 : decode cX9_spoil 36 = .ok (.invokevirtual 158, 3) := by decide +kernel
theorem dX9_spoil_39 : decode cX9_spoil 39 = .ok (.goto 12, 3) := by decide +kernel
theorem dX9_spoil_42 : decode cX9_spoil 42 = .ok (.aload_n 0, 1) := by decide +kernel
theorem dX9_spoil_43 : decode cX9_spoil 43 = .ok (.getfield 16, 3) := by decide +kernel
theorem dX9_spoil_46 : decode cX9_spoil 46 = .ok (.iload_n 1, 1) := by decide +kernel
theorem dX9_spoil_47 : decode cX9_spoil 47 = .ok (.invokevirtual 142, 3) := by decide +kernel
theorem dX9_spoil_50 : decode cX9_spoil 50 = .ok (.pop, 1) := by decide +kernel
theorem dX9_spoil_51 : decode cX9_spoil 51 = .ok (.iconst 1, 1) := by decide +kernel
theorem dX9_spoil_52 : decode cX9_spoil 52 = .ok (.ireturn, 1) := by decide +kernel
set_option maxHeartbeats 8000000 in
set_option maxRecDepth 100000 in
theorem t_X9_spoil (l : Launch) (E : EE) (z0 : Nat) (G : Nat → Nat) (hGz : ∀ q, G q ≠ 0 → z0 ≤ q) (h0 : Nat) (p0 : Int32) (p1 : Int32) (hG : G h0 = 1) : Met l yX9_spoil [Cond.code yX9_spoil cX9_spoil 3 (some .boolean)] ({ frames := 3, cells := 0, slots := 0, locals := 66 } : Room) (va_Pc [.ref h0, .int p0, .int p1] (fun U => (TH E (T1 E) G [] U.heap) ∧ KS E z0 U)) (va_Qi (fun (r : Int32) (_ : Unit) => r = 0 ∨ r = 1) (fun _ t => TH E (T1 E) G [] t.heap) (fun q : Nat => G q ∈ ([4, 30, 31, 32] : List Nat))) 0 0 (fun q : Nat => G q ∈ ([4, 30, 31, 32] : List Nat)) := by
  refine Met.ofW (cc := cX9_spoil) (maxL := 3) (ret := (some .boolean)) (by decide) rfl ?_
  intro p e s m args below meth c s₁ B hml hv
  obtain ⟨rfl, hT, hK⟩ := hv
  have hx := B.exec
  have hb := B.bytes
  have hr := B.returns
  have hts : ∀ w ∈ TS, w.before ([.ref h0, .int p0, .int p1] : List Value).toArray s = true := fun w hw => hK.2.1 w hw _
  have hown : s.vm.findClass RX9 = some m.cls := findClass_of_methodNamed B.named
  have hlocks := B.notSynchronized
  have hS : va_S (fun q : Nat => G q ∈ ([4, 30, 31, 32] : List Nat)) s.heap s.heap [] := va_S.rf
  have hAz : ∀ q, (fun q : Nat => G q ∈ ([4, 30, 31, 32] : List Nat)) q → z0 ≤ q := zL hGz (by decide)
  have hl := lv_entry ([.ref h0, .int p0, .int p1]) (n := 3) (Nat.le_of_ble_eq_true rfl)
  rw [lg_entry_eq]
  generalize (lg_sl ([.ref h0, .int p0, .int p1]) ++ List.replicate (3 - (lg_sl ([.ref h0, .int p0, .int p1])).length) Slot.unset).toArray = ls at hl ⊢
  have hl : lv_has ls 3 [(0, .ref h0), (1, .int p0), (2, .int p1)] := hl
  refine lv_aload_n hx hb dX9_spoil_0 rfl (lv_at hl 0 rfl) ?_
  obtain ⟨v0_1, v1_1, v2_1, ha_1, hg0_1, hg1_1, hg2_1⟩ := tr_1 hT hG
  refine va_get (D := DG E) (ci := 9) (v := .ref v2_1) (C := RX9) (T := TX9) (N := 3) hx hb hts iw_X9 hown hK.1 (va_one ha_1) 0 rfl rfl 2 (by decide) (hts _ fl_X9_16) (fun _ h9 => h9) rfl dX9_spoil_1 ?_
  refine lv_iload_n hx hb dX9_spoil_4 rfl (lv_at hl 1 rfl) ?_
  obtain ⟨v0_2, v1_2, v2_2, v3_2, ha_2, hg0_2, hb1_2, hg2_2, hg3_2⟩ := tr_4 hT hg2_1
  refine va_calli (rnV (fun H => TH E (T1 E) G [] H ∧ va_at (DG E) vwCl (v2_1, .inr (0, [.ref v0_2, .int v1_2, .ref v2_2, .ref v3_2])) H) (As := [.int p0]) (rest := []) ⟨hx, hb, hml, hown, hts⟩ (t_X0_has l E z0 G hGz v2_1 p0 hg2_1 v0_2 v1_2 v2_2 v3_2 hg0_2 hg2_2 hg3_2 (by omega)) (cwV 1 hts (gdV ml_X9_139 im_X0_has se_X0_X0_has in_X0 co_X0_has rfl) rfl rfl rfl (by decide +kernel) ⟨Nat.le_of_ble_eq_true rfl, Nat.le_of_ble_eq_true rfl⟩) ⟨hT, ha_2⟩ (fun U hU hW => hK.go hW hS hAz hU) (va_recv hK.1 (va_one ha_2) (ci := 0) (q0 := 0) rfl rfl) rfl rfl hl.1 rfl (lv_room (Nat.le_of_ble_eq_true rfl)) dX9_spoil_5 ⟨Nat.le_of_ble_eq_true rfl, Nat.le_of_ble_eq_true rfl⟩) hS (fun q _ h => h.elim) (fun q h => h.elim) (fun r_3 _ t H locs ht hvm hwr_3 hB hz hk hS => ?_)
  have hT : TH E (T1 E) G [] H := hT.kept (fun q hq => hk q hq (fun h => h))
  have ha_1 := ha_1.kept (hk _ ha_1.lt (fun h => h))
  have ha_2 := ha_2.kept (hk _ ha_2.lt (fun h => h))
  have hzr_3 := s_rng hwr_3.1
  refine lv_if_eq (tgt := 25) hx hb dX9_spoil_8 (by decide) (fun c_4 => ?_) (fun c_4 => ?_)
  · simp only [lt_I, le_I, eq_I, i_0, i_1, i_2, i_3, i_4, i_5, i_6, i_7, i_8, i_10, i_12, i_16, i_20, i_23, i_24, i_31, i_32, i_63, i_64, i_m1] at c_4
    refine lv_iconst (v := 0) hx hb dX9_spoil_25 (by decide) ?_
    exact W.zret (v := 0) (ty := .boolean) hx hb hr rfl (fun t ht hW => ⟨⟨0, (), rfl, (by decide), (by show TH E (T1 E) G [] t.heap; rw [ht]; exact hT)⟩, hS.F ht⟩) hS.2.2 dX9_spoil_26
  · simp only [lt_I, le_I, eq_I, i_0, i_1, i_2, i_3, i_4, i_5, i_6, i_7, i_8, i_10, i_12, i_16, i_20, i_23, i_24, i_31, i_32, i_63, i_64, i_m1] at c_4
    refine lv_iload_n hx hb dX9_spoil_11 rfl (lv_at hl 2 rfl) ?_
    refine lv_if_eq (tgt := 27) hx hb dX9_spoil_12 (by decide) (fun c_5 => ?_) (fun c_5 => ?_)
    · simp only [lt_I, le_I, eq_I, i_0, i_1, i_2, i_3, i_4, i_5, i_6, i_7, i_8, i_10, i_12, i_16, i_20, i_23, i_24, i_31, i_32, i_63, i_64, i_m1] at c_5
      refine lv_iload_n hx hb dX9_spoil_27 rfl (lv_at hl 2 rfl) ?_
      refine lv_if_eq (tgt := 42) hx hb dX9_spoil_28 (by decide) (fun c_6 => ?_) (fun c_6 => ?_)
      · simp only [lt_I, le_I, eq_I, i_0, i_1, i_2, i_3, i_4, i_5, i_6, i_7, i_8, i_10, i_12, i_16, i_20, i_23, i_24, i_31, i_32, i_63, i_64, i_m1] at c_6
        refine lv_aload_n hx hb dX9_spoil_42 rfl (lv_at hl 0 rfl) ?_
        refine va_get (D := DG E) (ci := 9) (v := .ref v2_1) (C := RX9) (T := TX9) (N := 3) hx hb hts iw_X9 hown hK.1 (va_one ha_1) 0 rfl rfl 2 (by decide) (hts _ fl_X9_16) (fun _ h9 => h9) rfl dX9_spoil_43 ?_
        refine lv_iload_n hx hb dX9_spoil_46 rfl (lv_at hl 1 rfl) ?_
        refine va_callr (rnV (fun H => TH E (T1 E) G [] H ∧ va_at (DG E) vwCl (v2_1, .inr (0, [.ref v0_2, .int v1_2, .ref v2_2, .ref v3_2])) H) (As := [.int p0]) (rest := []) ⟨hx, hb, hml, hown, hts⟩ (t_X0_takeOut l E z0 G hGz v2_1 p0 hg2_1 v0_2 v1_2 v2_2 v3_2 hg0_2 hg2_2 hg3_2 (by omega) (by first | omega | decide) (by first | omega | decide)) (cwV 1 hts (gdV ml_X9_142 im_X0_takeOut se_X0_X0_takeOut in_X0 co_X0_takeOut rfl) rfl rfl rfl (by decide +kernel) ⟨Nat.le_of_ble_eq_true rfl, Nat.le_of_ble_eq_true rfl⟩) ⟨hT, ha_2⟩ (fun U hU hW => hK.go hW hS hAz hU) (va_recv hK.1 (va_one ha_2) (ci := 0) (q0 := 0) rfl rfl) rfl rfl hl.1 rfl (lv_room (Nat.le_of_ble_eq_true rfl)) dX9_spoil_47 ⟨Nat.le_of_ble_eq_true rfl, Nat.le_of_ble_eq_true rfl⟩) hS (fun q _ h => mL (L' := [4, 30]) (L := [4, 30, 31, 32]) (by decide) h) (fun q h => mL (L' := [4, 30]) (L := [4, 30, 31, 32]) (by decide) h) (fun _ r_7 t H locs ht hvm hwr_7 hB hz hk hS => ?_)
        have hT : TH E (T1 E) G [] H := by have hB := hB.2; rw [ht] at hB; exact hB
        have grr_7 : G r_7 = 31 := hB.1
        have ha_1 := ha_1.kept (hk _ ha_1.lt (nL hG (by decide)))
        refine lv_pop hx hb dX9_spoil_50 rfl ?_
        refine lv_iconst (v := 1) hx hb dX9_spoil_51 (by decide) ?_
        exact W.zret (v := 1) (ty := .boolean) hx hb hr rfl (fun t ht hW => ⟨⟨1, (), rfl, (by decide), (by show TH E (T1 E) G [] t.heap; rw [ht]; exact hT)⟩, hS.F ht⟩) hS.2.2 dX9_spoil_52
      · simp only [lt_I, le_I, eq_I, i_0, i_1, i_2, i_3, i_4, i_5, i_6, i_7, i_8, i_10, i_12, i_16, i_20, i_23, i_24, i_31, i_32, i_63, i_64, i_m1] at c_6
        refine lv_aload_n hx hb dX9_spoil_31 rfl (lv_at hl 0 rfl) ?_
        refine va_get (D := DG E) (ci := 9) (v := .ref v2_1) (C := RX9) (T := TX9) (N := 3) hx hb hts iw_X9 hown hK.1 (va_one ha_1) 0 rfl rfl 2 (by decide) (hts _ fl_X9_16) (fun _ h9 => h9) rfl dX9_spoil_32 ?_
        refine lv_iload_n hx hb dX9_spoil_35 rfl (lv_at hl 1 rfl) ?_
        refine va_callv (rnV (fun H => TH E (T1 E) G [] H ∧ va_at (DG E) vwCl (v2_1, .inr (0, [.ref v0_2, .int v1_2, .ref v2_2, .ref v3_2])) H) (As := [.int p0]) (rest := []) ⟨hx, hb, hml, hown, hts⟩ (t_X0_copyToEnd l E z0 G hGz v2_1 p0 hg2_1 v0_2 v1_2 v2_2 v3_2 hg0_2 hg2_2 hg3_2 (by omega) (by first | omega | decide) (by first | omega | decide)) (cwV 1 hts (gdV ml_X9_158 im_X0_copyToEnd se_X0_X0_copyToEnd in_X0 co_X0_copyToEnd rfl) rfl rfl rfl (by decide +kernel) ⟨Nat.le_of_ble_eq_true rfl, Nat.le_of_ble_eq_true rfl⟩) ⟨hT, ha_2⟩ (fun U hU hW => hK.go hW hS hAz hU) (va_recv hK.1 (va_one ha_2) (ci := 0) (q0 := 0) rfl rfl) rfl rfl hl.1 rfl (lv_room (Nat.le_of_ble_eq_true rfl)) dX9_spoil_36 ⟨Nat.le_of_ble_eq_true rfl, Nat.le_of_ble_eq_true rfl⟩) hS (fun q _ h => mL (L' := [4, 31, 32]) (L := [4, 30, 31, 32]) (by decide) h) (fun q h => mL (L' := [4, 31, 32]) (L := [4, 30, 31, 32]) (by decide) h) (fun _ t H locs ht hvm hwr_8 hB hz hk hS => ?_)
        have hT : TH E (T1 E) G [] H := by rw [ht] at hB; exact hB
        have ha_1 := ha_1.kept (hk _ ha_1.lt (nL hG (by decide)))
        refine lv_goto (tgt := 51) hx hb dX9_spoil_39 (by decide) ?_
        refine lv_iconst (v := 1) hx hb dX9_spoil_51 (by decide) ?_
        exact W.zret (v := 1) (ty := .boolean) hx hb hr rfl (fun t ht hW => ⟨⟨1, (), rfl, (by decide), (by show TH E (T1 E) G [] t.heap; rw [ht]; exact hT)⟩, hS.F ht⟩) hS.2.2 dX9_spoil_52
    · simp only [lt_I, le_I, eq_I, i_0, i_1, i_2, i_3, i_4, i_5, i_6, i_7, i_8, i_10, i_12, i_16, i_20, i_23, i_24, i_31, i_32, i_63, i_64, i_m1] at c_5
      refine lv_aload_n hx hb dX9_spoil_15 rfl (lv_at hl 0 rfl) ?_
      refine va_get (D := DG E) (ci := 9) (v := .ref v2_1) (C := RX9) (T := TX9) (N := 3) hx hb hts iw_X9 hown hK.1 (va_one ha_1) 0 rfl rfl 2 (by decide) (hts _ fl_X9_16) (fun _ h9 => h9) rfl dX9_spoil_16 ?_
      refine va_calli (rnV (fun H => TH E (T1 E) G [] H ∧ va_at (DG E) vwCl (v2_1, .inr (0, [.ref v0_2, .int v1_2, .ref v2_2, .ref v3_2])) H) (As := []) (rest := []) ⟨hx, hb, hml, hown, hts⟩ (t_X0_isFull l E z0 G hGz v2_1 hg2_1 v0_2 v1_2 v2_2 v3_2 hg0_2 hg2_2 hg3_2 (by omega)) (cwV 0 hts (gdV ml_X9_155 im_X0_isFull se_X0_X0_isFull in_X0 co_X0_isFull rfl) rfl rfl rfl (by decide +kernel) ⟨Nat.le_of_ble_eq_true rfl, Nat.le_of_ble_eq_true rfl⟩) ⟨hT, ha_2⟩ (fun U hU hW => hK.go hW hS hAz hU) (va_recv hK.1 (va_one ha_2) (ci := 0) (q0 := 0) rfl rfl) rfl rfl hl.1 rfl (lv_room (Nat.le_of_ble_eq_true rfl)) dX9_spoil_19 ⟨Nat.le_of_ble_eq_true rfl, Nat.le_of_ble_eq_true rfl⟩) hS (fun q _ h => h.elim) (fun q h => h.elim) (fun r_9 _ t H locs ht hvm hwr_9 hB hz hk hS => ?_)
      have hT : TH E (T1 E) G [] H := hT.kept (fun q hq => hk q hq (fun h => h))
      have ha_1 := ha_1.kept (hk _ ha_1.lt (fun h => h))
      have ha_2 := ha_2.kept (hk _ ha_2.lt (fun h => h))
      have hzr_9 := s_rng hwr_9.1
      refine lv_if_eq (tgt := 27) hx hb dX9_spoil_22 (by decide) (fun c_10 => ?_) (fun c_10 => ?_)
      · simp only [lt_I, le_I, eq_I, i_0, i_1, i_2, i_3, i_4, i_5, i_6, i_7, i_8, i_10, i_12, i_16, i_20, i_23, i_24, i_31, i_32, i_63, i_64, i_m1] at c_10
        refine lv_iload_n hx hb dX9_spoil_27 rfl (lv_at hl 2 rfl) ?_
        refine lv_if_eq (tgt := 42) hx hb dX9_spoil_28 (by decide) (fun c_11 => ?_) (fun c_11 => ?_)
        · simp only [lt_I, le_I, eq_I, i_0, i_1, i_2, i_3, i_4, i_5, i_6, i_7, i_8, i_10, i_12, i_16, i_20, i_23, i_24, i_31, i_32, i_63, i_64, i_m1] at c_11
          refine lv_aload_n hx hb dX9_spoil_42 rfl (lv_at hl 0 rfl) ?_
          refine va_get (D := DG E) (ci := 9) (v := .ref v2_1) (C := RX9) (T := TX9) (N := 3) hx hb hts iw_X9 hown hK.1 (va_one ha_1) 0 rfl rfl 2 (by decide) (hts _ fl_X9_16) (fun _ h9 => h9) rfl dX9_spoil_43 ?_
          refine lv_iload_n hx hb dX9_spoil_46 rfl (lv_at hl 1 rfl) ?_
          refine va_callr (rnV (fun H => TH E (T1 E) G [] H ∧ va_at (DG E) vwCl (v2_1, .inr (0, [.ref v0_2, .int v1_2, .ref v2_2, .ref v3_2])) H) (As := [.int p0]) (rest := []) ⟨hx, hb, hml, hown, hts⟩ (t_X0_takeOut l E z0 G hGz v2_1 p0 hg2_1 v0_2 v1_2 v2_2 v3_2 hg0_2 hg2_2 hg3_2 (by omega) (by first | omega | decide) (by first | omega | decide)) (cwV 1 hts (gdV ml_X9_142 im_X0_takeOut se_X0_X0_takeOut in_X0 co_X0_takeOut rfl) rfl rfl rfl (by decide +kernel) ⟨Nat.le_of_ble_eq_true rfl, Nat.le_of_ble_eq_true rfl⟩) ⟨hT, ha_2⟩ (fun U hU hW => hK.go hW hS hAz hU) (va_recv hK.1 (va_one ha_2) (ci := 0) (q0 := 0) rfl rfl) rfl rfl hl.1 rfl (lv_room (Nat.le_of_ble_eq_true rfl)) dX9_spoil_47 ⟨Nat.le_of_ble_eq_true rfl, Nat.le_of_ble_eq_true rfl⟩) hS (fun q _ h => mL (L' := [4, 30]) (L := [4, 30, 31, 32]) (by decide) h) (fun q h => mL (L' := [4, 30]) (L := [4, 30, 31, 32]) (by decide) h) (fun _ r_12 t H locs ht hvm hwr_12 hB hz hk hS => ?_)
          have hT : TH E (T1 E) G [] H := by have hB := hB.2; rw [ht] at hB; exact hB
          have grr_12 : G r_12 = 31 := hB.1
          have ha_1 := ha_1.kept (hk _ ha_1.lt (nL hG (by decide)))
          refine lv_pop hx hb dX9_spoil_50 rfl ?_
          refine lv_iconst (v := 1) hx hb dX9_spoil_51 (by decide) ?_
          exact W.zret (v := 1) (ty := .boolean) hx hb hr rfl (fun t ht hW => ⟨⟨1, (), rfl, (by decide), (by show TH E (T1 E) G [] t.heap; rw [ht]; exact hT)⟩, hS.F ht⟩) hS.2.2 dX9_spoil_52
        · simp only [lt_I, le_I, eq_I, i_0, i_1, i_2, i_3, i_4, i_5, i_6, i_7, i_8, i_10, i_12, i_16, i_20, i_23, i_24, i_31, i_32, i_63, i_64, i_m1] at c_11
          refine lv_aload_n hx hb dX9_spoil_31 rfl (lv_at hl 0 rfl) ?_
          refine va_get (D := DG E) (ci := 9) (v := .ref v2_1) (C := RX9) (T := TX9) (N := 3) hx hb hts iw_X9 hown hK.1 (va_one ha_1) 0 rfl rfl 2 (by decide) (hts _ fl_X9_16) (fun _ h9 => h9) rfl dX9_spoil_32 ?_
          refine lv_iload_n hx hb dX9_spoil_35 rfl (lv_at hl 1 rfl) ?_
          refine va_callv (rnV (fun H => TH E (T1 E) G [] H ∧ va_at (DG E) vwCl (v2_1, .inr (0, [.ref v0_2, .int v1_2, .ref v2_2, .ref v3_2])) H) (As := [.int p0]) (rest := []) ⟨hx, hb, hml, hown, hts⟩ (t_X0_copyToEnd l E z0 G hGz v2_1 p0 hg2_1 v0_2 v1_2 v2_2 v3_2 hg0_2 hg2_2 hg3_2 (by omega) (by first | omega | decide) (by first | omega | decide)) (cwV 1 hts (gdV ml_X9_158 im_X0_copyToEnd se_X0_X0_copyToEnd in_X0 co_X0_copyToEnd rfl) rfl rfl rfl (by decide +kernel) ⟨Nat.le_of_ble_eq_true rfl, Nat.le_of_ble_eq_true rfl⟩) ⟨hT, ha_2⟩ (fun U hU hW => hK.go hW hS hAz hU) (va_recv hK.1 (va_one ha_2) (ci := 0) (q0 := 0) rfl rfl) rfl rfl hl.1 rfl (lv_room (Nat.le_of_ble_eq_true rfl)) dX9_spoil_36 ⟨Nat.le_of_ble_eq_true rfl, Nat.le_of_ble_eq_true rfl⟩) hS (fun q _ h => mL (L' := [4, 31, 32]) (L := [4, 30, 31, 32]) (by decide) h) (fun q h => mL (L' := [4, 31, 32]) (L := [4, 30, 31, 32]) (by decide) h) (fun _ t H locs ht hvm hwr_13 hB hz hk hS => ?_)
          have hT : TH E (T1 E) G [] H := by rw [ht] at hB; exact hB
          have ha_1 := ha_1.kept (hk _ ha_1.lt (nL hG (by decide)))
          refine lv_goto (tgt := 51) hx hb dX9_spoil_39 (by decide) ?_
          refine lv_iconst (v := 1) hx hb dX9_spoil_51 (by decide) ?_
          exact W.zret (v := 1) (ty := .boolean) hx hb hr rfl (fun t ht hW => ⟨⟨1, (), rfl, (by decide), (by show TH E (T1 E) G [] t.heap; rw [ht]; exact hT)⟩, hS.F ht⟩) hS.2.2 dX9_spoil_52
      · simp only [lt_I, le_I, eq_I, i_0, i_1, i_2, i_3, i_4, i_5, i_6, i_7, i_8, i_10, i_12, i_16, i_20, i_23, i_24, i_31, i_32, i_63, i_64, i_m1] at c_10
        refine lv_iconst (v := 0) hx hb dX9_spoil_25 (by decide) ?_
        exact W.zret (v := 0) (ty := .boolean) hx hb hr rfl (fun t ht hW => ⟨⟨0, (), rfl, (by decide), (by show TH E (T1 E) G [] t.heap; rw [ht]; exact hT)⟩, hS.F ht⟩) hS.2.2 dX9_spoil_26
theorem dX9_tick_0 : decode cX9_tick 0 = .ok (.iconst 0, 1) := by decide +kernel
theorem dX9_tick_1 : decode cX9_tick 1 = .ok (.istore_n 1, 1) := by decide +kernel
theorem dX9_tick_2 : decode cX9_tick 2 = .ok (.iconst 0, 1) := by decide +kernel
theorem dX9_tick_3 : decode cX9_tick 3 = .ok (.istore_n 2, 1) := by decide +kernel
theorem dX9_tick_4 : decode cX9_tick 4 = .ok (.iload_n 2, 1) := by decide +kernel
theorem dX9_tick_5 : decode cX9_tick 5 = .ok (.iconst 4, 1) := by decide +kernel
theorem dX9_tick_6 : decode cX9_tick 6 = .ok (.if_icmp .ge 24, 3) := by decide +kernel
theorem dX9_tick_9 : decode cX9_tick 9 = .ok (.aload_n 0, 1) := by decide +kernel
theorem dX9_tick_10 : decode cX9_tick 10 = .ok (.getfield 29, 3) := by decide +kernel
theorem dX9_tick_13 : decode cX9_tick 13 = .ok (.iload_n 2, 1) := by decide +kernel
theorem dX9_tick_14 : decode cX9_tick 14 = .ok (.aaload, 1) := by decide +kernel
theorem dX9_tick_15 : decode cX9_tick 15 = .ok (.invokevirtual 162, 3) := by decide +kernel
theorem dX9_tick_18 : decode cX9_tick 18 = .ok (.ifCond .eq 6, 3) := by decide +kernel
theorem dX9_tick_21 : decode cX9_tick 21 = .ok (.iinc 1 1, 3) := by decide +kernel
theorem dX9_tick_24 : decode cX9_tick 24 = .ok (.iinc 2 1, 3) := by decide +kernel
theorem dX9_tick_27 : decode cX9_tick 27 = .ok (.goto (-23), 3) := by decide +kernel
theorem dX9_tick_30 : decode cX9_tick 30 = .ok (.iload_n 1, 1) := by decide +kernel
theorem dX9_tick_31 : decode cX9_tick 31 = .ok (.ireturn, 1) := by decide +kernel
set_option maxHeartbeats 8000000 in
set_option maxRecDepth 100000 in
theorem t_X9_tick (l : Launch) (E : EE) (z0 : Nat) (G : Nat → Nat) (hGz : ∀ q, G q ≠ 0 → z0 ≤ q) (h0 : Nat) (hG : G h0 = 1) : Met l yX9_tick [Cond.code yX9_tick cX9_tick 3 (some .int)] ({ frames := 6, cells := 0, slots := 0, locals := 131 } : Room) (va_Pc [.ref h0] (fun U => (TH E (T1 E) G [] U.heap) ∧ KS E z0 U)) (va_Qi (fun (r : Int32) (_ : Unit) => True) (fun _ t => TH E (T1 E) G [] t.heap) (fun q : Nat => G q ∈ ([8, 5, 15, 11, 10, 9] : List Nat))) 0 0 (fun q : Nat => G q ∈ ([8, 5, 15, 11, 10, 9] : List Nat)) := by
  refine Met.ofW (cc := cX9_tick) (maxL := 3) (ret := (some .int)) (by decide) rfl ?_
  intro p e s m args below meth c s₁ B hml hv
  obtain ⟨rfl, hT, hK⟩ := hv
  have hx := B.exec
  have hb := B.bytes
  have hr := B.returns
  have hts : ∀ w ∈ TS, w.before ([.ref h0] : List Value).toArray s = true := fun w hw => hK.2.1 w hw _
  have hown : s.vm.findClass RX9 = some m.cls := findClass_of_methodNamed B.named
  have hlocks := B.notSynchronized
  have hS : va_S (fun q : Nat => G q ∈ ([8, 5, 15, 11, 10, 9] : List Nat)) s.heap s.heap [] := va_S.rf
  have hAz : ∀ q, (fun q : Nat => G q ∈ ([8, 5, 15, 11, 10, 9] : List Nat)) q → z0 ≤ q := zL hGz (by decide)
  have hl := lv_entry ([.ref h0]) (n := 3) (Nat.le_of_ble_eq_true rfl)
  rw [lg_entry_eq]
  generalize (lg_sl ([.ref h0]) ++ List.replicate (3 - (lg_sl ([.ref h0])).length) Slot.unset).toArray = ls at hl ⊢
  have hl : lv_has ls 3 [(0, .ref h0)] := hl
  refine lv_iconst (v := 0) hx hb dX9_tick_0 (by decide) ?_
  refine lv_istore_n (lv' := [(1, .int 0), (0, .ref h0)]) hx hb dX9_tick_1 rfl hl (by decide) rfl (fun ls hl => ?_)
  refine lv_iconst (v := 0) hx hb dX9_tick_2 (by decide) ?_
  refine lv_istore_n (lv' := [(2, .int 0), (1, .int 0), (0, .ref h0)]) hx hb dX9_tick_3 rfl hl (by decide) rfl (fun ls hl => ?_)
  refine lv_iload_n hx hb dX9_tick_4 rfl (lv_at hl 0 rfl) ?_
  refine lv_iconst (v := 4) hx hb dX9_tick_5 (by decide) ?_
  refine lv_icmp_ge (tgt := 30) hx hb dX9_tick_6 (by decide) (fun c_1 => absurd c_1 (by decide)) (fun c_1 => ?_)
  refine lv_aload_n hx hb dX9_tick_9 rfl (lv_at hl 2 rfl) ?_
  obtain ⟨v0_2, v1_2, v2_2, ha_2, hg0_2, hg1_2, hg2_2⟩ := tr_1 hT hG
  refine va_get (D := DG E) (ci := 9) (v := .ref v1_2) (C := RX9) (T := TX9) (N := 3) hx hb hts iw_X9 hown hK.1 (va_one ha_2) 0 rfl rfl 1 (by decide) (hts _ fl_X9_29) (fun _ h9 => h9) rfl dX9_tick_10 ?_
  refine lv_iload_n hx hb dX9_tick_13 rfl (lv_at hl 0 rfl) ?_
  obtain ⟨f_3, ha_3, he_3⟩ := tr_3 hT hg1_2
  obtain ⟨j_4, hj_4, ej_4⟩ := vp_in_of (show vp_in (0) 4 from vp_in_iff.mpr ⟨by decide, by decide⟩) (by decide)
  obtain ⟨b_4, eb_4, gb_4⟩ := he_3 j_4 hj_4
  have cj_4 : f_3 (0 : Int32).toNatClampNeg = some b_4 := by rw [ej_4, nI_clamp (by omega)]; exact eb_4
  refine va_aldq (D := DG E) hx hb hK.1 (va_one ha_3) 0 5 rfl rfl (show vp_in (0) 4 from vp_in_iff.mpr ⟨by decide, by decide⟩) dX9_tick_14 ?_
  rw [cj_4]
  refine W.eq (g2 := F0 m 15 ls [.ref b_4]) (by rfl) ?_
  obtain ⟨v0_5, v1_5, v2_5, ha_5, hg0_5, hg1_5⟩ := tr_8 hT gb_4
  refine va_calli (rnV (fun H => TH E (T1 E) G [] H) (As := []) (rest := []) ⟨hx, hb, hml, hown, hts⟩ (t_X3_failsByTime l E z0 G hGz b_4 gb_4) (cwV 0 hts (gdV ml_X9_162 im_X3_failsByTime se_X3_X3_failsByTime in_X3 co_X3_failsByTime rfl) rfl rfl rfl (by decide +kernel) ⟨Nat.le_of_ble_eq_true rfl, Nat.le_of_ble_eq_true rfl⟩) hT (fun U hU hW => hK.go hW hS hAz hU) (va_recv hK.1 (va_one ha_5) (ci := 3) (q0 := 0) rfl rfl) rfl rfl hl.1 rfl (lv_room (Nat.le_of_ble_eq_true rfl)) dX9_tick_15 ⟨Nat.le_of_ble_eq_true rfl, Nat.le_of_ble_eq_true rfl⟩) hS (fun q _ h => mL (L' := [8, 5, 15, 11, 10, 9]) (L := [8, 5, 15, 11, 10, 9]) (by decide) h) (fun q h => mL (L' := [8, 5, 15, 11, 10, 9]) (L := [8, 5, 15, 11, 10, 9]) (by decide) h) (fun r_6 _ t H locs ht hvm hwr_6 hB hz hk hS => ?_)
  have hT : TH E (T1 E) G [] H := by rw [ht] at hB; exact hB
  have ha_2 := ha_2.kept (hk _ ha_2.lt (nL hG (by decide)))
  have ha_3 := ha_3.kept (hk _ ha_3.lt (nL hg1_2 (by decide)))
  have hzr_6 := s_rng hwr_6
  refine lv_if_eq (tgt := 24) hx hb dX9_tick_18 (by decide) (fun c_7 => ?_) (fun c_7 => ?_)
  · simp only [lt_I, le_I, eq_I, i_0, i_1, i_2, i_3, i_4, i_5, i_6, i_7, i_8, i_10, i_12, i_16, i_20, i_23, i_24, i_31, i_32, i_63, i_64, i_m1] at c_7
    refine lv_iinc (v := 1) (lv' := [(2, .int 1), (1, .int 0), (0, .ref h0)]) hx hb dX9_tick_24 hl (k := 0) rfl (by decide) (by decide) rfl (fun ls hl => ?_)
    refine lv_goto (tgt := 4) hx hb dX9_tick_27 (by decide) ?_
    refine lv_iload_n hx hb dX9_tick_4 rfl (lv_at hl 0 rfl) ?_
    refine lv_iconst (v := 4) hx hb dX9_tick_5 (by decide) ?_
    refine lv_icmp_ge (tgt := 30) hx hb dX9_tick_6 (by decide) (fun c_8 => absurd c_8 (by decide)) (fun c_8 => ?_)
    refine lv_aload_n hx hb dX9_tick_9 rfl (lv_at hl 2 rfl) ?_
    refine va_get (D := DG E) (ci := 9) (v := .ref v1_2) (C := RX9) (T := TX9) (N := 3) hx hb hts iw_X9 hown hK.1 (va_one ha_2) 0 rfl rfl 1 (by decide) (hts _ fl_X9_29) (fun _ h9 => h9) rfl dX9_tick_10 ?_
    refine lv_iload_n hx hb dX9_tick_13 rfl (lv_at hl 0 rfl) ?_
    obtain ⟨j_9, hj_9, ej_9⟩ := vp_in_of (show vp_in (1) 4 from vp_in_iff.mpr ⟨by decide, by decide⟩) (by decide)
    obtain ⟨b_9, eb_9, gb_9⟩ := he_3 j_9 hj_9
    have cj_9 : f_3 (1 : Int32).toNatClampNeg = some b_9 := by rw [ej_9, nI_clamp (by omega)]; exact eb_9
    refine va_aldq (D := DG E) hx hb hK.1 (va_one ha_3) 0 5 rfl rfl (show vp_in (1) 4 from vp_in_iff.mpr ⟨by decide, by decide⟩) dX9_tick_14 ?_
    rw [cj_9]
    refine W.eq (g2 := F0 m 15 ls [.ref b_9]) (by rfl) ?_
    obtain ⟨v0_10, v1_10, v2_10, ha_10, hg0_10, hg1_10⟩ := tr_8 hT gb_9
    refine va_calli (rnV (fun H => TH E (T1 E) G [] H) (As := []) (rest := []) ⟨hx, hb, hml, hown, hts⟩ (t_X3_failsByTime l E z0 G hGz b_9 gb_9) (cwV 0 hts (gdV ml_X9_162 im_X3_failsByTime se_X3_X3_failsByTime in_X3 co_X3_failsByTime rfl) rfl rfl rfl (by decide +kernel) ⟨Nat.le_of_ble_eq_true rfl, Nat.le_of_ble_eq_true rfl⟩) hT (fun U hU hW => hK.go hW hS hAz hU) (va_recv hK.1 (va_one ha_10) (ci := 3) (q0 := 0) rfl rfl) rfl rfl hl.1 rfl (lv_room (Nat.le_of_ble_eq_true rfl)) dX9_tick_15 ⟨Nat.le_of_ble_eq_true rfl, Nat.le_of_ble_eq_true rfl⟩) hS (fun q _ h => mL (L' := [8, 5, 15, 11, 10, 9]) (L := [8, 5, 15, 11, 10, 9]) (by decide) h) (fun q h => mL (L' := [8, 5, 15, 11, 10, 9]) (L := [8, 5, 15, 11, 10, 9]) (by decide) h) (fun r_11 _ t H locs ht hvm hwr_11 hB hz hk hS => ?_)
    have hT : TH E (T1 E) G [] H := by rw [ht] at hB; exact hB
    have ha_2 := ha_2.kept (hk _ ha_2.lt (nL hG (by decide)))
    have ha_3 := ha_3.kept (hk _ ha_3.lt (nL hg1_2 (by decide)))
    have hzr_11 := s_rng hwr_11
    refine lv_if_eq (tgt := 24) hx hb dX9_tick_18 (by decide) (fun c_12 => ?_) (fun c_12 => ?_)
    · simp only [lt_I, le_I, eq_I, i_0, i_1, i_2, i_3, i_4, i_5, i_6, i_7, i_8, i_10, i_12, i_16, i_20, i_23, i_24, i_31, i_32, i_63, i_64, i_m1] at c_12
      refine lv_iinc (v := 2) (lv' := [(2, .int 2), (1, .int 0), (0, .ref h0)]) hx hb dX9_tick_24 hl (k := 0) rfl (by decide) (by decide) rfl (fun ls hl => ?_)
      refine lv_goto (tgt := 4) hx hb dX9_tick_27 (by decide) ?_
      refine lv_iload_n hx hb dX9_tick_4 rfl (lv_at hl 0 rfl) ?_
      refine lv_iconst (v := 4) hx hb dX9_tick_5 (by decide) ?_
      refine lv_icmp_ge (tgt := 30) hx hb dX9_tick_6 (by decide) (fun c_13 => absurd c_13 (by decide)) (fun c_13 => ?_)
      refine lv_aload_n hx hb dX9_tick_9 rfl (lv_at hl 2 rfl) ?_
      refine va_get (D := DG E) (ci := 9) (v := .ref v1_2) (C := RX9) (T := TX9) (N := 3) hx hb hts iw_X9 hown hK.1 (va_one ha_2) 0 rfl rfl 1 (by decide) (hts _ fl_X9_29) (fun _ h9 => h9) rfl dX9_tick_10 ?_
      refine lv_iload_n hx hb dX9_tick_13 rfl (lv_at hl 0 rfl) ?_
      obtain ⟨j_14, hj_14, ej_14⟩ := vp_in_of (show vp_in (2) 4 from vp_in_iff.mpr ⟨by decide, by decide⟩) (by decide)
      obtain ⟨b_14, eb_14, gb_14⟩ := he_3 j_14 hj_14
      have cj_14 : f_3 (2 : Int32).toNatClampNeg = some b_14 := by rw [ej_14, nI_clamp (by omega)]; exact eb_14
      refine va_aldq (D := DG E) hx hb hK.1 (va_one ha_3) 0 5 rfl rfl (show vp_in (2) 4 from vp_in_iff.mpr ⟨by decide, by decide⟩) dX9_tick_14 ?_
      rw [cj_14]
      refine W.eq (g2 := F0 m 15 ls [.ref b_14]) (by rfl) ?_
      obtain ⟨v0_15, v1_15, v2_15, ha_15, hg0_15, hg1_15⟩ := tr_8 hT gb_14
      refine va_calli (rnV (fun H => TH E (T1 E) G [] H) (As := []) (rest := []) ⟨hx, hb, hml, hown, hts⟩ (t_X3_failsByTime l E z0 G hGz b_14 gb_14) (cwV 0 hts (gdV ml_X9_162 im_X3_failsByTime se_X3_X3_failsByTime in_X3 co_X3_failsByTime rfl) rfl rfl rfl (by decide +kernel) ⟨Nat.le_of_ble_eq_true rfl, Nat.le_of_ble_eq_true rfl⟩) hT (fun U hU hW => hK.go hW hS hAz hU) (va_recv hK.1 (va_one ha_15) (ci := 3) (q0 := 0) rfl rfl) rfl rfl hl.1 rfl (lv_room (Nat.le_of_ble_eq_true rfl)) dX9_tick_15 ⟨Nat.le_of_ble_eq_true rfl, Nat.le_of_ble_eq_true rfl⟩) hS (fun q _ h => mL (L' := [8, 5, 15, 11, 10, 9]) (L := [8, 5, 15, 11, 10, 9]) (by decide) h) (fun q h => mL (L' := [8, 5, 15, 11, 10, 9]) (L := [8, 5, 15, 11, 10, 9]) (by decide) h) (fun r_16 _ t H locs ht hvm hwr_16 hB hz hk hS => ?_)
      have hT : TH E (T1 E) G [] H := by rw [ht] at hB; exact hB
      have ha_2 := ha_2.kept (hk _ ha_2.lt (nL hG (by decide)))
      have ha_3 := ha_3.kept (hk _ ha_3.lt (nL hg1_2 (by decide)))
      have hzr_16 := s_rng hwr_16
      refine lv_if_eq (tgt := 24) hx hb dX9_tick_18 (by decide) (fun c_17 => ?_) (fun c_17 => ?_)
      · simp only [lt_I, le_I, eq_I, i_0, i_1, i_2, i_3, i_4, i_5, i_6, i_7, i_8, i_10, i_12, i_16, i_20, i_23, i_24, i_31, i_32, i_63, i_64, i_m1] at c_17
        refine lv_iinc (v := 3) (lv' := [(2, .int 3), (1, .int 0), (0, .ref h0)]) hx hb dX9_tick_24 hl (k := 0) rfl (by decide) (by decide) rfl (fun ls hl => ?_)
        refine lv_goto (tgt := 4) hx hb dX9_tick_27 (by decide) ?_
        refine lv_iload_n hx hb dX9_tick_4 rfl (lv_at hl 0 rfl) ?_
        refine lv_iconst (v := 4) hx hb dX9_tick_5 (by decide) ?_
        refine lv_icmp_ge (tgt := 30) hx hb dX9_tick_6 (by decide) (fun c_18 => absurd c_18 (by decide)) (fun c_18 => ?_)
        refine lv_aload_n hx hb dX9_tick_9 rfl (lv_at hl 2 rfl) ?_
        refine va_get (D := DG E) (ci := 9) (v := .ref v1_2) (C := RX9) (T := TX9) (N := 3) hx hb hts iw_X9 hown hK.1 (va_one ha_2) 0 rfl rfl 1 (by decide) (hts _ fl_X9_29) (fun _ h9 => h9) rfl dX9_tick_10 ?_
        refine lv_iload_n hx hb dX9_tick_13 rfl (lv_at hl 0 rfl) ?_
        obtain ⟨j_19, hj_19, ej_19⟩ := vp_in_of (show vp_in (3) 4 from vp_in_iff.mpr ⟨by decide, by decide⟩) (by decide)
        obtain ⟨b_19, eb_19, gb_19⟩ := he_3 j_19 hj_19
        have cj_19 : f_3 (3 : Int32).toNatClampNeg = some b_19 := by rw [ej_19, nI_clamp (by omega)]; exact eb_19
        refine va_aldq (D := DG E) hx hb hK.1 (va_one ha_3) 0 5 rfl rfl (show vp_in (3) 4 from vp_in_iff.mpr ⟨by decide, by decide⟩) dX9_tick_14 ?_
        rw [cj_19]
        refine W.eq (g2 := F0 m 15 ls [.ref b_19]) (by rfl) ?_
        obtain ⟨v0_20, v1_20, v2_20, ha_20, hg0_20, hg1_20⟩ := tr_8 hT gb_19
        refine va_calli (rnV (fun H => TH E (T1 E) G [] H) (As := []) (rest := []) ⟨hx, hb, hml, hown, hts⟩ (t_X3_failsByTime l E z0 G hGz b_19 gb_19) (cwV 0 hts (gdV ml_X9_162 im_X3_failsByTime se_X3_X3_failsByTime in_X3 co_X3_failsByTime rfl) rfl rfl rfl (by decide +kernel) ⟨Nat.le_of_ble_eq_true rfl, Nat.le_of_ble_eq_true rfl⟩) hT (fun U hU hW => hK.go hW hS hAz hU) (va_recv hK.1 (va_one ha_20) (ci := 3) (q0 := 0) rfl rfl) rfl rfl hl.1 rfl (lv_room (Nat.le_of_ble_eq_true rfl)) dX9_tick_15 ⟨Nat.le_of_ble_eq_true rfl, Nat.le_of_ble_eq_true rfl⟩) hS (fun q _ h => mL (L' := [8, 5, 15, 11, 10, 9]) (L := [8, 5, 15, 11, 10, 9]) (by decide) h) (fun q h => mL (L' := [8, 5, 15, 11, 10, 9]) (L := [8, 5, 15, 11, 10, 9]) (by decide) h) (fun r_21 _ t H locs ht hvm hwr_21 hB hz hk hS => ?_)
        have hT : TH E (T1 E) G [] H := by rw [ht] at hB; exact hB
        have ha_2 := ha_2.kept (hk _ ha_2.lt (nL hG (by decide)))
        have ha_3 := ha_3.kept (hk _ ha_3.lt (nL hg1_2 (by decide)))
        have hzr_21 := s_rng hwr_21
        refine lv_if_eq (tgt := 24) hx hb dX9_tick_18 (by decide) (fun c_22 => ?_) (fun c_22 => ?_)
        · simp only [lt_I, le_I, eq_I, i_0, i_1, i_2, i_3, i_4, i_5, i_6, i_7, i_8, i_10, i_12, i_16, i_20, i_23, i_24, i_31, i_32, i_63, i_64, i_m1] at c_22
          refine lv_iinc (v := 4) (lv' := [(2, .int 4), (1, .int 0), (0, .ref h0)]) hx hb dX9_tick_24 hl (k := 0) rfl (by decide) (by decide) rfl (fun ls hl => ?_)
          refine lv_goto (tgt := 4) hx hb dX9_tick_27 (by decide) ?_
          refine lv_iload_n hx hb dX9_tick_4 rfl (lv_at hl 0 rfl) ?_
          refine lv_iconst (v := 4) hx hb dX9_tick_5 (by decide) ?_
          refine lv_icmp_ge (tgt := 30) hx hb dX9_tick_6 (by decide) (fun c_23 => ?_) (fun c_23 => absurd c_23 (by decide))
          refine lv_iload_n hx hb dX9_tick_30 rfl (lv_at hl 1 rfl) ?_
          exact W.iret (v := 0) hx hb hr (fun t ht hW => ⟨⟨0, (), rfl, trivial, (by show TH E (T1 E) G [] t.heap; rw [ht]; exact hT)⟩, hS.F ht⟩) hS.2.2 dX9_tick_31
        · simp only [lt_I, le_I, eq_I, i_0, i_1, i_2, i_3, i_4, i_5, i_6, i_7, i_8, i_10, i_12, i_16, i_20, i_23, i_24, i_31, i_32, i_63, i_64, i_m1] at c_22
          refine lv_iinc (v := 1) (lv' := [(1, .int 1), (2, .int 3), (0, .ref h0)]) hx hb dX9_tick_21 hl (k := 1) rfl (by decide) (by decide) rfl (fun ls hl => ?_)
          refine lv_iinc (v := 4) (lv' := [(2, .int 4), (1, .int 1), (0, .ref h0)]) hx hb dX9_tick_24 hl (k := 1) rfl (by decide) (by decide) rfl (fun ls hl => ?_)
          refine lv_goto (tgt := 4) hx hb dX9_tick_27 (by decide) ?_
          refine lv_iload_n hx hb dX9_tick_4 rfl (lv_at hl 0 rfl) ?_
          refine lv_iconst (v := 4) hx hb dX9_tick_5 (by decide) ?_
          refine lv_icmp_ge (tgt := 30) hx hb dX9_tick_6 (by decide) (fun c_24 => ?_) (fun c_24 => absurd c_24 (by decide))
          refine lv_iload_n hx hb dX9_tick_30 rfl (lv_at hl 1 rfl) ?_
          exact W.iret (v := 1) hx hb hr (fun t ht hW => ⟨⟨1, (), rfl, trivial, (by show TH E (T1 E) G [] t.heap; rw [ht]; exact hT)⟩, hS.F ht⟩) hS.2.2 dX9_tick_31
      · simp only [lt_I, le_I, eq_I, i_0, i_1, i_2, i_3, i_4, i_5, i_6, i_7, i_8, i_10, i_12, i_16, i_20, i_23, i_24, i_31, i_32, i_63, i_64, i_m1] at c_17
        refine lv_iinc (v := 1) (lv' := [(1, .int 1), (2, .int 2), (0, .ref h0)]) hx hb dX9_tick_21 hl (k := 1) rfl (by decide) (by decide) rfl (fun ls hl => ?_)
        refine lv_iinc (v := 3) (lv' := [(2, .int 3), (1, .int 1), (0, .ref h0)]) hx hb dX9_tick_24 hl (k := 1) rfl (by decide) (by decide) rfl (fun ls hl => ?_)
        refine lv_goto (tgt := 4) hx hb dX9_tick_27 (by decide) ?_
        refine lv_iload_n hx hb dX9_tick_4 rfl (lv_at hl 0 rfl) ?_
        refine lv_iconst (v := 4) hx hb dX9_tick_5 (by decide) ?_
        refine lv_icmp_ge (tgt := 30) hx hb dX9_tick_6 (by decide) (fun c_25 => absurd c_25 (by decide)) (fun c_25 => ?_)
        refine lv_aload_n hx hb dX9_tick_9 rfl (lv_at hl 2 rfl) ?_
        refine va_get (D := DG E) (ci := 9) (v := .ref v1_2) (C := RX9) (T := TX9) (N := 3) hx hb hts iw_X9 hown hK.1 (va_one ha_2) 0 rfl rfl 1 (by decide) (hts _ fl_X9_29) (fun _ h9 => h9) rfl dX9_tick_10 ?_
        refine lv_iload_n hx hb dX9_tick_13 rfl (lv_at hl 0 rfl) ?_
        obtain ⟨j_26, hj_26, ej_26⟩ := vp_in_of (show vp_in (3) 4 from vp_in_iff.mpr ⟨by decide, by decide⟩) (by decide)
        obtain ⟨b_26, eb_26, gb_26⟩ := he_3 j_26 hj_26
        have cj_26 : f_3 (3 : Int32).toNatClampNeg = some b_26 := by rw [ej_26, nI_clamp (by omega)]; exact eb_26
        refine va_aldq (D := DG E) hx hb hK.1 (va_one ha_3) 0 5 rfl rfl (show vp_in (3) 4 from vp_in_iff.mpr ⟨by decide, by decide⟩) dX9_tick_14 ?_
        rw [cj_26]
        refine W.eq (g2 := F0 m 15 ls [.ref b_26]) (by rfl) ?_
        obtain ⟨v0_27, v1_27, v2_27, ha_27, hg0_27, hg1_27⟩ := tr_8 hT gb_26
        refine va_calli (rnV (fun H => TH E (T1 E) G [] H) (As := []) (rest := []) ⟨hx, hb, hml, hown, hts⟩ (t_X3_failsByTime l E z0 G hGz b_26 gb_26) (cwV 0 hts (gdV ml_X9_162 im_X3_failsByTime se_X3_X3_failsByTime in_X3 co_X3_failsByTime rfl) rfl rfl rfl (by decide +kernel) ⟨Nat.le_of_ble_eq_true rfl, Nat.le_of_ble_eq_true rfl⟩) hT (fun U hU hW => hK.go hW hS hAz hU) (va_recv hK.1 (va_one ha_27) (ci := 3) (q0 := 0) rfl rfl) rfl rfl hl.1 rfl (lv_room (Nat.le_of_ble_eq_true rfl)) dX9_tick_15 ⟨Nat.le_of_ble_eq_true rfl, Nat.le_of_ble_eq_true rfl⟩) hS (fun q _ h => mL (L' := [8, 5, 15, 11, 10, 9]) (L := [8, 5, 15, 11, 10, 9]) (by decide) h) (fun q h => mL (L' := [8, 5, 15, 11, 10, 9]) (L := [8, 5, 15, 11, 10, 9]) (by decide) h) (fun r_28 _ t H locs ht hvm hwr_28 hB hz hk hS => ?_)
        have hT : TH E (T1 E) G [] H := by rw [ht] at hB; exact hB
        have ha_2 := ha_2.kept (hk _ ha_2.lt (nL hG (by decide)))
        have ha_3 := ha_3.kept (hk _ ha_3.lt (nL hg1_2 (by decide)))
        have hzr_28 := s_rng hwr_28
        refine lv_if_eq (tgt := 24) hx hb dX9_tick_18 (by decide) (fun c_29 => ?_) (fun c_29 => ?_)
        · simp only [lt_I, le_I, eq_I, i_0, i_1, i_2, i_3, i_4, i_5, i_6, i_7, i_8, i_10, i_12, i_16, i_20, i_23, i_24, i_31, i_32, i_63, i_64, i_m1] at c_29
          refine lv_iinc (v := 4) (lv' := [(2, .int 4), (1, .int 1), (0, .ref h0)]) hx hb dX9_tick_24 hl (k := 0) rfl (by decide) (by decide) rfl (fun ls hl => ?_)
          refine lv_goto (tgt := 4) hx hb dX9_tick_27 (by decide) ?_
          refine lv_iload_n hx hb dX9_tick_4 rfl (lv_at hl 0 rfl) ?_
          refine lv_iconst (v := 4) hx hb dX9_tick_5 (by decide) ?_
          refine lv_icmp_ge (tgt := 30) hx hb dX9_tick_6 (by decide) (fun c_30 => ?_) (fun c_30 => absurd c_30 (by decide))
          refine lv_iload_n hx hb dX9_tick_30 rfl (lv_at hl 1 rfl) ?_
          exact W.iret (v := 1) hx hb hr (fun t ht hW => ⟨⟨1, (), rfl, trivial, (by show TH E (T1 E) G [] t.heap; rw [ht]; exact hT)⟩, hS.F ht⟩) hS.2.2 dX9_tick_31
        · simp only [lt_I, le_I, eq_I, i_0, i_1, i_2, i_3, i_4, i_5, i_6, i_7, i_8, i_10, i_12, i_16, i_20, i_23, i_24, i_31, i_32, i_63, i_64, i_m1] at c_29
          refine lv_iinc (v := 2) (lv' := [(1, .int 2), (2, .int 3), (0, .ref h0)]) hx hb dX9_tick_21 hl (k := 1) rfl (by decide) (by decide) rfl (fun ls hl => ?_)
          refine lv_iinc (v := 4) (lv' := [(2, .int 4), (1, .int 2), (0, .ref h0)]) hx hb dX9_tick_24 hl (k := 1) rfl (by decide) (by decide) rfl (fun ls hl => ?_)
          refine lv_goto (tgt := 4) hx hb dX9_tick_27 (by decide) ?_
          refine lv_iload_n hx hb dX9_tick_4 rfl (lv_at hl 0 rfl) ?_
          refine lv_iconst (v := 4) hx hb dX9_tick_5 (by decide) ?_
          refine lv_icmp_ge (tgt := 30) hx hb dX9_tick_6 (by decide) (fun c_31 => ?_) (fun c_31 => absurd c_31 (by decide))
          refine lv_iload_n hx hb dX9_tick_30 rfl (lv_at hl 1 rfl) ?_
          exact W.iret (v := 2) hx hb hr (fun t ht hW => ⟨⟨2, (), rfl, trivial, (by show TH E (T1 E) G [] t.heap; rw [ht]; exact hT)⟩, hS.F ht⟩) hS.2.2 dX9_tick_31
    · simp only [lt_I, le_I, eq_I, i_0, i_1, i_2, i_3, i_4, i_5, i_6, i_7, i_8, i_10, i_12, i_16, i_20, i_23, i_24, i_31, i_32, i_63, i_64, i_m1] at c_12
      refine lv_iinc (v := 1) (lv' := [(1, .int 1), (2, .int 1), (0, .ref h0)]) hx hb dX9_tick_21 hl (k := 1) rfl (by decide) (by decide) rfl (fun ls hl => ?_)
      refine lv_iinc (v := 2) (lv' := [(2, .int 2), (1, .int 1), (0, .ref h0)]) hx hb dX9_tick_24 hl (k := 1) rfl (by decide) (by decide) rfl (fun ls hl => ?_)
      refine lv_goto (tgt := 4) hx hb dX9_tick_27 (by decide) ?_
      refine lv_iload_n hx hb dX9_tick_4 rfl (lv_at hl 0 rfl) ?_
      refine lv_iconst (v := 4) hx hb dX9_tick_5 (by decide) ?_
      refine lv_icmp_ge (tgt := 30) hx hb dX9_tick_6 (by decide) (fun c_32 => absurd c_32 (by decide)) (fun c_32 => ?_)
      refine lv_aload_n hx hb dX9_tick_9 rfl (lv_at hl 2 rfl) ?_
      refine va_get (D := DG E) (ci := 9) (v := .ref v1_2) (C := RX9) (T := TX9) (N := 3) hx hb hts iw_X9 hown hK.1 (va_one ha_2) 0 rfl rfl 1 (by decide) (hts _ fl_X9_29) (fun _ h9 => h9) rfl dX9_tick_10 ?_
      refine lv_iload_n hx hb dX9_tick_13 rfl (lv_at hl 0 rfl) ?_
      obtain ⟨j_33, hj_33, ej_33⟩ := vp_in_of (show vp_in (2) 4 from vp_in_iff.mpr ⟨by decide, by decide⟩) (by decide)
      obtain ⟨b_33, eb_33, gb_33⟩ := he_3 j_33 hj_33
      have cj_33 : f_3 (2 : Int32).toNatClampNeg = some b_33 := by rw [ej_33, nI_clamp (by omega)]; exact eb_33
      refine va_aldq (D := DG E) hx hb hK.1 (va_one ha_3) 0 5 rfl rfl (show vp_in (2) 4 from vp_in_iff.mpr ⟨by decide, by decide⟩) dX9_tick_14 ?_
      rw [cj_33]
      refine W.eq (g2 := F0 m 15 ls [.ref b_33]) (by rfl) ?_
      obtain ⟨v0_34, v1_34, v2_34, ha_34, hg0_34, hg1_34⟩ := tr_8 hT gb_33
      refine va_calli (rnV (fun H => TH E (T1 E) G [] H) (As := []) (rest := []) ⟨hx, hb, hml, hown, hts⟩ (t_X3_failsByTime l E z0 G hGz b_33 gb_33) (cwV 0 hts (gdV ml_X9_162 im_X3_failsByTime se_X3_X3_failsByTime in_X3 co_X3_failsByTime rfl) rfl rfl rfl (by decide +kernel) ⟨Nat.le_of_ble_eq_true rfl, Nat.le_of_ble_eq_true rfl⟩) hT (fun U hU hW => hK.go hW hS hAz hU) (va_recv hK.1 (va_one ha_34) (ci := 3) (q0 := 0) rfl rfl) rfl rfl hl.1 rfl (lv_room (Nat.le_of_ble_eq_true rfl)) dX9_tick_15 ⟨Nat.le_of_ble_eq_true rfl, Nat.le_of_ble_eq_true rfl⟩) hS (fun q _ h => mL (L' := [8, 5, 15, 11, 10, 9]) (L := [8, 5, 15, 11, 10, 9]) (by decide) h) (fun q h => mL (L' := [8, 5, 15, 11, 10, 9]) (L := [8, 5, 15, 11, 10, 9]) (by decide) h) (fun r_35 _ t H locs ht hvm hwr_35 hB hz hk hS => ?_)
      have hT : TH E (T1 E) G [] H := by rw [ht] at hB; exact hB
      have ha_2 := ha_2.kept (hk _ ha_2.lt (nL hG (by decide)))
      have ha_3 := ha_3.kept (hk _ ha_3.lt (nL hg1_2 (by decide)))
      have hzr_35 := s_rng hwr_35
      refine lv_if_eq (tgt := 24) hx hb dX9_tick_18 (by decide) (fun c_36 => ?_) (fun c_36 => ?_)
      · simp only [lt_I, le_I, eq_I, i_0, i_1, i_2, i_3, i_4, i_5, i_6, i_7, i_8, i_10, i_12, i_16, i_20, i_23, i_24, i_31, i_32, i_63, i_64, i_m1] at c_36
        refine lv_iinc (v := 3) (lv' := [(2, .int 3), (1, .int 1), (0, .ref h0)]) hx hb dX9_tick_24 hl (k := 0) rfl (by decide) (by decide) rfl (fun ls hl => ?_)
        refine lv_goto (tgt := 4) hx hb dX9_tick_27 (by decide) ?_
        refine lv_iload_n hx hb dX9_tick_4 rfl (lv_at hl 0 rfl) ?_
        refine lv_iconst (v := 4) hx hb dX9_tick_5 (by decide) ?_
        refine lv_icmp_ge (tgt := 30) hx hb dX9_tick_6 (by decide) (fun c_37 => absurd c_37 (by decide)) (fun c_37 => ?_)
        refine lv_aload_n hx hb dX9_tick_9 rfl (lv_at hl 2 rfl) ?_
        refine va_get (D := DG E) (ci := 9) (v := .ref v1_2) (C := RX9) (T := TX9) (N := 3) hx hb hts iw_X9 hown hK.1 (va_one ha_2) 0 rfl rfl 1 (by decide) (hts _ fl_X9_29) (fun _ h9 => h9) rfl dX9_tick_10 ?_
        refine lv_iload_n hx hb dX9_tick_13 rfl (lv_at hl 0 rfl) ?_
        obtain ⟨j_38, hj_38, ej_38⟩ := vp_in_of (show vp_in (3) 4 from vp_in_iff.mpr ⟨by decide, by decide⟩) (by decide)
        obtain ⟨b_38, eb_38, gb_38⟩ := he_3 j_38 hj_38
        have cj_38 : f_3 (3 : Int32).toNatClampNeg = some b_38 := by rw [ej_38, nI_clamp (by omega)]; exact eb_38
        refine va_aldq (D := DG E) hx hb hK.1 (va_one ha_3) 0 5 rfl rfl (show vp_in (3) 4 from vp_in_iff.mpr ⟨by decide, by decide⟩) dX9_tick_14 ?_
        rw [cj_38]
        refine W.eq (g2 := F0 m 15 ls [.ref b_38]) (by rfl) ?_
        obtain ⟨v0_39, v1_39, v2_39, ha_39, hg0_39, hg1_39⟩ := tr_8 hT gb_38
        refine va_calli (rnV (fun H => TH E (T1 E) G [] H) (As := []) (rest := []) ⟨hx, hb, hml, hown, hts⟩ (t_X3_failsByTime l E z0 G hGz b_38 gb_38) (cwV 0 hts (gdV ml_X9_162 im_X3_failsByTime se_X3_X3_failsByTime in_X3 co_X3_failsByTime rfl) rfl rfl rfl (by decide +kernel) ⟨Nat.le_of_ble_eq_true rfl, Nat.le_of_ble_eq_true rfl⟩) hT (fun U hU hW => hK.go hW hS hAz hU) (va_recv hK.1 (va_one ha_39) (ci := 3) (q0 := 0) rfl rfl) rfl rfl hl.1 rfl (lv_room (Nat.le_of_ble_eq_true rfl)) dX9_tick_15 ⟨Nat.le_of_ble_eq_true rfl, Nat.le_of_ble_eq_true rfl⟩) hS (fun q _ h => mL (L' := [8, 5, 15, 11, 10, 9]) (L := [8, 5, 15, 11, 10, 9]) (by decide) h) (fun q h => mL (L' := [8, 5, 15, 11, 10, 9]) (L := [8, 5, 15, 11, 10, 9]) (by decide) h) (fun r_40 _ t H locs ht hvm hwr_40 hB hz hk hS => ?_)
        have hT : TH E (T1 E) G [] H := by rw [ht] at hB; exact hB
        have ha_2 := ha_2.kept (hk _ ha_2.lt (nL hG (by decide)))
        have ha_3 := ha_3.kept (hk _ ha_3.lt (nL hg1_2 (by decide)))
        have hzr_40 := s_rng hwr_40
        refine lv_if_eq (tgt := 24) hx hb dX9_tick_18 (by decide) (fun c_41 => ?_) (fun c_41 => ?_)
        · simp only [lt_I, le_I, eq_I, i_0, i_1, i_2, i_3, i_4, i_5, i_6, i_7, i_8, i_10, i_12, i_16, i_20, i_23, i_24, i_31, i_32, i_63, i_64, i_m1] at c_41
          refine lv_iinc (v := 4) (lv' := [(2, .int 4), (1, .int 1), (0, .ref h0)]) hx hb dX9_tick_24 hl (k := 0) rfl (by decide) (by decide) rfl (fun ls hl => ?_)
          refine lv_goto (tgt := 4) hx hb dX9_tick_27 (by decide) ?_
          refine lv_iload_n hx hb dX9_tick_4 rfl (lv_at hl 0 rfl) ?_
          refine lv_iconst (v := 4) hx hb dX9_tick_5 (by decide) ?_
          refine lv_icmp_ge (tgt := 30) hx hb dX9_tick_6 (by decide) (fun c_42 => ?_) (fun c_42 => absurd c_42 (by decide))
          refine lv_iload_n hx hb dX9_tick_30 rfl (lv_at hl 1 rfl) ?_
          exact W.iret (v := 1) hx hb hr (fun t ht hW => ⟨⟨1, (), rfl, trivial, (by show TH E (T1 E) G [] t.heap; rw [ht]; exact hT)⟩, hS.F ht⟩) hS.2.2 dX9_tick_31
        · simp only [lt_I, le_I, eq_I, i_0, i_1, i_2, i_3, i_4, i_5, i_6, i_7, i_8, i_10, i_12, i_16, i_20, i_23, i_24, i_31, i_32, i_63, i_64, i_m1] at c_41
          refine lv_iinc (v := 2) (lv' := [(1, .int 2), (2, .int 3), (0, .ref h0)]) hx hb dX9_tick_21 hl (k := 1) rfl (by decide) (by decide) rfl (fun ls hl => ?_)
          refine lv_iinc (v := 4) (lv' := [(2, .int 4), (1, .int 2), (0, .ref h0)]) hx hb dX9_tick_24 hl (k := 1) rfl (by decide) (by decide) rfl (fun ls hl => ?_)
          refine lv_goto (tgt := 4) hx hb dX9_tick_27 (by decide) ?_
          refine lv_iload_n hx hb dX9_tick_4 rfl (lv_at hl 0 rfl) ?_
          refine lv_iconst (v := 4) hx hb dX9_tick_5 (by decide) ?_
          refine lv_icmp_ge (tgt := 30) hx hb dX9_tick_6 (by decide) (fun c_43 => ?_) (fun c_43 => absurd c_43 (by decide))
          refine lv_iload_n hx hb dX9_tick_30 rfl (lv_at hl 1 rfl) ?_
          exact W.iret (v := 2) hx hb hr (fun t ht hW => ⟨⟨2, (), rfl, trivial, (by show TH E (T1 E) G [] t.heap; rw [ht]; exact hT)⟩, hS.F ht⟩) hS.2.2 dX9_tick_31
      · simp only [lt_I, le_I, eq_I, i_0, i_1, i_2, i_3, i_4, i_5, i_6, i_7, i_8, i_10, i_12, i_16, i_20, i_23, i_24, i_31, i_32, i_63, i_64, i_m1] at c_36
        refine lv_iinc (v := 2) (lv' := [(1, .int 2), (2, .int 2), (0, .ref h0)]) hx hb dX9_tick_21 hl (k := 1) rfl (by decide) (by decide) rfl (fun ls hl => ?_)
        refine lv_iinc (v := 3) (lv' := [(2, .int 3), (1, .int 2), (0, .ref h0)]) hx hb dX9_tick_24 hl (k := 1) rfl (by decide) (by decide) rfl (fun ls hl => ?_)
        refine lv_goto (tgt := 4) hx hb dX9_tick_27 (by decide) ?_
        refine lv_iload_n hx hb dX9_tick_4 rfl (lv_at hl 0 rfl) ?_
        refine lv_iconst (v := 4) hx hb dX9_tick_5 (by decide) ?_
        refine lv_icmp_ge (tgt := 30) hx hb dX9_tick_6 (by decide) (fun c_44 => absurd c_44 (by decide)) (fun c_44 => ?_)
        refine lv_aload_n hx hb dX9_tick_9 rfl (lv_at hl 2 rfl) ?_
        refine va_get (D := DG E) (ci := 9) (v := .ref v1_2) (C := RX9) (T := TX9) (N := 3) hx hb hts iw_X9 hown hK.1 (va_one ha_2) 0 rfl rfl 1 (by decide) (hts _ fl_X9_29) (fun _ h9 => h9) rfl dX9_tick_10 ?_
        refine lv_iload_n hx hb dX9_tick_13 rfl (lv_at hl 0 rfl) ?_
        obtain ⟨j_45, hj_45, ej_45⟩ := vp_in_of (show vp_in (3) 4 from vp_in_iff.mpr ⟨by decide, by decide⟩) (by decide)
        obtain ⟨b_45, eb_45, gb_45⟩ := he_3 j_45 hj_45
        have cj_45 : f_3 (3 : Int32).toNatClampNeg = some b_45 := by rw [ej_45, nI_clamp (by omega)]; exact eb_45
        refine va_aldq (D := DG E) hx hb hK.1 (va_one ha_3) 0 5 rfl rfl (show vp_in (3) 4 from vp_in_iff.mpr ⟨by decide, by decide⟩) dX9_tick_14 ?_
        rw [cj_45]
        refine W.eq (g2 := F0 m 15 ls [.ref b_45]) (by rfl) ?_
        obtain ⟨v0_46, v1_46, v2_46, ha_46, hg0_46, hg1_46⟩ := tr_8 hT gb_45
        refine va_calli (rnV (fun H => TH E (T1 E) G [] H) (As := []) (rest := []) ⟨hx, hb, hml, hown, hts⟩ (t_X3_failsByTime l E z0 G hGz b_45 gb_45) (cwV 0 hts (gdV ml_X9_162 im_X3_failsByTime se_X3_X3_failsByTime in_X3 co_X3_failsByTime rfl) rfl rfl rfl (by decide +kernel) ⟨Nat.le_of_ble_eq_true rfl, Nat.le_of_ble_eq_true rfl⟩) hT (fun U hU hW => hK.go hW hS hAz hU) (va_recv hK.1 (va_one ha_46) (ci := 3) (q0 := 0) rfl rfl) rfl rfl hl.1 rfl (lv_room (Nat.le_of_ble_eq_true rfl)) dX9_tick_15 ⟨Nat.le_of_ble_eq_true rfl, Nat.le_of_ble_eq_true rfl⟩) hS (fun q _ h => mL (L' := [8, 5, 15, 11, 10, 9]) (L := [8, 5, 15, 11, 10, 9]) (by decide) h) (fun q h => mL (L' := [8, 5, 15, 11, 10, 9]) (L := [8, 5, 15, 11, 10, 9]) (by decide) h) (fun r_47 _ t H locs ht hvm hwr_47 hB hz hk hS => ?_)
        have hT : TH E (T1 E) G [] H := by rw [ht] at hB; exact hB
        have ha_2 := ha_2.kept (hk _ ha_2.lt (nL hG (by decide)))
        have ha_3 := ha_3.kept (hk _ ha_3.lt (nL hg1_2 (by decide)))
        have hzr_47 := s_rng hwr_47
        refine lv_if_eq (tgt := 24) hx hb dX9_tick_18 (by decide) (fun c_48 => ?_) (fun c_48 => ?_)
        · simp only [lt_I, le_I, eq_I, i_0, i_1, i_2, i_3, i_4, i_5, i_6, i_7, i_8, i_10, i_12, i_16, i_20, i_23, i_24, i_31, i_32, i_63, i_64, i_m1] at c_48
          refine lv_iinc (v := 4) (lv' := [(2, .int 4), (1, .int 2), (0, .ref h0)]) hx hb dX9_tick_24 hl (k := 0) rfl (by decide) (by decide) rfl (fun ls hl => ?_)
          refine lv_goto (tgt := 4) hx hb dX9_tick_27 (by decide) ?_
          refine lv_iload_n hx hb dX9_tick_4 rfl (lv_at hl 0 rfl) ?_
          refine lv_iconst (v := 4) hx hb dX9_tick_5 (by decide) ?_
          refine lv_icmp_ge (tgt := 30) hx hb dX9_tick_6 (by decide) (fun c_49 => ?_) (fun c_49 => absurd c_49 (by decide))
          refine lv_iload_n hx hb dX9_tick_30 rfl (lv_at hl 1 rfl) ?_
          exact W.iret (v := 2) hx hb hr (fun t ht hW => ⟨⟨2, (), rfl, trivial, (by show TH E (T1 E) G [] t.heap; rw [ht]; exact hT)⟩, hS.F ht⟩) hS.2.2 dX9_tick_31
        · simp only [lt_I, le_I, eq_I, i_0, i_1, i_2, i_3, i_4, i_5, i_6, i_7, i_8, i_10, i_12, i_16, i_20, i_23, i_24, i_31, i_32, i_63, i_64, i_m1] at c_48
          refine lv_iinc (v := 3) (lv' := [(1, .int 3), (2, .int 3), (0, .ref h0)]) hx hb dX9_tick_21 hl (k := 1) rfl (by decide) (by decide) rfl (fun ls hl => ?_)
          refine lv_iinc (v := 4) (lv' := [(2, .int 4), (1, .int 3), (0, .ref h0)]) hx hb dX9_tick_24 hl (k := 1) rfl (by decide) (by decide) rfl (fun ls hl => ?_)
          refine lv_goto (tgt := 4) hx hb dX9_tick_27 (by decide) ?_
          refine lv_iload_n hx hb dX9_tick_4 rfl (lv_at hl 0 rfl) ?_
          refine lv_iconst (v := 4) hx hb dX9_tick_5 (by decide) ?_
          refine lv_icmp_ge (tgt := 30) hx hb dX9_tick_6 (by decide) (fun c_50 => ?_) (fun c_50 => absurd c_50 (by decide))
          refine lv_iload_n hx hb dX9_tick_30 rfl (lv_at hl 1 rfl) ?_
          exact W.iret (v := 3) hx hb hr (fun t ht hW => ⟨⟨3, (), rfl, trivial, (by show TH E (T1 E) G [] t.heap; rw [ht]; exact hT)⟩, hS.F ht⟩) hS.2.2 dX9_tick_31
  · simp only [lt_I, le_I, eq_I, i_0, i_1, i_2, i_3, i_4, i_5, i_6, i_7, i_8, i_10, i_12, i_16, i_20, i_23, i_24, i_31, i_32, i_63, i_64, i_m1] at c_7
    refine lv_iinc (v := 1) (lv' := [(1, .int 1), (2, .int 0), (0, .ref h0)]) hx hb dX9_tick_21 hl (k := 1) rfl (by decide) (by decide) rfl (fun ls hl => ?_)
    refine lv_iinc (v := 1) (lv' := [(2, .int 1), (1, .int 1), (0, .ref h0)]) hx hb dX9_tick_24 hl (k := 1) rfl (by decide) (by decide) rfl (fun ls hl => ?_)
    refine lv_goto (tgt := 4) hx hb dX9_tick_27 (by decide) ?_
    refine lv_iload_n hx hb dX9_tick_4 rfl (lv_at hl 0 rfl) ?_
    refine lv_iconst (v := 4) hx hb dX9_tick_5 (by decide) ?_
    refine lv_icmp_ge (tgt := 30) hx hb dX9_tick_6 (by decide) (fun c_51 => absurd c_51 (by decide)) (fun c_51 => ?_)
    refine lv_aload_n hx hb dX9_tick_9 rfl (lv_at hl 2 rfl) ?_
    refine va_get (D := DG E) (ci := 9) (v := .ref v1_2) (C := RX9) (T := TX9) (N := 3) hx hb hts iw_X9 hown hK.1 (va_one ha_2) 0 rfl rfl 1 (by decide) (hts _ fl_X9_29) (fun _ h9 => h9) rfl dX9_tick_10 ?_
    refine lv_iload_n hx hb dX9_tick_13 rfl (lv_at hl 0 rfl) ?_
    obtain ⟨j_52, hj_52, ej_52⟩ := vp_in_of (show vp_in (1) 4 from vp_in_iff.mpr ⟨by decide, by decide⟩) (by decide)
    obtain ⟨b_52, eb_52, gb_52⟩ := he_3 j_52 hj_52
    have cj_52 : f_3 (1 : Int32).toNatClampNeg = some b_52 := by rw [ej_52, nI_clamp (by omega)]; exact eb_52
    refine va_aldq (D := DG E) hx hb hK.1 (va_one ha_3) 0 5 rfl rfl (show vp_in (1) 4 from vp_in_iff.mpr ⟨by decide, by decide⟩) dX9_tick_14 ?_
    rw [cj_52]
    refine W.eq (g2 := F0 m 15 ls [.ref b_52]) (by rfl) ?_
    obtain ⟨v0_53, v1_53, v2_53, ha_53, hg0_53, hg1_53⟩ := tr_8 hT gb_52
    refine va_calli (rnV (fun H => TH E (T1 E) G [] H) (As := []) (rest := []) ⟨hx, hb, hml, hown, hts⟩ (t_X3_failsByTime l E z0 G hGz b_52 gb_52) (cwV 0 hts (gdV ml_X9_162 im_X3_failsByTime se_X3_X3_failsByTime in_X3 co_X3_failsByTime rfl) rfl rfl rfl (by decide +kernel) ⟨Nat.le_of_ble_eq_true rfl, Nat.le_of_ble_eq_true rfl⟩) hT (fun U hU hW => hK.go hW hS hAz hU) (va_recv hK.1 (va_one ha_53) (ci := 3) (q0 := 0) rfl rfl) rfl rfl hl.1 rfl (lv_room (Nat.le_of_ble_eq_true rfl)) dX9_tick_15 ⟨Nat.le_of_ble_eq_true rfl, Nat.le_of_ble_eq_true rfl⟩) hS (fun q _ h => mL (L' := [8, 5, 15, 11, 10, 9]) (L := [8, 5, 15, 11, 10, 9]) (by decide) h) (fun q h => mL (L' := [8, 5, 15, 11, 10, 9]) (L := [8, 5, 15, 11, 10, 9]) (by decide) h) (fun r_54 _ t H locs ht hvm hwr_54 hB hz hk hS => ?_)
    have hT : TH E (T1 E) G [] H := by rw [ht] at hB; exact hB
    have ha_2 := ha_2.kept (hk _ ha_2.lt (nL hG (by decide)))
    have ha_3 := ha_3.kept (hk _ ha_3.lt (nL hg1_2 (by decide)))
    have hzr_54 := s_rng hwr_54
    refine lv_if_eq (tgt := 24) hx hb dX9_tick_18 (by decide) (fun c_55 => ?_) (fun c_55 => ?_)
    · simp only [lt_I, le_I, eq_I, i_0, i_1, i_2, i_3, i_4, i_5, i_6, i_7, i_8, i_10, i_12, i_16, i_20, i_23, i_24, i_31, i_32, i_63, i_64, i_m1] at c_55
      refine lv_iinc (v := 2) (lv' := [(2, .int 2), (1, .int 1), (0, .ref h0)]) hx hb dX9_tick_24 hl (k := 0) rfl (by decide) (by decide) rfl (fun ls hl => ?_)
      refine lv_goto (tgt := 4) hx hb dX9_tick_27 (by decide) ?_
      refine lv_iload_n hx hb dX9_tick_4 rfl (lv_at hl 0 rfl) ?_
      refine lv_iconst (v := 4) hx hb dX9_tick_5 (by decide) ?_
      refine lv_icmp_ge (tgt := 30) hx hb dX9_tick_6 (by decide) (fun c_56 => absurd c_56 (by decide)) (fun c_56 => ?_)
      refine lv_aload_n hx hb dX9_tick_9 rfl (lv_at hl 2 rfl) ?_
      refine va_get (D := DG E) (ci := 9) (v := .ref v1_2) (C := RX9) (T := TX9) (N := 3) hx hb hts iw_X9 hown hK.1 (va_one ha_2) 0 rfl rfl 1 (by decide) (hts _ fl_X9_29) (fun _ h9 => h9) rfl dX9_tick_10 ?_
      refine lv_iload_n hx hb dX9_tick_13 rfl (lv_at hl 0 rfl) ?_
      obtain ⟨j_57, hj_57, ej_57⟩ := vp_in_of (show vp_in (2) 4 from vp_in_iff.mpr ⟨by decide, by decide⟩) (by decide)
      obtain ⟨b_57, eb_57, gb_57⟩ := he_3 j_57 hj_57
      have cj_57 : f_3 (2 : Int32).toNatClampNeg = some b_57 := by rw [ej_57, nI_clamp (by omega)]; exact eb_57
      refine va_aldq (D := DG E) hx hb hK.1 (va_one ha_3) 0 5 rfl rfl (show vp_in (2) 4 from vp_in_iff.mpr ⟨by decide, by decide⟩) dX9_tick_14 ?_
      rw [cj_57]
      refine W.eq (g2 := F0 m 15 ls [.ref b_57]) (by rfl) ?_
      obtain ⟨v0_58, v1_58, v2_58, ha_58, hg0_58, hg1_58⟩ := tr_8 hT gb_57
      refine va_calli (rnV (fun H => TH E (T1 E) G [] H) (As := []) (rest := []) ⟨hx, hb, hml, hown, hts⟩ (t_X3_failsByTime l E z0 G hGz b_57 gb_57) (cwV 0 hts (gdV ml_X9_162 im_X3_failsByTime se_X3_X3_failsByTime in_X3 co_X3_failsByTime rfl) rfl rfl rfl (by decide +kernel) ⟨Nat.le_of_ble_eq_true rfl, Nat.le_of_ble_eq_true rfl⟩) hT (fun U hU hW => hK.go hW hS hAz hU) (va_recv hK.1 (va_one ha_58) (ci := 3) (q0 := 0) rfl rfl) rfl rfl hl.1 rfl (lv_room (Nat.le_of_ble_eq_true rfl)) dX9_tick_15 ⟨Nat.le_of_ble_eq_true rfl, Nat.le_of_ble_eq_true rfl⟩) hS (fun q _ h => mL (L' := [8, 5, 15, 11, 10, 9]) (L := [8, 5, 15, 11, 10, 9]) (by decide) h) (fun q h => mL (L' := [8, 5, 15, 11, 10, 9]) (L := [8, 5, 15, 11, 10, 9]) (by decide) h) (fun r_59 _ t H locs ht hvm hwr_59 hB hz hk hS => ?_)
      have hT : TH E (T1 E) G [] H := by rw [ht] at hB; exact hB
      have ha_2 := ha_2.kept (hk _ ha_2.lt (nL hG (by decide)))
      have ha_3 := ha_3.kept (hk _ ha_3.lt (nL hg1_2 (by decide)))
      have hzr_59 := s_rng hwr_59
      refine lv_if_eq (tgt := 24) hx hb dX9_tick_18 (by decide) (fun c_60 => ?_) (fun c_60 => ?_)
      · simp only [lt_I, le_I, eq_I, i_0, i_1, i_2, i_3, i_4, i_5, i_6, i_7, i_8, i_10, i_12, i_16, i_20, i_23, i_24, i_31, i_32, i_63, i_64, i_m1] at c_60
        refine lv_iinc (v := 3) (lv' := [(2, .int 3), (1, .int 1), (0, .ref h0)]) hx hb dX9_tick_24 hl (k := 0) rfl (by decide) (by decide) rfl (fun ls hl => ?_)
        refine lv_goto (tgt := 4) hx hb dX9_tick_27 (by decide) ?_
        refine lv_iload_n hx hb dX9_tick_4 rfl (lv_at hl 0 rfl) ?_
        refine lv_iconst (v := 4) hx hb dX9_tick_5 (by decide) ?_
        refine lv_icmp_ge (tgt := 30) hx hb dX9_tick_6 (by decide) (fun c_61 => absurd c_61 (by decide)) (fun c_61 => ?_)
        refine lv_aload_n hx hb dX9_tick_9 rfl (lv_at hl 2 rfl) ?_
        refine va_get (D := DG E) (ci := 9) (v := .ref v1_2) (C := RX9) (T := TX9) (N := 3) hx hb hts iw_X9 hown hK.1 (va_one ha_2) 0 rfl rfl 1 (by decide) (hts _ fl_X9_29) (fun _ h9 => h9) rfl dX9_tick_10 ?_
        refine lv_iload_n hx hb dX9_tick_13 rfl (lv_at hl 0 rfl) ?_
        obtain ⟨j_62, hj_62, ej_62⟩ := vp_in_of (show vp_in (3) 4 from vp_in_iff.mpr ⟨by decide, by decide⟩) (by decide)
        obtain ⟨b_62, eb_62, gb_62⟩ := he_3 j_62 hj_62
        have cj_62 : f_3 (3 : Int32).toNatClampNeg = some b_62 := by rw [ej_62, nI_clamp (by omega)]; exact eb_62
        refine va_aldq (D := DG E) hx hb hK.1 (va_one ha_3) 0 5 rfl rfl (show vp_in (3) 4 from vp_in_iff.mpr ⟨by decide, by decide⟩) dX9_tick_14 ?_
        rw [cj_62]
        refine W.eq (g2 := F0 m 15 ls [.ref b_62]) (by rfl) ?_
        obtain ⟨v0_63, v1_63, v2_63, ha_63, hg0_63, hg1_63⟩ := tr_8 hT gb_62
        refine va_calli (rnV (fun H => TH E (T1 E) G [] H) (As := []) (rest := []) ⟨hx, hb, hml, hown, hts⟩ (t_X3_failsByTime l E z0 G hGz b_62 gb_62) (cwV 0 hts (gdV ml_X9_162 im_X3_failsByTime se_X3_X3_failsByTime in_X3 co_X3_failsByTime rfl) rfl rfl rfl (by decide +kernel) ⟨Nat.le_of_ble_eq_true rfl, Nat.le_of_ble_eq_true rfl⟩) hT (fun U hU hW => hK.go hW hS hAz hU) (va_recv hK.1 (va_one ha_63) (ci := 3) (q0 := 0) rfl rfl) rfl rfl hl.1 rfl (lv_room (Nat.le_of_ble_eq_true rfl)) dX9_tick_15 ⟨Nat.le_of_ble_eq_true rfl, Nat.le_of_ble_eq_true rfl⟩) hS (fun q _ h => mL (L' := [8, 5, 15, 11, 10, 9]) (L := [8, 5, 15, 11, 10, 9]) (by decide) h) (fun q h => mL (L' := [8, 5, 15, 11, 10, 9]) (L := [8, 5, 15, 11, 10, 9]) (by decide) h) (fun r_64 _ t H locs ht hvm hwr_64 hB hz hk hS => ?_)
        have hT : TH E (T1 E) G [] H := by rw [ht] at hB; exact hB
        have ha_2 := ha_2.kept (hk _ ha_2.lt (nL hG (by decide)))
        have ha_3 := ha_3.kept (hk _ ha_3.lt (nL hg1_2 (by decide)))
        have hzr_64 := s_rng hwr_64
        refine lv_if_eq (tgt := 24) hx hb dX9_tick_18 (by decide) (fun c_65 => ?_) (fun c_65 => ?_)
        · simp only [lt_I, le_I, eq_I, i_0, i_1, i_2, i_3, i_4, i_5, i_6, i_7, i_8, i_10, i_12, i_16, i_20, i_23, i_24, i_31, i_32, i_63, i_64, i_m1] at c_65
          refine lv_iinc (v := 4) (lv' := [(2, .int 4), (1, .int 1), (0, .ref h0)]) hx hb dX9_tick_24 hl (k := 0) rfl (by decide) (by decide) rfl (fun ls hl => ?_)
          refine lv_goto (tgt := 4) hx hb dX9_tick_27 (by decide) ?_
          refine lv_iload_n hx hb dX9_tick_4 rfl (lv_at hl 0 rfl) ?_
          refine lv_iconst (v := 4) hx hb dX9_tick_5 (by decide) ?_
          refine lv_icmp_ge (tgt := 30) hx hb dX9_tick_6 (by decide) (fun c_66 => ?_) (fun c_66 => absurd c_66 (by decide))
          refine lv_iload_n hx hb dX9_tick_30 rfl (lv_at hl 1 rfl) ?_
          exact W.iret (v := 1) hx hb hr (fun t ht hW => ⟨⟨1, (), rfl, trivial, (by show TH E (T1 E) G [] t.heap; rw [ht]; exact hT)⟩, hS.F ht⟩) hS.2.2 dX9_tick_31
        · simp only [lt_I, le_I, eq_I, i_0, i_1, i_2, i_3, i_4, i_5, i_6, i_7, i_8, i_10, i_12, i_16, i_20, i_23, i_24, i_31, i_32, i_63, i_64, i_m1] at c_65
          refine lv_iinc (v := 2) (lv' := [(1, .int 2), (2, .int 3), (0, .ref h0)]) hx hb dX9_tick_21 hl (k := 1) rfl (by decide) (by decide) rfl (fun ls hl => ?_)
          refine lv_iinc (v := 4) (lv' := [(2, .int 4), (1, .int 2), (0, .ref h0)]) hx hb dX9_tick_24 hl (k := 1) rfl (by decide) (by decide) rfl (fun ls hl => ?_)
          refine lv_goto (tgt := 4) hx hb dX9_tick_27 (by decide) ?_
          refine lv_iload_n hx hb dX9_tick_4 rfl (lv_at hl 0 rfl) ?_
          refine lv_iconst (v := 4) hx hb dX9_tick_5 (by decide) ?_
          refine lv_icmp_ge (tgt := 30) hx hb dX9_tick_6 (by decide) (fun c_67 => ?_) (fun c_67 => absurd c_67 (by decide))
          refine lv_iload_n hx hb dX9_tick_30 rfl (lv_at hl 1 rfl) ?_
          exact W.iret (v := 2) hx hb hr (fun t ht hW => ⟨⟨2, (), rfl, trivial, (by show TH E (T1 E) G [] t.heap; rw [ht]; exact hT)⟩, hS.F ht⟩) hS.2.2 dX9_tick_31
      · simp only [lt_I, le_I, eq_I, i_0, i_1, i_2, i_3, i_4, i_5, i_6, i_7, i_8, i_10, i_12, i_16, i_20, i_23, i_24, i_31, i_32, i_63, i_64, i_m1] at c_60
        refine lv_iinc (v := 2) (lv' := [(1, .int 2), (2, .int 2), (0, .ref h0)]) hx hb dX9_tick_21 hl (k := 1) rfl (by decide) (by decide) rfl (fun ls hl => ?_)
        refine lv_iinc (v := 3) (lv' := [(2, .int 3), (1, .int 2), (0, .ref h0)]) hx hb dX9_tick_24 hl (k := 1) rfl (by decide) (by decide) rfl (fun ls hl => ?_)
        refine lv_goto (tgt := 4) hx hb dX9_tick_27 (by decide) ?_
        refine lv_iload_n hx hb dX9_tick_4 rfl (lv_at hl 0 rfl) ?_
        refine lv_iconst (v := 4) hx hb dX9_tick_5 (by decide) ?_
        refine lv_icmp_ge (tgt := 30) hx hb dX9_tick_6 (by decide) (fun c_68 => absurd c_68 (by decide)) (fun c_68 => ?_)
        refine lv_aload_n hx hb dX9_tick_9 rfl (lv_at hl 2 rfl) ?_
        refine va_get (D := DG E) (ci := 9) (v := .ref v1_2) (C := RX9) (T := TX9) (N := 3) hx hb hts iw_X9 hown hK.1 (va_one ha_2) 0 rfl rfl 1 (by decide) (hts _ fl_X9_29) (fun _ h9 => h9) rfl dX9_tick_10 ?_
        refine lv_iload_n hx hb dX9_tick_13 rfl (lv_at hl 0 rfl) ?_
        obtain ⟨j_69, hj_69, ej_69⟩ := vp_in_of (show vp_in (3) 4 from vp_in_iff.mpr ⟨by decide, by decide⟩) (by decide)
        obtain ⟨b_69, eb_69, gb_69⟩ := he_3 j_69 hj_69
        have cj_69 : f_3 (3 : Int32).toNatClampNeg = some b_69 := by rw [ej_69, nI_clamp (by omega)]; exact eb_69
        refine va_aldq (D := DG E) hx hb hK.1 (va_one ha_3) 0 5 rfl rfl (show vp_in (3) 4 from vp_in_iff.mpr ⟨by decide, by decide⟩) dX9_tick_14 ?_
        rw [cj_69]
        refine W.eq (g2 := F0 m 15 ls [.ref b_69]) (by rfl) ?_
        obtain ⟨v0_70, v1_70, v2_70, ha_70, hg0_70, hg1_70⟩ := tr_8 hT gb_69
        refine va_calli (rnV (fun H => TH E (T1 E) G [] H) (As := []) (rest := []) ⟨hx, hb, hml, hown, hts⟩ (t_X3_failsByTime l E z0 G hGz b_69 gb_69) (cwV 0 hts (gdV ml_X9_162 im_X3_failsByTime se_X3_X3_failsByTime in_X3 co_X3_failsByTime rfl) rfl rfl rfl (by decide +kernel) ⟨Nat.le_of_ble_eq_true rfl, Nat.le_of_ble_eq_true rfl⟩) hT (fun U hU hW => hK.go hW hS hAz hU) (va_recv hK.1 (va_one ha_70) (ci := 3) (q0 := 0) rfl rfl) rfl rfl hl.1 rfl (lv_room (Nat.le_of_ble_eq_true rfl)) dX9_tick_15 ⟨Nat.le_of_ble_eq_true rfl, Nat.le_of_ble_eq_true rfl⟩) hS (fun q _ h => mL (L' := [8, 5, 15, 11, 10, 9]) (L := [8, 5, 15, 11, 10, 9]) (by decide) h) (fun q h => mL (L' := [8, 5, 15, 11, 10, 9]) (L := [8, 5, 15, 11, 10, 9]) (by decide) h) (fun r_71 _ t H locs ht hvm hwr_71 hB hz hk hS => ?_)
        have hT : TH E (T1 E) G [] H := by rw [ht] at hB; exact hB
        have ha_2 := ha_2.kept (hk _ ha_2.lt (nL hG (by decide)))
        have ha_3 := ha_3.kept (hk _ ha_3.lt (nL hg1_2 (by decide)))
        have hzr_71 := s_rng hwr_71
        refine lv_if_eq (tgt := 24) hx hb dX9_tick_18 (by decide) (fun c_72 => ?_) (fun c_72 => ?_)
        · simp only [lt_I, le_I, eq_I, i_0, i_1, i_2, i_3, i_4, i_5, i_6, i_7, i_8, i_10, i_12, i_16, i_20, i_23, i_24, i_31, i_32, i_63, i_64, i_m1] at c_72
          refine lv_iinc (v := 4) (lv' := [(2, .int 4), (1, .int 2), (0, .ref h0)]) hx hb dX9_tick_24 hl (k := 0) rfl (by decide) (by decide) rfl (fun ls hl => ?_)
          refine lv_goto (tgt := 4) hx hb dX9_tick_27 (by decide) ?_
          refine lv_iload_n hx hb dX9_tick_4 rfl (lv_at hl 0 rfl) ?_
          refine lv_iconst (v := 4) hx hb dX9_tick_5 (by decide) ?_
          refine lv_icmp_ge (tgt := 30) hx hb dX9_tick_6 (by decide) (fun c_73 => ?_) (fun c_73 => absurd c_73 (by decide))
          refine lv_iload_n hx hb dX9_tick_30 rfl (lv_at hl 1 rfl) ?_
          exact W.iret (v := 2) hx hb hr (fun t ht hW => ⟨⟨2, (), rfl, trivial, (by show TH E (T1 E) G [] t.heap; rw [ht]; exact hT)⟩, hS.F ht⟩) hS.2.2 dX9_tick_31
        · simp only [lt_I, le_I, eq_I, i_0, i_1, i_2, i_3, i_4, i_5, i_6, i_7, i_8, i_10, i_12, i_16, i_20, i_23, i_24, i_31, i_32, i_63, i_64, i_m1] at c_72
          refine lv_iinc (v := 3) (lv' := [(1, .int 3), (2, .int 3), (0, .ref h0)]) hx hb dX9_tick_21 hl (k := 1) rfl (by decide) (by decide) rfl (fun ls hl => ?_)
          refine lv_iinc (v := 4) (lv' := [(2, .int 4), (1, .int 3), (0, .ref h0)]) hx hb dX9_tick_24 hl (k := 1) rfl (by decide) (by decide) rfl (fun ls hl => ?_)
          refine lv_goto (tgt := 4) hx hb dX9_tick_27 (by decide) ?_
          refine lv_iload_n hx hb dX9_tick_4 rfl (lv_at hl 0 rfl) ?_
          refine lv_iconst (v := 4) hx hb dX9_tick_5 (by decide) ?_
          refine lv_icmp_ge (tgt := 30) hx hb dX9_tick_6 (by decide) (fun c_74 => ?_) (fun c_74 => absurd c_74 (by decide))
          refine lv_iload_n hx hb dX9_tick_30 rfl (lv_at hl 1 rfl) ?_
          exact W.iret (v := 3) hx hb hr (fun t ht hW => ⟨⟨3, (), rfl, trivial, (by show TH E (T1 E) G [] t.heap; rw [ht]; exact hT)⟩, hS.F ht⟩) hS.2.2 dX9_tick_31
    · simp only [lt_I, le_I, eq_I, i_0, i_1, i_2, i_3, i_4, i_5, i_6, i_7, i_8, i_10, i_12, i_16, i_20, i_23, i_24, i_31, i_32, i_63, i_64, i_m1] at c_55
      refine lv_iinc (v := 2) (lv' := [(1, .int 2), (2, .int 1), (0, .ref h0)]) hx hb dX9_tick_21 hl (k := 1) rfl (by decide) (by decide) rfl (fun ls hl => ?_)
      refine lv_iinc (v := 2) (lv' := [(2, .int 2), (1, .int 2), (0, .ref h0)]) hx hb dX9_tick_24 hl (k := 1) rfl (by decide) (by decide) rfl (fun ls hl => ?_)
      refine lv_goto (tgt := 4) hx hb dX9_tick_27 (by decide) ?_
      refine lv_iload_n hx hb dX9_tick_4 rfl (lv_at hl 0 rfl) ?_
      refine lv_iconst (v := 4) hx hb dX9_tick_5 (by decide) ?_
      refine lv_icmp_ge (tgt := 30) hx hb dX9_tick_6 (by decide) (fun c_75 => absurd c_75 (by decide)) (fun c_75 => ?_)
      refine lv_aload_n hx hb dX9_tick_9 rfl (lv_at hl 2 rfl) ?_
      refine va_get (D := DG E) (ci := 9) (v := .ref v1_2) (C := RX9) (T := TX9) (N := 3) hx hb hts iw_X9 hown hK.1 (va_one ha_2) 0 rfl rfl 1 (by decide) (hts _ fl_X9_29) (fun _ h9 => h9) rfl dX9_tick_10 ?_
      refine lv_iload_n hx hb dX9_tick_13 rfl (lv_at hl 0 rfl) ?_
      obtain ⟨j_76, hj_76, ej_76⟩ := vp_in_of (show vp_in (2) 4 from vp_in_iff.mpr ⟨by decide, by decide⟩) (by decide)
      obtain ⟨b_76, eb_76, gb_76⟩ := he_3 j_76 hj_76
      have cj_76 : f_3 (2 : Int32).toNatClampNeg = some b_76 := by rw [ej_76, nI_clamp (by omega)]; exact eb_76
      refine va_aldq (D := DG E) hx hb hK.1 (va_one ha_3) 0 5 rfl rfl (show vp_in (2) 4 from vp_in_iff.mpr ⟨by decide, by decide⟩) dX9_tick_14 ?_
      rw [cj_76]
      refine W.eq (g2 := F0 m 15 ls [.ref b_76]) (by rfl) ?_
      obtain ⟨v0_77, v1_77, v2_77, ha_77, hg0_77, hg1_77⟩ := tr_8 hT gb_76
      refine va_calli (rnV (fun H => TH E (T1 E) G [] H) (As := []) (rest := []) ⟨hx, hb, hml, hown, hts⟩ (t_X3_failsByTime l E z0 G hGz b_76 gb_76) (cwV 0 hts (gdV ml_X9_162 im_X3_failsByTime se_X3_X3_failsByTime in_X3 co_X3_failsByTime rfl) rfl rfl rfl (by decide +kernel) ⟨Nat.le_of_ble_eq_true rfl, Nat.le_of_ble_eq_true rfl⟩) hT (fun U hU hW => hK.go hW hS hAz hU) (va_recv hK.1 (va_one ha_77) (ci := 3) (q0 := 0) rfl rfl) rfl rfl hl.1 rfl (lv_room (Nat.le_of_ble_eq_true rfl)) dX9_tick_15 ⟨Nat.le_of_ble_eq_true rfl, Nat.le_of_ble_eq_true rfl⟩) hS (fun q _ h => mL (L' := [8, 5, 15, 11, 10, 9]) (L := [8, 5, 15, 11, 10, 9]) (by decide) h) (fun q h => mL (L' := [8, 5, 15, 11, 10, 9]) (L := [8, 5, 15, 11, 10, 9]) (by decide) h) (fun r_78 _ t H locs ht hvm hwr_78 hB hz hk hS => ?_)
      have hT : TH E (T1 E) G [] H := by rw [ht] at hB; exact hB
      have ha_2 := ha_2.kept (hk _ ha_2.lt (nL hG (by decide)))
      have ha_3 := ha_3.kept (hk _ ha_3.lt (nL hg1_2 (by decide)))
      have hzr_78 := s_rng hwr_78
      refine lv_if_eq (tgt := 24) hx hb dX9_tick_18 (by decide) (fun c_79 => ?_) (fun c_79 => ?_)
      · simp only [lt_I, le_I, eq_I, i_0, i_1, i_2, i_3, i_4, i_5, i_6, i_7, i_8, i_10, i_12, i_16, i_20, i_23, i_24, i_31, i_32, i_63, i_64, i_m1] at c_79
        refine lv_iinc (v := 3) (lv' := [(2, .int 3), (1, .int 2), (0, .ref h0)]) hx hb dX9_tick_24 hl (k := 0) rfl (by decide) (by decide) rfl (fun ls hl => ?_)
        refine lv_goto (tgt := 4) hx hb dX9_tick_27 (by decide) ?_
        refine lv_iload_n hx hb dX9_tick_4 rfl (lv_at hl 0 rfl) ?_
        refine lv_iconst (v := 4) hx hb dX9_tick_5 (by decide) ?_
        refine lv_icmp_ge (tgt := 30) hx hb dX9_tick_6 (by decide) (fun c_80 => absurd c_80 (by decide)) (fun c_80 => ?_)
        refine lv_aload_n hx hb dX9_tick_9 rfl (lv_at hl 2 rfl) ?_
        refine va_get (D := DG E) (ci := 9) (v := .ref v1_2) (C := RX9) (T := TX9) (N := 3) hx hb hts iw_X9 hown hK.1 (va_one ha_2) 0 rfl rfl 1 (by decide) (hts _ fl_X9_29) (fun _ h9 => h9) rfl dX9_tick_10 ?_
        refine lv_iload_n hx hb dX9_tick_13 rfl (lv_at hl 0 rfl) ?_
        obtain ⟨j_81, hj_81, ej_81⟩ := vp_in_of (show vp_in (3) 4 from vp_in_iff.mpr ⟨by decide, by decide⟩) (by decide)
        obtain ⟨b_81, eb_81, gb_81⟩ := he_3 j_81 hj_81
        have cj_81 : f_3 (3 : Int32).toNatClampNeg = some b_81 := by rw [ej_81, nI_clamp (by omega)]; exact eb_81
        refine va_aldq (D := DG E) hx hb hK.1 (va_one ha_3) 0 5 rfl rfl (show vp_in (3) 4 from vp_in_iff.mpr ⟨by decide, by decide⟩) dX9_tick_14 ?_
        rw [cj_81]
        refine W.eq (g2 := F0 m 15 ls [.ref b_81]) (by rfl) ?_
        obtain ⟨v0_82, v1_82, v2_82, ha_82, hg0_82, hg1_82⟩ := tr_8 hT gb_81
        refine va_calli (rnV (fun H => TH E (T1 E) G [] H) (As := []) (rest := []) ⟨hx, hb, hml, hown, hts⟩ (t_X3_failsByTime l E z0 G hGz b_81 gb_81) (cwV 0 hts (gdV ml_X9_162 im_X3_failsByTime se_X3_X3_failsByTime in_X3 co_X3_failsByTime rfl) rfl rfl rfl (by decide +kernel) ⟨Nat.le_of_ble_eq_true rfl, Nat.le_of_ble_eq_true rfl⟩) hT (fun U hU hW => hK.go hW hS hAz hU) (va_recv hK.1 (va_one ha_82) (ci := 3) (q0 := 0) rfl rfl) rfl rfl hl.1 rfl (lv_room (Nat.le_of_ble_eq_true rfl)) dX9_tick_15 ⟨Nat.le_of_ble_eq_true rfl, Nat.le_of_ble_eq_true rfl⟩) hS (fun q _ h => mL (L' := [8, 5, 15, 11, 10, 9]) (L := [8, 5, 15, 11, 10, 9]) (by decide) h) (fun q h => mL (L' := [8, 5, 15, 11, 10, 9]) (L := [8, 5, 15, 11, 10, 9]) (by decide) h) (fun r_83 _ t H locs ht hvm hwr_83 hB hz hk hS => ?_)
        have hT : TH E (T1 E) G [] H := by rw [ht] at hB; exact hB
        have ha_2 := ha_2.kept (hk _ ha_2.lt (nL hG (by decide)))
        have ha_3 := ha_3.kept (hk _ ha_3.lt (nL hg1_2 (by decide)))
        have hzr_83 := s_rng hwr_83
        refine lv_if_eq (tgt := 24) hx hb dX9_tick_18 (by decide) (fun c_84 => ?_) (fun c_84 => ?_)
        · simp only [lt_I, le_I, eq_I, i_0, i_1, i_2, i_3, i_4, i_5, i_6, i_7, i_8, i_10, i_12, i_16, i_20, i_23, i_24, i_31, i_32, i_63, i_64, i_m1] at c_84
          refine lv_iinc (v := 4) (lv' := [(2, .int 4), (1, .int 2), (0, .ref h0)]) hx hb dX9_tick_24 hl (k := 0) rfl (by decide) (by decide) rfl (fun ls hl => ?_)
          refine lv_goto (tgt := 4) hx hb dX9_tick_27 (by decide) ?_
          refine lv_iload_n hx hb dX9_tick_4 rfl (lv_at hl 0 rfl) ?_
          refine lv_iconst (v := 4) hx hb dX9_tick_5 (by decide) ?_
          refine lv_icmp_ge (tgt := 30) hx hb dX9_tick_6 (by decide) (fun c_85 => ?_) (fun c_85 => absurd c_85 (by decide))
          refine lv_iload_n hx hb dX9_tick_30 rfl (lv_at hl 1 rfl) ?_
          exact W.iret (v := 2) hx hb hr (fun t ht hW => ⟨⟨2, (), rfl, trivial, (by show TH E (T1 E) G [] t.heap; rw [ht]; exact hT)⟩, hS.F ht⟩) hS.2.2 dX9_tick_31
        · simp only [lt_I, le_I, eq_I, i_0, i_1, i_2, i_3, i_4, i_5, i_6, i_7, i_8, i_10, i_12, i_16, i_20, i_23, i_24, i_31, i_32, i_63, i_64, i_m1] at c_84
          refine lv_iinc (v := 3) (lv' := [(1, .int 3), (2, .int 3), (0, .ref h0)]) hx hb dX9_tick_21 hl (k := 1) rfl (by decide) (by decide) rfl (fun ls hl => ?_)
          refine lv_iinc (v := 4) (lv' := [(2, .int 4), (1, .int 3), (0, .ref h0)]) hx hb dX9_tick_24 hl (k := 1) rfl (by decide) (by decide) rfl (fun ls hl => ?_)
          refine lv_goto (tgt := 4) hx hb dX9_tick_27 (by decide) ?_
          refine lv_iload_n hx hb dX9_tick_4 rfl (lv_at hl 0 rfl) ?_
          refine lv_iconst (v := 4) hx hb dX9_tick_5 (by decide) ?_
          refine lv_icmp_ge (tgt := 30) hx hb dX9_tick_6 (by decide) (fun c_86 => ?_) (fun c_86 => absurd c_86 (by decide))
          refine lv_iload_n hx hb dX9_tick_30 rfl (lv_at hl 1 rfl) ?_
          exact W.iret (v := 3) hx hb hr (fun t ht hW => ⟨⟨3, (), rfl, trivial, (by show TH E (T1 E) G [] t.heap; rw [ht]; exact hT)⟩, hS.F ht⟩) hS.2.2 dX9_tick_31
      · simp only [lt_I, le_I, eq_I, i_0, i_1, i_2, i_3, i_4, i_5, i_6, i_7, i_8, i_10, i_12, i_16, i_20, i_23, i_24, i_31, i_32, i_63, i_64, i_m1] at c_79
        refine lv_iinc (v := 3) (lv' := [(1, .int 3), (2, .int 2), (0, .ref h0)]) hx hb dX9_tick_21 hl (k := 1) rfl (by decide) (by decide) rfl (fun ls hl => ?_)
        refine lv_iinc (v := 3) (lv' := [(2, .int 3), (1, .int 3), (0, .ref h0)]) hx hb dX9_tick_24 hl (k := 1) rfl (by decide) (by decide) rfl (fun ls hl => ?_)
        refine lv_goto (tgt := 4) hx hb dX9_tick_27 (by decide) ?_
        refine lv_iload_n hx hb dX9_tick_4 rfl (lv_at hl 0 rfl) ?_
        refine lv_iconst (v := 4) hx hb dX9_tick_5 (by decide) ?_
        refine lv_icmp_ge (tgt := 30) hx hb dX9_tick_6 (by decide) (fun c_87 => absurd c_87 (by decide)) (fun c_87 => ?_)
        refine lv_aload_n hx hb dX9_tick_9 rfl (lv_at hl 2 rfl) ?_
        refine va_get (D := DG E) (ci := 9) (v := .ref v1_2) (C := RX9) (T := TX9) (N := 3) hx hb hts iw_X9 hown hK.1 (va_one ha_2) 0 rfl rfl 1 (by decide) (hts _ fl_X9_29) (fun _ h9 => h9) rfl dX9_tick_10 ?_
        refine lv_iload_n hx hb dX9_tick_13 rfl (lv_at hl 0 rfl) ?_
        obtain ⟨j_88, hj_88, ej_88⟩ := vp_in_of (show vp_in (3) 4 from vp_in_iff.mpr ⟨by decide, by decide⟩) (by decide)
        obtain ⟨b_88, eb_88, gb_88⟩ := he_3 j_88 hj_88
        have cj_88 : f_3 (3 : Int32).toNatClampNeg = some b_88 := by rw [ej_88, nI_clamp (by omega)]; exact eb_88
        refine va_aldq (D := DG E) hx hb hK.1 (va_one ha_3) 0 5 rfl rfl (show vp_in (3) 4 from vp_in_iff.mpr ⟨by decide, by decide⟩) dX9_tick_14 ?_
        rw [cj_88]
        refine W.eq (g2 := F0 m 15 ls [.ref b_88]) (by rfl) ?_
        obtain ⟨v0_89, v1_89, v2_89, ha_89, hg0_89, hg1_89⟩ := tr_8 hT gb_88
        refine va_calli (rnV (fun H => TH E (T1 E) G [] H) (As := []) (rest := []) ⟨hx, hb, hml, hown, hts⟩ (t_X3_failsByTime l E z0 G hGz b_88 gb_88) (cwV 0 hts (gdV ml_X9_162 im_X3_failsByTime se_X3_X3_failsByTime in_X3 co_X3_failsByTime rfl) rfl rfl rfl (by decide +kernel) ⟨Nat.le_of_ble_eq_true rfl, Nat.le_of_ble_eq_true rfl⟩) hT (fun U hU hW => hK.go hW hS hAz hU) (va_recv hK.1 (va_one ha_89) (ci := 3) (q0 := 0) rfl rfl) rfl rfl hl.1 rfl (lv_room (Nat.le_of_ble_eq_true rfl)) dX9_tick_15 ⟨Nat.le_of_ble_eq_true rfl, Nat.le_of_ble_eq_true rfl⟩) hS (fun q _ h => mL (L' := [8, 5, 15, 11, 10, 9]) (L := [8, 5, 15, 11, 10, 9]) (by decide) h) (fun q h => mL (L' := [8, 5, 15, 11, 10, 9]) (L := [8, 5, 15, 11, 10, 9]) (by decide) h) (fun r_90 _ t H locs ht hvm hwr_90 hB hz hk hS => ?_)
        have hT : TH E (T1 E) G [] H := by rw [ht] at hB; exact hB
        have ha_2 := ha_2.kept (hk _ ha_2.lt (nL hG (by decide)))
        have ha_3 := ha_3.kept (hk _ ha_3.lt (nL hg1_2 (by decide)))
        have hzr_90 := s_rng hwr_90
        refine lv_if_eq (tgt := 24) hx hb dX9_tick_18 (by decide) (fun c_91 => ?_) (fun c_91 => ?_)
        · simp only [lt_I, le_I, eq_I, i_0, i_1, i_2, i_3, i_4, i_5, i_6, i_7, i_8, i_10, i_12, i_16, i_20, i_23, i_24, i_31, i_32, i_63, i_64, i_m1] at c_91
          refine lv_iinc (v := 4) (lv' := [(2, .int 4), (1, .int 3), (0, .ref h0)]) hx hb dX9_tick_24 hl (k := 0) rfl (by decide) (by decide) rfl (fun ls hl => ?_)
          refine lv_goto (tgt := 4) hx hb dX9_tick_27 (by decide) ?_
          refine lv_iload_n hx hb dX9_tick_4 rfl (lv_at hl 0 rfl) ?_
          refine lv_iconst (v := 4) hx hb dX9_tick_5 (by decide) ?_
          refine lv_icmp_ge (tgt := 30) hx hb dX9_tick_6 (by decide) (fun c_92 => ?_) (fun c_92 => absurd c_92 (by decide))
          refine lv_iload_n hx hb dX9_tick_30 rfl (lv_at hl 1 rfl) ?_
          exact W.iret (v := 3) hx hb hr (fun t ht hW => ⟨⟨3, (), rfl, trivial, (by show TH E (T1 E) G [] t.heap; rw [ht]; exact hT)⟩, hS.F ht⟩) hS.2.2 dX9_tick_31
        · simp only [lt_I, le_I, eq_I, i_0, i_1, i_2, i_3, i_4, i_5, i_6, i_7, i_8, i_10, i_12, i_16, i_20, i_23, i_24, i_31, i_32, i_63, i_64, i_m1] at c_91
          refine lv_iinc (v := 4) (lv' := [(1, .int 4), (2, .int 3), (0, .ref h0)]) hx hb dX9_tick_21 hl (k := 1) rfl (by decide) (by decide) rfl (fun ls hl => ?_)
          refine lv_iinc (v := 4) (lv' := [(2, .int 4), (1, .int 4), (0, .ref h0)]) hx hb dX9_tick_24 hl (k := 1) rfl (by decide) (by decide) rfl (fun ls hl => ?_)
          refine lv_goto (tgt := 4) hx hb dX9_tick_27 (by decide) ?_
          refine lv_iload_n hx hb dX9_tick_4 rfl (lv_at hl 0 rfl) ?_
          refine lv_iconst (v := 4) hx hb dX9_tick_5 (by decide) ?_
          refine lv_icmp_ge (tgt := 30) hx hb dX9_tick_6 (by decide) (fun c_93 => ?_) (fun c_93 => absurd c_93 (by decide))
          refine lv_iload_n hx hb dX9_tick_30 rfl (lv_at hl 1 rfl) ?_
          exact W.iret (v := 4) hx hb hr (fun t ht hW => ⟨⟨4, (), rfl, trivial, (by show TH E (T1 E) G [] t.heap; rw [ht]; exact hT)⟩, hS.F ht⟩) hS.2.2 dX9_tick_31
theorem dX9_packets_0 : decode cX9_packets 0 = .ok (.aload_n 0, 1) := by decide +kernel
theorem dX9_packets_1 : decode cX9_packets 1 = .ok (.getfield 16, 3) := by decide +kernel
theorem dX9_packets_4 : decode cX9_packets 4 = .ok (.getfield 165, 3) := by decide +kernel
theorem dX9_packets_7 : decode cX9_packets 7 = .ok (.ireturn, 1) := by decide +kernel
set_option maxHeartbeats 8000000 in
set_option maxRecDepth 100000 in
theorem t_X9_packets (l : Launch) (E : EE) (z0 : Nat) (G : Nat → Nat) (hGz : ∀ q, G q ≠ 0 → z0 ≤ q) (h0 : Nat) (hG : G h0 = 1) : Met l yX9_packets [Cond.code yX9_packets cX9_packets 1 (some .int)] ({ frames := 0, cells := 0, slots := 0, locals := 0 } : Room) (va_Pc [.ref h0] (fun U => (TH E (T1 E) G [] U.heap) ∧ KS E z0 U)) (va_Qi (fun (r : Int32) (_ : Unit) => True) (fun _ t => True) (fun _ : Nat => False)) 0 0 (fun _ : Nat => False) := by
  refine Met.ofW (cc := cX9_packets) (maxL := 1) (ret := (some .int)) (by decide) rfl ?_
  intro p e s m args below meth c s₁ B hml hv
  obtain ⟨rfl, hT, hK⟩ := hv
  have hx := B.exec
  have hb := B.bytes
  have hr := B.returns
  have hts : ∀ w ∈ TS, w.before ([.ref h0] : List Value).toArray s = true := fun w hw => hK.2.1 w hw _
  have hown : s.vm.findClass RX9 = some m.cls := findClass_of_methodNamed B.named
  have hlocks := B.notSynchronized
  have hS : va_S (fun _ : Nat => False) s.heap s.heap [] := va_S.rf
  have hAz : ∀ q, (fun _ : Nat => False) q → z0 ≤ q := fun _ h => h.elim
  have hl := lv_entry ([.ref h0]) (n := 1) (Nat.le_of_ble_eq_true rfl)
  rw [lg_entry_eq]
  generalize (lg_sl ([.ref h0]) ++ List.replicate (1 - (lg_sl ([.ref h0])).length) Slot.unset).toArray = ls at hl ⊢
  have hl : lv_has ls 1 [(0, .ref h0)] := hl
  refine lv_aload_n hx hb dX9_packets_0 rfl (lv_at hl 0 rfl) ?_
  obtain ⟨v0_1, v1_1, v2_1, ha_1, hg0_1, hg1_1, hg2_1⟩ := tr_1 hT hG
  refine va_get (D := DG E) (ci := 9) (v := .ref v2_1) (C := RX9) (T := TX9) (N := 3) hx hb hts iw_X9 hown hK.1 (va_one ha_1) 0 rfl rfl 2 (by decide) (hts _ fl_X9_16) (fun _ h9 => h9) rfl dX9_packets_1 ?_
  obtain ⟨v0_2, v1_2, v2_2, v3_2, ha_2, hg0_2, hb1_2, hg2_2, hg3_2⟩ := tr_4 hT hg2_1
  refine va_get (D := DG E) (ci := 0) (v := .int v1_2) (C := RX0) (T := TX0) (N := 4) hx hb hts iw_X0 hown hK.1 (va_one ha_2) 0 rfl rfl 1 (by decide) (hts _ fl_X9_165) (fun _ h9 => h9) rfl dX9_packets_4 ?_
  exact W.iret (v := v1_2) hx hb hr (fun t ht hW => ⟨⟨v1_2, (), rfl, trivial, trivial⟩, hS.F ht⟩) hS.2.2 dX9_packets_7
theorem dX9_packet_0 : decode cX9_packet 0 = .ok (.aload_n 0, 1) := by decide +kernel
theorem dX9_packet_1 : decode cX9_packet 1 = .ok (.getfield 16, 3) := by decide +kernel
theorem dX9_packet_4 : decode cX9_packet 4 = .ok (.iload_n 1, 1) := by decide +kernel
theorem dX9_packet_5 : decode cX9_packet 5 = .ok (.invokevirtual 139, 3) := by decide +kernel
theorem dX9_packet_8 : decode cX9_packet 8 = .ok (.ifCond .eq 19, 3) := by decide +kernel
theorem dX9_packet_11 : decode cX9_packet 11 = .ok (.aload_n 0, 1) := by decide +kernel
theorem dX9_packet_12 : decode cX9_packet 12 = .ok (.getfield 16, 3) := by decide +kernel
theorem dX9_packet_15 : decode cX9_packet 15 = .ok (.getfield 168, 3) := by decide +kernel
theorem dX9_packet_18 : decode cX9_packet 18 = .ok (.iload_n 1, 1) := by decide +kernel
theorem dX9_packet_19 : decode cX9_packet 19 = .ok (.aaload, 1) := by decide +kernel
theorem dX9_packet_20 : decode cX9_packet 20 = .ok (.iload_n 2, 1) := by decide +kernel
theorem dX9_packet_21 : decode cX9_packet 21 = .ok (.invokevirtual 172, 3) := by decide +kernel
theorem dX9_packet_24 : decode cX9_packet 24 = .ok (.goto 4, 3) := by decide +kernel
theorem dX9_packet_27 : decode cX9_packet 27 = .ok (.iconst (-1), 1) := by decide +kernel
theorem dX9_packet_28 : decode cX9_packet 28 = .ok (.ireturn, 1) := by decide +kernel
set_option maxHeartbeats 8000000 in
set_option maxRecDepth 100000 in
theorem t_X9_packet (l : Launch) (E : EE) (z0 : Nat) (G : Nat → Nat) (hGz : ∀ q, G q ≠ 0 → z0 ≤ q) (h0 : Nat) (p0 : Int32) (p1 : Int32) (hG : G h0 = 1) : Met l yX9_packet [Cond.code yX9_packet cX9_packet 3 (some .int)] ({ frames := 1, cells := 0, slots := 0, locals := 21 } : Room) (va_Pc [.ref h0, .int p0, .int p1] (fun U => (TH E (T1 E) G [] U.heap) ∧ KS E z0 U)) (va_Qi (fun (r : Int32) (_ : Unit) => True) (fun _ t => True) (fun _ : Nat => False)) 0 0 (fun _ : Nat => False) := by
  refine Met.ofW (cc := cX9_packet) (maxL := 3) (ret := (some .int)) (by decide) rfl ?_
  intro p e s m args below meth c s₁ B hml hv
  obtain ⟨rfl, hT, hK⟩ := hv
  have hx := B.exec
  have hb := B.bytes
  have hr := B.returns
  have hts : ∀ w ∈ TS, w.before ([.ref h0, .int p0, .int p1] : List Value).toArray s = true := fun w hw => hK.2.1 w hw _
  have hown : s.vm.findClass RX9 = some m.cls := findClass_of_methodNamed B.named
  have hlocks := B.notSynchronized
  have hS : va_S (fun _ : Nat => False) s.heap s.heap [] := va_S.rf
  have hAz : ∀ q, (fun _ : Nat => False) q → z0 ≤ q := fun _ h => h.elim
  have hl := lv_entry ([.ref h0, .int p0, .int p1]) (n := 3) (Nat.le_of_ble_eq_true rfl)
  rw [lg_entry_eq]
  generalize (lg_sl ([.ref h0, .int p0, .int p1]) ++ List.replicate (3 - (lg_sl ([.ref h0, .int p0, .int p1])).length) Slot.unset).toArray = ls at hl ⊢
  have hl : lv_has ls 3 [(0, .ref h0), (1, .int p0), (2, .int p1)] := hl
  refine lv_aload_n hx hb dX9_packet_0 rfl (lv_at hl 0 rfl) ?_
  obtain ⟨v0_1, v1_1, v2_1, ha_1, hg0_1, hg1_1, hg2_1⟩ := tr_1 hT hG
  refine va_get (D := DG E) (ci := 9) (v := .ref v2_1) (C := RX9) (T := TX9) (N := 3) hx hb hts iw_X9 hown hK.1 (va_one ha_1) 0 rfl rfl 2 (by decide) (hts _ fl_X9_16) (fun _ h9 => h9) rfl dX9_packet_1 ?_
  refine lv_iload_n hx hb dX9_packet_4 rfl (lv_at hl 1 rfl) ?_
  obtain ⟨v0_2, v1_2, v2_2, v3_2, ha_2, hg0_2, hb1_2, hg2_2, hg3_2⟩ := tr_4 hT hg2_1
  refine va_calli (rnV (fun H => TH E (T1 E) G [] H ∧ va_at (DG E) vwCl (v2_1, .inr (0, [.ref v0_2, .int v1_2, .ref v2_2, .ref v3_2])) H) (As := [.int p0]) (rest := []) ⟨hx, hb, hml, hown, hts⟩ (t_X0_has l E z0 G hGz v2_1 p0 hg2_1 v0_2 v1_2 v2_2 v3_2 hg0_2 hg2_2 hg3_2 (by omega)) (cwV 1 hts (gdV ml_X9_139 im_X0_has se_X0_X0_has in_X0 co_X0_has rfl) rfl rfl rfl (by decide +kernel) ⟨Nat.le_of_ble_eq_true rfl, Nat.le_of_ble_eq_true rfl⟩) ⟨hT, ha_2⟩ (fun U hU hW => hK.go hW hS hAz hU) (va_recv hK.1 (va_one ha_2) (ci := 0) (q0 := 0) rfl rfl) rfl rfl hl.1 rfl (lv_room (Nat.le_of_ble_eq_true rfl)) dX9_packet_5 ⟨Nat.le_of_ble_eq_true rfl, Nat.le_of_ble_eq_true rfl⟩) hS (fun q _ h => h.elim) (fun q h => h.elim) (fun r_3 _ t H locs ht hvm hwr_3 hB hz hk hS => ?_)
  have hT : TH E (T1 E) G [] H := hT.kept (fun q hq => hk q hq (fun h => h))
  have ha_1 := ha_1.kept (hk _ ha_1.lt (fun h => h))
  have ha_2 := ha_2.kept (hk _ ha_2.lt (fun h => h))
  have hzr_3 := s_rng hwr_3.1
  refine lv_if_eq (tgt := 27) hx hb dX9_packet_8 (by decide) (fun c_4 => ?_) (fun c_4 => ?_)
  · simp only [lt_I, le_I, eq_I, i_0, i_1, i_2, i_3, i_4, i_5, i_6, i_7, i_8, i_10, i_12, i_16, i_20, i_23, i_24, i_31, i_32, i_63, i_64, i_m1] at c_4
    refine lv_iconst (v := (-1)) hx hb dX9_packet_27 (by decide) ?_
    exact W.iret (v := (-1)) hx hb hr (fun t ht hW => ⟨⟨(-1), (), rfl, trivial, trivial⟩, hS.F ht⟩) hS.2.2 dX9_packet_28
  · simp only [lt_I, le_I, eq_I, i_0, i_1, i_2, i_3, i_4, i_5, i_6, i_7, i_8, i_10, i_12, i_16, i_20, i_23, i_24, i_31, i_32, i_63, i_64, i_m1] at c_4
    refine lv_aload_n hx hb dX9_packet_11 rfl (lv_at hl 0 rfl) ?_
    refine va_get (D := DG E) (ci := 9) (v := .ref v2_1) (C := RX9) (T := TX9) (N := 3) hx hb hts iw_X9 hown hK.1 (va_one ha_1) 0 rfl rfl 2 (by decide) (hts _ fl_X9_16) (fun _ h9 => h9) rfl dX9_packet_12 ?_
    refine va_get (D := DG E) (ci := 0) (v := .ref v0_2) (C := RX0) (T := TX0) (N := 4) hx hb hts iw_X0 hown hK.1 (va_one ha_2) 0 rfl rfl 0 (by decide) (hts _ fl_X9_168) (fun _ h9 => h9) rfl dX9_packet_15 ?_
    refine lv_iload_n hx hb dX9_packet_18 rfl (lv_at hl 1 rfl) ?_
    obtain ⟨f_5, ha_5, he_5⟩ := tr_30 hT hg0_2
    obtain ⟨j_6, hj_6, ej_6⟩ := vp_in_of (show vp_in p0 24 from vp_in_iff.mpr (by omega)) (by decide)
    obtain ⟨b_6, eb_6, gb_6⟩ := he_5 j_6 hj_6
    have cj_6 : f_5 (p0 : Int32).toNatClampNeg = some b_6 := by rw [ej_6, nI_clamp (by omega)]; exact eb_6
    refine va_aldq (D := DG E) hx hb hK.1 (va_one ha_5) 0 7 rfl rfl (show vp_in p0 24 from vp_in_iff.mpr (by omega)) dX9_packet_19 ?_
    rw [cj_6]
    refine W.eq (g2 := F0 m 20 ls [.ref b_6]) (by rfl) ?_
    refine lv_iload_n hx hb dX9_packet_20 rfl (lv_at hl 2 rfl) ?_
    obtain ⟨v0_7, v1_7, v2_7, v3_7, v4_7, v5_7, v6_7, v7_7, ha_7, hb0_7, hb3_7, hg7_7⟩ := tr_31 hT gb_6
    refine va_calli (rnV (fun H => TH E (T1 E) G [] H) (As := [.int p1]) (rest := []) ⟨hx, hb, hml, hown, hts⟩ (t_X2_tell l E z0 G hGz b_6 p1 gb_6) (cwV 1 hts (gdV ml_X9_172 im_X2_tell se_X2_X2_tell in_X2 co_X2_tell rfl) rfl rfl rfl (by decide +kernel) ⟨Nat.le_of_ble_eq_true rfl, Nat.le_of_ble_eq_true rfl⟩) hT (fun U hU hW => hK.go hW hS hAz hU) (va_recv hK.1 (va_one ha_7) (ci := 2) (q0 := 0) rfl rfl) rfl rfl hl.1 rfl (lv_room (Nat.le_of_ble_eq_true rfl)) dX9_packet_21 ⟨Nat.le_of_ble_eq_true rfl, Nat.le_of_ble_eq_true rfl⟩) hS (fun q _ h => h.elim) (fun q h => h.elim) (fun r_8 _ t H locs ht hvm hwr_8 hB hz hk hS => ?_)
    have hT : TH E (T1 E) G [] H := hT.kept (fun q hq => hk q hq (fun h => h))
    have ha_1 := ha_1.kept (hk _ ha_1.lt (fun h => h))
    have ha_2 := ha_2.kept (hk _ ha_2.lt (fun h => h))
    have ha_5 := ha_5.kept (hk _ ha_5.lt (fun h => h))
    have ha_7 := ha_7.kept (hk _ ha_7.lt (fun h => h))
    refine lv_goto (tgt := 28) hx hb dX9_packet_24 (by decide) ?_
    exact W.iret (v := r_8) hx hb hr (fun t ht hW => ⟨⟨r_8, (), rfl, trivial, trivial⟩, hS.F ht⟩) hS.2.2 dX9_packet_28
theorem dX9_pair_0 : decode cX9_pair 0 = .ok (.iload_n 1, 1) := by decide +kernel
theorem dX9_pair_1 : decode cX9_pair 1 = .ok (.invokestatic 78, 3) := by decide +kernel
theorem dX9_pair_4 : decode cX9_pair 4 = .ok (.ifCond .eq 16, 3) := by decide +kernel
theorem dX9_pair_7 : decode cX9_pair 7 = .ok (.aload_n 0, 1) := by decide +kernel
theorem dX9_pair_8 : decode cX9_pair 8 = .ok (.getfield 29, 3) := by decide +kernel
theorem dX9_pair_11 : decode cX9_pair 11 = .ok (.iload_n 1, 1) := by decide +kernel
theorem dX9_pair_12 : decode cX9_pair 12 = .ok (.aaload, 1) := by decide +kernel
theorem dX9_pair_13 : decode cX9_pair 13 = .ok (.iload_n 2, 1) := by decide +kernel
theorem dX9_pair_14 : decode cX9_pair 14 = .ok (.invokevirtual 175, 3) := by decide +kernel
theorem dX9_pair_17 : decode cX9_pair 17 = .ok (.goto 4, 3) := by decide +kernel
theorem dX9_pair_20 : decode cX9_pair 20 = .ok (.iconst (-1), 1) := by decide +kernel
theorem dX9_pair_21 : decode cX9_pair 21 = .ok (.ireturn, 1) := by decide +kernel
set_option maxHeartbeats 8000000 in
set_option maxRecDepth 100000 in
theorem t_X9_pair (l : Launch) (E : EE) (z0 : Nat) (G : Nat → Nat) (hGz : ∀ q, G q ≠ 0 → z0 ≤ q) (h0 : Nat) (p0 : Int32) (p1 : Int32) (hG : G h0 = 1) : Met l yX9_pair [Cond.code yX9_pair cX9_pair 3 (some .int)] ({ frames := 1, cells := 0, slots := 0, locals := 21 } : Room) (va_Pc [.ref h0, .int p0, .int p1] (fun U => (TH E (T1 E) G [] U.heap) ∧ KS E z0 U)) (va_Qi (fun (r : Int32) (_ : Unit) => True) (fun _ t => True) (fun _ : Nat => False)) 0 0 (fun _ : Nat => False) := by
  refine Met.ofW (cc := cX9_pair) (maxL := 3) (ret := (some .int)) (by decide) rfl ?_
  intro p e s m args below meth c s₁ B hml hv
  obtain ⟨rfl, hT, hK⟩ := hv
  have hx := B.exec
  have hb := B.bytes
  have hr := B.returns
  have hts : ∀ w ∈ TS, w.before ([.ref h0, .int p0, .int p1] : List Value).toArray s = true := fun w hw => hK.2.1 w hw _
  have hown : s.vm.findClass RX9 = some m.cls := findClass_of_methodNamed B.named
  have hlocks := B.notSynchronized
  have hS : va_S (fun _ : Nat => False) s.heap s.heap [] := va_S.rf
  have hAz : ∀ q, (fun _ : Nat => False) q → z0 ≤ q := fun _ h => h.elim
  have hl := lv_entry ([.ref h0, .int p0, .int p1]) (n := 3) (Nat.le_of_ble_eq_true rfl)
  rw [lg_entry_eq]
  generalize (lg_sl ([.ref h0, .int p0, .int p1]) ++ List.replicate (3 - (lg_sl ([.ref h0, .int p0, .int p1])).length) Slot.unset).toArray = ls at hl ⊢
  have hl : lv_has ls 3 [(0, .ref h0), (1, .int p0), (2, .int p1)] := hl
  refine lv_iload_n hx hb dX9_pair_0 rfl (lv_at hl 1 rfl) ?_
  refine W.callR (W.runS (As := [.int p0]) (rest := []) ⟨hx, hb, hml, hown, hts⟩ (c_X9_isPair l p0) (cwS 1 hts (gdS ml_X9_78 st_X9_isPair in_X9 co_X9_isPair rfl) rfl rfl rfl (by decide +kernel) ⟨Nat.le_of_ble_eq_true rfl, Nat.le_of_ble_eq_true rfl⟩) preEq rfl rfl hl.1 rfl (lv_room (Nat.le_of_ble_eq_true rfl)) dX9_pair_1 ⟨Nat.le_of_ble_eq_true rfl, Nat.le_of_ble_eq_true rfl⟩) ?_
  refine W.eq (g2 := F0 m 4 ls [.int (bI (0 ≤ p0.toInt ∧ p0.toInt < 4))]) (by rfl) ?_
  refine lv_if_eq (tgt := 20) hx hb dX9_pair_4 (by decide) (fun c_1 => ?_) (fun c_1 => ?_)
  · have c_1 := bI_0 c_1
    refine lv_iconst (v := (-1)) hx hb dX9_pair_20 (by decide) ?_
    exact W.iret (v := (-1)) hx hb hr (fun t ht hW => ⟨⟨(-1), (), rfl, trivial, trivial⟩, hS.F ht⟩) hS.2.2 dX9_pair_21
  · have c_1 := bI_n c_1
    refine lv_aload_n hx hb dX9_pair_7 rfl (lv_at hl 0 rfl) ?_
    obtain ⟨v0_2, v1_2, v2_2, ha_2, hg0_2, hg1_2, hg2_2⟩ := tr_1 hT hG
    refine va_get (D := DG E) (ci := 9) (v := .ref v1_2) (C := RX9) (T := TX9) (N := 3) hx hb hts iw_X9 hown hK.1 (va_one ha_2) 0 rfl rfl 1 (by decide) (hts _ fl_X9_29) (fun _ h9 => h9) rfl dX9_pair_8 ?_
    refine lv_iload_n hx hb dX9_pair_11 rfl (lv_at hl 1 rfl) ?_
    obtain ⟨f_3, ha_3, he_3⟩ := tr_3 hT hg1_2
    obtain ⟨j_4, hj_4, ej_4⟩ := vp_in_of (show vp_in p0 4 from vp_in_iff.mpr (by omega)) (by decide)
    obtain ⟨b_4, eb_4, gb_4⟩ := he_3 j_4 hj_4
    have cj_4 : f_3 (p0 : Int32).toNatClampNeg = some b_4 := by rw [ej_4, nI_clamp (by omega)]; exact eb_4
    refine va_aldq (D := DG E) hx hb hK.1 (va_one ha_3) 0 5 rfl rfl (show vp_in p0 4 from vp_in_iff.mpr (by omega)) dX9_pair_12 ?_
    rw [cj_4]
    refine W.eq (g2 := F0 m 13 ls [.ref b_4]) (by rfl) ?_
    refine lv_iload_n hx hb dX9_pair_13 rfl (lv_at hl 2 rfl) ?_
    obtain ⟨v0_5, v1_5, v2_5, ha_5, hg0_5, hg1_5⟩ := tr_8 hT gb_4
    refine va_calli (rnV (fun H => TH E (T1 E) G [] H) (As := [.int p1]) (rest := []) ⟨hx, hb, hml, hown, hts⟩ (t_X3_tell l E z0 G hGz b_4 p1 gb_4) (cwV 1 hts (gdV ml_X9_175 im_X3_tell se_X3_X3_tell in_X3 co_X3_tell rfl) rfl rfl rfl (by decide +kernel) ⟨Nat.le_of_ble_eq_true rfl, Nat.le_of_ble_eq_true rfl⟩) hT (fun U hU hW => hK.go hW hS hAz hU) (va_recv hK.1 (va_one ha_5) (ci := 3) (q0 := 0) rfl rfl) rfl rfl hl.1 rfl (lv_room (Nat.le_of_ble_eq_true rfl)) dX9_pair_14 ⟨Nat.le_of_ble_eq_true rfl, Nat.le_of_ble_eq_true rfl⟩) hS (fun q _ h => h.elim) (fun q h => h.elim) (fun r_6 _ t H locs ht hvm hwr_6 hB hz hk hS => ?_)
    have hT : TH E (T1 E) G [] H := hT.kept (fun q hq => hk q hq (fun h => h))
    have ha_2 := ha_2.kept (hk _ ha_2.lt (fun h => h))
    have ha_3 := ha_3.kept (hk _ ha_3.lt (fun h => h))
    have ha_5 := ha_5.kept (hk _ ha_5.lt (fun h => h))
    refine lv_goto (tgt := 21) hx hb dX9_pair_17 (by decide) ?_
    exact W.iret (v := r_6) hx hb hr (fun t ht hW => ⟨⟨r_6, (), rfl, trivial, trivial⟩, hS.F ht⟩) hS.2.2 dX9_pair_21
theorem dX9_completions_0 : decode cX9_completions 0 = .ok (.iload_n 1, 1) := by decide +kernel
theorem dX9_completions_1 : decode cX9_completions 1 = .ok (.invokestatic 46, 3) := by decide +kernel
theorem dX9_completions_4 : decode cX9_completions 4 = .ok (.ifCond .eq 15, 3) := by decide +kernel
theorem dX9_completions_7 : decode cX9_completions 7 = .ok (.aload_n 0, 1) := by decide +kernel
theorem dX9_completions_8 : decode cX9_completions 8 = .ok (.getfield 22, 3) := by decide +kernel
theorem dX9_completions_11 : decode cX9_completions 11 = .ok (.iload_n 1, 1) := by decide +kernel
theorem dX9_completions_12 : decode cX9_completions 12 = .ok (.aaload, 1) := by decide +kernel
theorem dX9_completions_13 : decode cX9_completions 13 = .ok (.getfield 176, 3) := by decide +kernel
theorem dX9_completions_16 : decode cX9_completions 16 = .ok (.goto 4, 3) := by decide +kernel
theorem dX9_completions_19 : decode cX9_completions 19 = .ok (.iconst (-1), 1) := by decide +kernel
theorem dX9_completions_20 : decode cX9_completions 20 = .ok (.ireturn, 1) := by decide +kernel
set_option maxHeartbeats 8000000 in
set_option maxRecDepth 100000 in
theorem t_X9_completions (l : Launch) (E : EE) (z0 : Nat) (G : Nat → Nat) (hGz : ∀ q, G q ≠ 0 → z0 ≤ q) (h0 : Nat) (p0 : Int32) (hG : G h0 = 1) : Met l yX9_completions [Cond.code yX9_completions cX9_completions 2 (some .int)] ({ frames := 1, cells := 0, slots := 0, locals := 20 } : Room) (va_Pc [.ref h0, .int p0] (fun U => (TH E (T1 E) G [] U.heap) ∧ KS E z0 U)) (va_Qi (fun (r : Int32) (_ : Unit) => True) (fun _ t => True) (fun _ : Nat => False)) 0 0 (fun _ : Nat => False) := by
  refine Met.ofW (cc := cX9_completions) (maxL := 2) (ret := (some .int)) (by decide) rfl ?_
  intro p e s m args below meth c s₁ B hml hv
  obtain ⟨rfl, hT, hK⟩ := hv
  have hx := B.exec
  have hb := B.bytes
  have hr := B.returns
  have hts : ∀ w ∈ TS, w.before ([.ref h0, .int p0] : List Value).toArray s = true := fun w hw => hK.2.1 w hw _
  have hown : s.vm.findClass RX9 = some m.cls := findClass_of_methodNamed B.named
  have hlocks := B.notSynchronized
  have hS : va_S (fun _ : Nat => False) s.heap s.heap [] := va_S.rf
  have hAz : ∀ q, (fun _ : Nat => False) q → z0 ≤ q := fun _ h => h.elim
  have hl := lv_entry ([.ref h0, .int p0]) (n := 2) (Nat.le_of_ble_eq_true rfl)
  rw [lg_entry_eq]
  generalize (lg_sl ([.ref h0, .int p0]) ++ List.replicate (2 - (lg_sl ([.ref h0, .int p0])).length) Slot.unset).toArray = ls at hl ⊢
  have hl : lv_has ls 2 [(0, .ref h0), (1, .int p0)] := hl
  refine lv_iload_n hx hb dX9_completions_0 rfl (lv_at hl 1 rfl) ?_
  refine W.callR (W.runS (As := [.int p0]) (rest := []) ⟨hx, hb, hml, hown, hts⟩ (c_X9_isNode l p0) (cwS 1 hts (gdS ml_X9_46 st_X9_isNode in_X9 co_X9_isNode rfl) rfl rfl rfl (by decide +kernel) ⟨Nat.le_of_ble_eq_true rfl, Nat.le_of_ble_eq_true rfl⟩) preEq rfl rfl hl.1 rfl (lv_room (Nat.le_of_ble_eq_true rfl)) dX9_completions_1 ⟨Nat.le_of_ble_eq_true rfl, Nat.le_of_ble_eq_true rfl⟩) ?_
  refine W.eq (g2 := F0 m 4 ls [.int (bI (0 ≤ p0.toInt ∧ p0.toInt < 2))]) (by rfl) ?_
  refine lv_if_eq (tgt := 19) hx hb dX9_completions_4 (by decide) (fun c_1 => ?_) (fun c_1 => ?_)
  · have c_1 := bI_0 c_1
    refine lv_iconst (v := (-1)) hx hb dX9_completions_19 (by decide) ?_
    exact W.iret (v := (-1)) hx hb hr (fun t ht hW => ⟨⟨(-1), (), rfl, trivial, trivial⟩, hS.F ht⟩) hS.2.2 dX9_completions_20
  · have c_1 := bI_n c_1
    refine lv_aload_n hx hb dX9_completions_7 rfl (lv_at hl 0 rfl) ?_
    obtain ⟨v0_2, v1_2, v2_2, ha_2, hg0_2, hg1_2, hg2_2⟩ := tr_1 hT hG
    refine va_get (D := DG E) (ci := 9) (v := .ref v0_2) (C := RX9) (T := TX9) (N := 3) hx hb hts iw_X9 hown hK.1 (va_one ha_2) 0 rfl rfl 0 (by decide) (hts _ fl_X9_22) (fun _ h9 => h9) rfl dX9_completions_8 ?_
    refine lv_iload_n hx hb dX9_completions_11 rfl (lv_at hl 1 rfl) ?_
    obtain ⟨f_3, ha_3, he_3⟩ := tr_2 hT hg0_2
    obtain ⟨j_4, hj_4, ej_4⟩ := vp_in_of (show vp_in p0 2 from vp_in_iff.mpr (by omega)) (by decide)
    obtain ⟨b_4, eb_4, gb_4⟩ := he_3 j_4 hj_4
    have cj_4 : f_3 (p0 : Int32).toNatClampNeg = some b_4 := by rw [ej_4, nI_clamp (by omega)]; exact eb_4
    refine va_aldq (D := DG E) hx hb hK.1 (va_one ha_3) 0 3 rfl rfl (show vp_in p0 2 from vp_in_iff.mpr (by omega)) dX9_completions_12 ?_
    rw [cj_4]
    refine W.eq (g2 := F0 m 13 ls [.ref b_4]) (by rfl) ?_
    obtain ⟨v0_5, v1_5, v2_5, v3_5, v4_5, ha_5, hg0_5, hg1_5, hg2_5, hb3_5, hb4_5⟩ := tr_5 hT gb_4
    refine va_get (D := DG E) (ci := 1) (v := .int v4_5) (C := RX1) (T := TX1) (N := 5) hx hb hts iw_X1 hown hK.1 (va_one ha_5) 0 rfl rfl 4 (by decide) (hts _ fl_X9_176) (fun _ h9 => h9) rfl dX9_completions_13 ?_
    refine lv_goto (tgt := 20) hx hb dX9_completions_16 (by decide) ?_
    exact W.iret (v := v4_5) hx hb hr (fun t ht hW => ⟨⟨v4_5, (), rfl, trivial, trivial⟩, hS.F ht⟩) hS.2.2 dX9_completions_20
theorem dX9_poll_0 : decode cX9_poll 0 = .ok (.iload_n 1, 1) := by decide +kernel
theorem dX9_poll_1 : decode cX9_poll 1 = .ok (.invokestatic 46, 3) := by decide +kernel
theorem dX9_poll_4 : decode cX9_poll 4 = .ok (.ifCond .eq 17, 3) := by decide +kernel
theorem dX9_poll_7 : decode cX9_poll 7 = .ok (.iload_n 2, 1) := by decide +kernel
theorem dX9_poll_8 : decode cX9_poll 8 = .ok (.iconst (-1), 1) := by decide +kernel
theorem dX9_poll_9 : decode cX9_poll 9 = .ok (.if_icmp .lt 12, 3) := by decide +kernel
theorem dX9_poll_12 : decode cX9_poll 12 = .ok (.iload_n 2, 1) := by decide +kernel
theorem dX9_poll_13 : decode cX9_poll 13 = .ok (.iconst 5, 1) := by decide +kernel
theorem dX9_poll_14 : decode cX9_poll 14 = .ok (.if_icmp .ge 7, 3) := by decide +kernel
theorem dX9_poll_17 : decode cX9_poll 17 = .ok (.iconst 1, 1) := by decide +kernel
theorem dX9_poll_18 : decode cX9_poll 18 = .ok (.goto 4, 3) := by decide +kernel
theorem dX9_poll_21 : decode cX9_poll 21 = .ok (.iconst 0, 1) := by decide +kernel
theorem dX9_poll_22 : decode cX9_poll 22 = .ok (.invokestatic 53, 3) := by decide +kernel
theorem dX9_poll_25 : decode cX9_poll 25 = .ok (.aload_n 0, 1) := by decide +kernel
theorem dX9_poll_26 : decode cX9_poll 26 = .ok (.getfield 22, 3) := by decide +kernel
theorem dX9_poll_29 : decode cX9_poll 29 = .ok (.iload_n 1, 1) := by decide +kernel
theorem dX9_poll_30 : decode cX9_poll 30 = .ok (.aaload, 1) := by decide +kernel
theorem dX9_poll_31 : decode cX9_poll 31 = .ok (.getfield 176, 3) := by decide +kernel
theorem dX9_poll_34 : decode cX9_poll 34 = .ok (.ifCond .ne 11, 3) := by decide +kernel
theorem dX9_poll_37 : decode cX9_poll 37 = .ok (.new 179, 3) := by decide +kernel
theorem dX9_poll_40 : decode cX9_poll 40 = .ok (.dup, 1) := by decide +kernel
theorem dX9_poll_41 : decode cX9_poll 41 = .ok (.invokespecial 181, 3) := by decide +kernel
theorem dX9_poll_44 : decode cX9_poll 44 = .ok (.athrow, 1) := by decide +kernel
theorem dX9_poll_45 : decode cX9_poll 45 = .ok (.iload_n 2, 1) := by decide +kernel
theorem dX9_poll_46 : decode cX9_poll 46 = .ok (.ifCond .lt 14, 3) := by decide +kernel
theorem dX9_poll_49 : decode cX9_poll 49 = .ok (.aload_n 0, 1) := by decide +kernel
theorem dX9_poll_50 : decode cX9_poll 50 = .ok (.getfield 22, 3) := by decide +kernel
theorem dX9_poll_53 : decode cX9_poll 53 = .ok (.iload_n 1, 1) := by decide +kernel
theorem dX9_poll_54 : decode cX9_poll 54 = .ok (.aaload, 1) := by decide +kernel
theorem dX9_poll_55 : decode cX9_poll 55 = .ok (.iload_n 2, 1) := by decide +kernel
theorem dX9_poll_56 : decode cX9_poll 56 = .ok (.invokevirtual 182, 3) := by decide +kernel
theorem dX9_poll_59 : decode cX9_poll 59 = .ok (.ireturn, 1) := by decide +kernel
theorem dX9_poll_60 : decode cX9_poll 60 = .ok (.aload_n 0, 1) := by decide +kernel
theorem dX9_poll_61 : decode cX9_poll 61 = .ok (.getfield 22, 3) := by decide +kernel
theorem dX9_poll_64 : decode cX9_poll 64 = .ok (.iload_n 1, 1) := by decide +kernel
theorem dX9_poll_65 : decode cX9_poll 65 = .ok (.aaload, 1) := by decide +kernel
theorem dX9_poll_66 : decode cX9_poll 66 = .ok (.invokevirtual 185, 3) := by decide +kernel
theorem dX9_poll_69 : decode cX9_poll 69 = .ok (.iconst 0, 1) := by decide +kernel
theorem dX9_poll_70 : decode cX9_poll 70 = .ok (.ireturn, 1) := by decide +kernel
set_option maxHeartbeats 8000000 in
set_option maxRecDepth 100000 in
theorem t_X9_poll (l : Launch) (hst : l.stackTraces = false) (E : EE) (z0 : Nat) (G : Nat → Nat) (hGz : ∀ q, G q ≠ 0 → z0 ≤ q) (h0 : Nat) (p0 : Int32) (p1 : Int32) (hG : G h0 = 1) : vx_Met l yX9_poll [Cond.code yX9_poll cX9_poll 3 (some .int)] ({ frames := 7, cells := 2, slots := 12, locals := 101 } : Room) (va_Pc [.ref h0, .int p0, .int p1] (fun U => (TH E (T1 E) G [] U.heap) ∧ KS E z0 U)) (va_Qi (fun (r : Int32) (_ : Unit) => True) (fun _ t => TH E (T1 E) G [] t.heap) (fun q : Nat => G q ∈ ([5] : List Nat))) (vx_X (fun (_ : Unit) => True) (fun En _ t => (En = IAE ∨ En = NSE) ∧ TH E (T1 E) G [] t.heap) (fun q : Nat => G q ∈ ([5] : List Nat))) 2 12 (fun q : Nat => G q ∈ ([5] : List Nat)) := by
  refine vx_ofW (cc := cX9_poll) (maxL := 3) (ret := (some .int)) (by decide) rfl ?_
  intro p e s m args below meth c s₁ B hml hne hv
  obtain ⟨rfl, hT, hK⟩ := hv
  have hx := B.exec
  have hb := B.bytes
  have hr := B.returns
  have hts : ∀ w ∈ TS, w.before ([.ref h0, .int p0, .int p1] : List Value).toArray s = true := fun w hw => hK.2.1 w hw _
  have hown : s.vm.findClass RX9 = some m.cls := findClass_of_methodNamed B.named
  have hlocks := B.notSynchronized
  have hS : va_S (fun q : Nat => G q ∈ ([5] : List Nat)) s.heap s.heap [] := va_S.rf
  have hAz : ∀ q, (fun q : Nat => G q ∈ ([5] : List Nat)) q → z0 ≤ q := zL hGz (by decide)
  have hl := lv_entry ([.ref h0, .int p0, .int p1]) (n := 3) (Nat.le_of_ble_eq_true rfl)
  rw [lg_entry_eq]
  generalize (lg_sl ([.ref h0, .int p0, .int p1]) ++ List.replicate (3 - (lg_sl ([.ref h0, .int p0, .int p1])).length) Slot.unset).toArray = ls at hl ⊢
  have hl : lv_has ls 3 [(0, .ref h0), (1, .int p0), (2, .int p1)] := hl
  refine lv_iload_n hx hb dX9_poll_0 rfl (lv_at hl 1 rfl) ?_
  refine W.callR (W.runS (As := [.int p0]) (rest := []) ⟨hx, hb, hml, hown, hts⟩ (c_X9_isNode l p0) (cwS 1 hts (gdS ml_X9_46 st_X9_isNode in_X9 co_X9_isNode rfl) rfl rfl rfl (by decide +kernel) ⟨Nat.le_of_ble_eq_true rfl, Nat.le_of_ble_eq_true rfl⟩) preEq rfl rfl hl.1 rfl (lv_room (Nat.le_of_ble_eq_true rfl)) dX9_poll_1 ⟨Nat.le_of_ble_eq_true rfl, Nat.le_of_ble_eq_true rfl⟩) ?_
  refine W.eq (g2 := F0 m 4 ls [.int (bI (0 ≤ p0.toInt ∧ p0.toInt < 2))]) (by rfl) ?_
  refine lv_if_eq (tgt := 21) hx hb dX9_poll_4 (by decide) (fun c_1 => ?_) (fun c_1 => ?_)
  · have c_1 := bI_0 c_1
    refine lv_iconst (v := 0) hx hb dX9_poll_21 (by decide) ?_
    refine vx_callv (rxS (fun _ => True) (As := [.int 0]) (rest := []) ⟨hx, hb, hml, hown, hts⟩ (c_X9_require l hst E z0 0) (cwS 1 hts (gdS ml_X9_53 st_X9_require in_X9 co_X9_require rfl) rfl rfl rfl (by decide +kernel) ⟨Nat.le_of_ble_eq_true rfl, Nat.le_of_ble_eq_true rfl⟩) trivial (fun U hU hW => hK.go hW hS hAz hU) rfl rfl hl.1 rfl (lv_room (Nat.le_of_ble_eq_true rfl)) dX9_poll_22 ⟨Nat.le_of_ble_eq_true rfl, Nat.le_of_ble_eq_true rfl⟩) hS (fun q _ h => h.elim) (fun q h => h.elim) (fun q _ h => h.elim) (fun En ce q9 _ t H locs ht hvm hw hB hz hk hS hc1 hc2 hc3 => ?_) (fun _ t H locs ht hvm hw hB hz hk hS => ?_)
    · have hT : TH E (T1 E) G [] H := hT.kept (fun q hq => hk q hq (fun h => h))
      subst hB
      exact vx_out (fun x hx => (hne x hx).elim) hlocks hc1 hc2 hc3 (fun t ht hA => ⟨(), trivial, ⟨Or.inl rfl, by show TH E (T1 E) G [] t.heap; rw [ht]; exact hT⟩, hS.F ht⟩) hS.2.2 (Nat.le_of_ble_eq_true rfl) (Nat.le_of_ble_eq_true rfl)
    · have hT : TH E (T1 E) G [] H := hT.kept (fun q hq => hk q hq (fun h => h))
      exact absurd rfl hw
  · have c_1 := bI_n c_1
    refine lv_iload_n hx hb dX9_poll_7 rfl (lv_at hl 2 rfl) ?_
    refine lv_iconst (v := (-1)) hx hb dX9_poll_8 (by decide) ?_
    refine lv_icmp_lt (tgt := 21) hx hb dX9_poll_9 (by decide) (fun c_2 => ?_) (fun c_2 => ?_)
    · simp only [lt_I, le_I, eq_I, i_0, i_1, i_2, i_3, i_4, i_5, i_6, i_7, i_8, i_10, i_12, i_16, i_20, i_23, i_24, i_31, i_32, i_63, i_64, i_m1] at c_2
      refine lv_iconst (v := 0) hx hb dX9_poll_21 (by decide) ?_
      refine vx_callv (rxS (fun _ => True) (As := [.int 0]) (rest := []) ⟨hx, hb, hml, hown, hts⟩ (c_X9_require l hst E z0 0) (cwS 1 hts (gdS ml_X9_53 st_X9_require in_X9 co_X9_require rfl) rfl rfl rfl (by decide +kernel) ⟨Nat.le_of_ble_eq_true rfl, Nat.le_of_ble_eq_true rfl⟩) trivial (fun U hU hW => hK.go hW hS hAz hU) rfl rfl hl.1 rfl (lv_room (Nat.le_of_ble_eq_true rfl)) dX9_poll_22 ⟨Nat.le_of_ble_eq_true rfl, Nat.le_of_ble_eq_true rfl⟩) hS (fun q _ h => h.elim) (fun q h => h.elim) (fun q _ h => h.elim) (fun En ce q9 _ t H locs ht hvm hw hB hz hk hS hc1 hc2 hc3 => ?_) (fun _ t H locs ht hvm hw hB hz hk hS => ?_)
      · have hT : TH E (T1 E) G [] H := hT.kept (fun q hq => hk q hq (fun h => h))
        subst hB
        exact vx_out (fun x hx => (hne x hx).elim) hlocks hc1 hc2 hc3 (fun t ht hA => ⟨(), trivial, ⟨Or.inl rfl, by show TH E (T1 E) G [] t.heap; rw [ht]; exact hT⟩, hS.F ht⟩) hS.2.2 (Nat.le_of_ble_eq_true rfl) (Nat.le_of_ble_eq_true rfl)
      · have hT : TH E (T1 E) G [] H := hT.kept (fun q hq => hk q hq (fun h => h))
        exact absurd rfl hw
    · simp only [lt_I, le_I, eq_I, i_0, i_1, i_2, i_3, i_4, i_5, i_6, i_7, i_8, i_10, i_12, i_16, i_20, i_23, i_24, i_31, i_32, i_63, i_64, i_m1] at c_2
      refine lv_iload_n hx hb dX9_poll_12 rfl (lv_at hl 2 rfl) ?_
      refine lv_iconst (v := 5) hx hb dX9_poll_13 (by decide) ?_
      refine lv_icmp_ge (tgt := 21) hx hb dX9_poll_14 (by decide) (fun c_3 => ?_) (fun c_3 => ?_)
      · simp only [lt_I, le_I, eq_I, i_0, i_1, i_2, i_3, i_4, i_5, i_6, i_7, i_8, i_10, i_12, i_16, i_20, i_23, i_24, i_31, i_32, i_63, i_64, i_m1] at c_3
        refine lv_iconst (v := 0) hx hb dX9_poll_21 (by decide) ?_
        refine vx_callv (rxS (fun _ => True) (As := [.int 0]) (rest := []) ⟨hx, hb, hml, hown, hts⟩ (c_X9_require l hst E z0 0) (cwS 1 hts (gdS ml_X9_53 st_X9_require in_X9 co_X9_require rfl) rfl rfl rfl (by decide +kernel) ⟨Nat.le_of_ble_eq_true rfl, Nat.le_of_ble_eq_true rfl⟩) trivial (fun U hU hW => hK.go hW hS hAz hU) rfl rfl hl.1 rfl (lv_room (Nat.le_of_ble_eq_true rfl)) dX9_poll_22 ⟨Nat.le_of_ble_eq_true rfl, Nat.le_of_ble_eq_true rfl⟩) hS (fun q _ h => h.elim) (fun q h => h.elim) (fun q _ h => h.elim) (fun En ce q9 _ t H locs ht hvm hw hB hz hk hS hc1 hc2 hc3 => ?_) (fun _ t H locs ht hvm hw hB hz hk hS => ?_)
        · have hT : TH E (T1 E) G [] H := hT.kept (fun q hq => hk q hq (fun h => h))
          subst hB
          exact vx_out (fun x hx => (hne x hx).elim) hlocks hc1 hc2 hc3 (fun t ht hA => ⟨(), trivial, ⟨Or.inl rfl, by show TH E (T1 E) G [] t.heap; rw [ht]; exact hT⟩, hS.F ht⟩) hS.2.2 (Nat.le_of_ble_eq_true rfl) (Nat.le_of_ble_eq_true rfl)
        · have hT : TH E (T1 E) G [] H := hT.kept (fun q hq => hk q hq (fun h => h))
          exact absurd rfl hw
      · simp only [lt_I, le_I, eq_I, i_0, i_1, i_2, i_3, i_4, i_5, i_6, i_7, i_8, i_10, i_12, i_16, i_20, i_23, i_24, i_31, i_32, i_63, i_64, i_m1] at c_3
        refine lv_iconst (v := 1) hx hb dX9_poll_17 (by decide) ?_
        refine lv_goto (tgt := 22) hx hb dX9_poll_18 (by decide) ?_
        refine vx_callv (rxS (fun _ => True) (As := [.int 1]) (rest := []) ⟨hx, hb, hml, hown, hts⟩ (c_X9_require l hst E z0 1) (cwS 1 hts (gdS ml_X9_53 st_X9_require in_X9 co_X9_require rfl) rfl rfl rfl (by decide +kernel) ⟨Nat.le_of_ble_eq_true rfl, Nat.le_of_ble_eq_true rfl⟩) trivial (fun U hU hW => hK.go hW hS hAz hU) rfl rfl hl.1 rfl (lv_room (Nat.le_of_ble_eq_true rfl)) dX9_poll_22 ⟨Nat.le_of_ble_eq_true rfl, Nat.le_of_ble_eq_true rfl⟩) hS (fun q _ h => h.elim) (fun q h => h.elim) (fun q _ h => h.elim) (fun En ce q9 _ t H locs ht hvm hw hB hz hk hS hc1 hc2 hc3 => ?_) (fun _ t H locs ht hvm hw hB hz hk hS => ?_)
        · have hT : TH E (T1 E) G [] H := hT.kept (fun q hq => hk q hq (fun h => h))
          exact absurd hw (by decide)
        · have hT : TH E (T1 E) G [] H := hT.kept (fun q hq => hk q hq (fun h => h))
          refine lv_aload_n hx hb dX9_poll_25 rfl (lv_at hl 0 rfl) ?_
          obtain ⟨v0_4, v1_4, v2_4, ha_4, hg0_4, hg1_4, hg2_4⟩ := tr_1 hT hG
          refine va_get (D := DG E) (ci := 9) (v := .ref v0_4) (C := RX9) (T := TX9) (N := 3) hx hb hts iw_X9 hown hK.1 (va_one ha_4) 0 rfl rfl 0 (by decide) (hts _ fl_X9_22) (fun _ h9 => h9) rfl dX9_poll_26 ?_
          refine lv_iload_n hx hb dX9_poll_29 rfl (lv_at hl 1 rfl) ?_
          obtain ⟨f_5, ha_5, he_5⟩ := tr_2 hT hg0_4
          obtain ⟨j_6, hj_6, ej_6⟩ := vp_in_of (show vp_in p0 2 from vp_in_iff.mpr (by omega)) (by decide)
          obtain ⟨b_6, eb_6, gb_6⟩ := he_5 j_6 hj_6
          have cj_6 : f_5 (p0 : Int32).toNatClampNeg = some b_6 := by rw [ej_6, nI_clamp (by omega)]; exact eb_6
          refine va_aldq (D := DG E) hx hb hK.1 (va_one ha_5) 0 3 rfl rfl (show vp_in p0 2 from vp_in_iff.mpr (by omega)) dX9_poll_30 ?_
          rw [cj_6]
          refine W.eq (g2 := F0 m 31 ls [.ref b_6]) (by rfl) ?_
          obtain ⟨v0_7, v1_7, v2_7, v3_7, v4_7, ha_7, hg0_7, hg1_7, hg2_7, hb3_7, hb4_7⟩ := tr_5 hT gb_6
          refine va_get (D := DG E) (ci := 1) (v := .int v4_7) (C := RX1) (T := TX1) (N := 5) hx hb hts iw_X1 hown hK.1 (va_one ha_7) 0 rfl rfl 4 (by decide) (hts _ fl_X9_176) (fun _ h9 => h9) rfl dX9_poll_31 ?_
          refine lv_if_ne (tgt := 45) hx hb dX9_poll_34 (by decide) (fun c_8 => ?_) (fun c_8 => ?_)
          · simp only [lt_I, le_I, eq_I, i_0, i_1, i_2, i_3, i_4, i_5, i_6, i_7, i_8, i_10, i_12, i_16, i_20, i_23, i_24, i_31, i_32, i_63, i_64, i_m1] at c_8
            refine lv_iload_n hx hb dX9_poll_45 rfl (lv_at hl 2 rfl) ?_
            refine lv_if_lt (tgt := 60) hx hb dX9_poll_46 (by decide) (fun c_9 => ?_) (fun c_9 => ?_)
            · simp only [lt_I, le_I, eq_I, i_0, i_1, i_2, i_3, i_4, i_5, i_6, i_7, i_8, i_10, i_12, i_16, i_20, i_23, i_24, i_31, i_32, i_63, i_64, i_m1] at c_9
              refine lv_aload_n hx hb dX9_poll_60 rfl (lv_at hl 0 rfl) ?_
              refine va_get (D := DG E) (ci := 9) (v := .ref v0_4) (C := RX9) (T := TX9) (N := 3) hx hb hts iw_X9 hown hK.1 (va_one ha_4) 0 rfl rfl 0 (by decide) (hts _ fl_X9_22) (fun _ h9 => h9) rfl dX9_poll_61 ?_
              refine lv_iload_n hx hb dX9_poll_64 rfl (lv_at hl 1 rfl) ?_
              refine va_aldq (D := DG E) hx hb hK.1 (va_one ha_5) 0 3 rfl rfl (show vp_in p0 2 from vp_in_iff.mpr (by omega)) dX9_poll_65 ?_
              rw [cj_6]
              refine W.eq (g2 := F0 m 66 ls [.ref b_6]) (by rfl) ?_
              refine va_callv (rnV (fun H => TH E (T1 E) G [] H ∧ va_at (DG E) vwCl (b_6, .inr (1, [.ref v0_7, .ref v1_7, .ref v2_7, .int v3_7, .int v4_7])) H) (As := []) (rest := []) ⟨hx, hb, hml, hown, hts⟩ (t_X1_dropFirst l E z0 G hGz b_6 gb_6 v0_7 v1_7 v2_7 v3_7 v4_7 hg0_7 hg1_7 hg2_7 (by omega) (by omega) (by first | omega | decide)) (cwV 0 hts (gdV ml_X9_185 im_X1_dropFirst se_X1_X1_dropFirst in_X1 co_X1_dropFirst rfl) rfl rfl rfl (by decide +kernel) ⟨Nat.le_of_ble_eq_true rfl, Nat.le_of_ble_eq_true rfl⟩) ⟨hT, ha_7⟩ (fun U hU hW => hK.go hW hS hAz hU) (va_recv hK.1 (va_one ha_7) (ci := 1) (q0 := 0) rfl rfl) rfl rfl hl.1 rfl (lv_room (Nat.le_of_ble_eq_true rfl)) dX9_poll_66 ⟨Nat.le_of_ble_eq_true rfl, Nat.le_of_ble_eq_true rfl⟩) hS (fun q _ h => mL (L' := [5]) (L := [5]) (by decide) h) (fun q h => mL (L' := [5]) (L := [5]) (by decide) h) (fun _ t H locs ht hvm hwr_10 hB hz hk hS => ?_)
              have hT : TH E (T1 E) G [] H := by rw [ht] at hB; exact hB
              have ha_4 := ha_4.kept (hk _ ha_4.lt (nL hG (by decide)))
              have ha_5 := ha_5.kept (hk _ ha_5.lt (nL hg0_4 (by decide)))
              refine lv_iconst (v := 0) hx hb dX9_poll_69 (by decide) ?_
              refine vx_ret ?_
              refine W.widen (k := 2) (n := 12) (Nat.le_of_ble_eq_true rfl) (Nat.le_of_ble_eq_true rfl) ?_
              exact W.iret (v := 0) hx hb hr (fun t ht hW => ⟨⟨0, (), rfl, trivial, (by show TH E (T1 E) G [] t.heap; rw [ht]; exact hT)⟩, hS.F ht⟩) hS.2.2 dX9_poll_70
            · simp only [lt_I, le_I, eq_I, i_0, i_1, i_2, i_3, i_4, i_5, i_6, i_7, i_8, i_10, i_12, i_16, i_20, i_23, i_24, i_31, i_32, i_63, i_64, i_m1] at c_9
              refine lv_aload_n hx hb dX9_poll_49 rfl (lv_at hl 0 rfl) ?_
              refine va_get (D := DG E) (ci := 9) (v := .ref v0_4) (C := RX9) (T := TX9) (N := 3) hx hb hts iw_X9 hown hK.1 (va_one ha_4) 0 rfl rfl 0 (by decide) (hts _ fl_X9_22) (fun _ h9 => h9) rfl dX9_poll_50 ?_
              refine lv_iload_n hx hb dX9_poll_53 rfl (lv_at hl 1 rfl) ?_
              refine va_aldq (D := DG E) hx hb hK.1 (va_one ha_5) 0 3 rfl rfl (show vp_in p0 2 from vp_in_iff.mpr (by omega)) dX9_poll_54 ?_
              rw [cj_6]
              refine W.eq (g2 := F0 m 55 ls [.ref b_6]) (by rfl) ?_
              refine lv_iload_n hx hb dX9_poll_55 rfl (lv_at hl 2 rfl) ?_
              refine va_calli (rnV (fun H => TH E (T1 E) G [] H) (As := [.int p1]) (rest := []) ⟨hx, hb, hml, hown, hts⟩ (t_X1_tellFirst l E z0 G hGz b_6 p1 gb_6 (by first | omega | decide)) (cwV 1 hts (gdV ml_X9_182 im_X1_tellFirst se_X1_X1_tellFirst in_X1 co_X1_tellFirst rfl) rfl rfl rfl (by decide +kernel) ⟨Nat.le_of_ble_eq_true rfl, Nat.le_of_ble_eq_true rfl⟩) hT (fun U hU hW => hK.go hW hS hAz hU) (va_recv hK.1 (va_one ha_7) (ci := 1) (q0 := 0) rfl rfl) rfl rfl hl.1 rfl (lv_room (Nat.le_of_ble_eq_true rfl)) dX9_poll_56 ⟨Nat.le_of_ble_eq_true rfl, Nat.le_of_ble_eq_true rfl⟩) hS (fun q _ h => h.elim) (fun q h => h.elim) (fun r_11 _ t H locs ht hvm hwr_11 hB hz hk hS => ?_)
              have hT : TH E (T1 E) G [] H := hT.kept (fun q hq => hk q hq (fun h => h))
              have ha_4 := ha_4.kept (hk _ ha_4.lt (fun h => h))
              have ha_5 := ha_5.kept (hk _ ha_5.lt (fun h => h))
              have ha_7 := ha_7.kept (hk _ ha_7.lt (fun h => h))
              refine vx_ret ?_
              refine W.widen (k := 2) (n := 12) (Nat.le_of_ble_eq_true rfl) (Nat.le_of_ble_eq_true rfl) ?_
              exact W.iret (v := r_11) hx hb hr (fun t ht hW => ⟨⟨r_11, (), rfl, trivial, (by show TH E (T1 E) G [] t.heap; rw [ht]; exact hT)⟩, hS.F ht⟩) hS.2.2 dX9_poll_59
          · simp only [lt_I, le_I, eq_I, i_0, i_1, i_2, i_3, i_4, i_5, i_6, i_7, i_8, i_10, i_12, i_16, i_20, i_23, i_24, i_31, i_32, i_63, i_64, i_m1] at c_8
            exact vx_throw0 (A := AZ z0) hx hb hst (own := RX9) (cls := NSE) (names := upn) (ik := 179) (ic := 181) hown (by decide +kernel) (by decide +kernel) (hts _ cl_X9_179) (hts _ in_NoSuchElementException) (fun w hw => hts w (tw_NSE w hw)) tg_NSE hK.2.2.1 hK.2.2.2 (SS_mono hS hAz) (by rw [hml]; exact hl.1) dX9_poll_37 dX9_poll_40 dX9_poll_41 dX9_poll_44 (fun x hx => (hne x hx).elim) (by decide) (by decide) (by decide) (by decide) hlocks (fun t hA hz hk => ⟨(), trivial, ⟨Or.inr rfl, hT.kept hk⟩, SS_F hS hz hk⟩) hS.2.2 (by decide) (by decide)
