theorem dX9_isNode_0 : decode cX9_isNode 0 = .ok (.iload_n 0, 1) := by decide +kernel
theorem dX9_isNode_1 : decode cX9_isNode 1 = .ok (.ifCond .lt 12, 3) := by decide +kernel
theorem dX9_isNode_4 : decode cX9_isNode 4 = .ok (.iload_n 0, 1) := by decide +kernel
theorem dX9_isNode_5 : decode cX9_isNode 5 = .ok (.iconst 2, 1) := by decide +kernel
theorem dX9_isNode_6 : decode cX9_isNode 6 = .ok (.if_icmp .ge 7, 3) := by decide +kernel
theorem dX9_isNode_9 : decode cX9_isNode 9 = .ok (.iconst 1, 1) := by decide +kernel
theorem dX9_isNode_10 : decode cX9_isNode 10 = .ok (.goto 4, 3) := by decide +kernel
theorem dX9_isNode_13 : decode cX9_isNode 13 = .ok (.iconst 0, 1) := by decide +kernel
theorem dX9_isNode_14 : decode cX9_isNode 14 = .ok (.ireturn, 1) := by decide +kernel
theorem dX9_isRegion_0 : decode cX9_isRegion 0 = .ok (.iload_n 0, 1) := by decide +kernel
theorem dX9_isRegion_1 : decode cX9_isRegion 1 = .ok (.ifCond .lt 13, 3) := by decide +kernel
theorem dX9_isRegion_4 : decode cX9_isRegion 4 = .ok (.iload_n 0, 1) := by decide +kernel
theorem dX9_isRegion_5 : decode cX9_isRegion 5 = .ok (.bipush 6, 2) := by decide +kernel
theorem dX9_isRegion_7 : decode cX9_isRegion 7 = .ok (.if_icmp .ge 7, 3) := by decide +kernel
theorem dX9_isRegion_10 : decode cX9_isRegion 10 = .ok (.iconst 1, 1) := by decide +kernel
theorem dX9_isRegion_11 : decode cX9_isRegion 11 = .ok (.goto 4, 3) := by decide +kernel
theorem dX9_isRegion_14 : decode cX9_isRegion 14 = .ok (.iconst 0, 1) := by decide +kernel
theorem dX9_isRegion_15 : decode cX9_isRegion 15 = .ok (.ireturn, 1) := by decide +kernel
theorem dX9_isCell_0 : decode cX9_isCell 0 = .ok (.iload_n 0, 1) := by decide +kernel
theorem dX9_isCell_1 : decode cX9_isCell 1 = .ok (.ifCond .lt 13, 3) := by decide +kernel
theorem dX9_isCell_4 : decode cX9_isCell 4 = .ok (.iload_n 0, 1) := by decide +kernel
theorem dX9_isCell_5 : decode cX9_isCell 5 = .ok (.bipush 32, 2) := by decide +kernel
theorem dX9_isCell_7 : decode cX9_isCell 7 = .ok (.if_icmp .ge 7, 3) := by decide +kernel
theorem dX9_isCell_10 : decode cX9_isCell 10 = .ok (.iconst 1, 1) := by decide +kernel
theorem dX9_isCell_11 : decode cX9_isCell 11 = .ok (.goto 4, 3) := by decide +kernel
theorem dX9_isCell_14 : decode cX9_isCell 14 = .ok (.iconst 0, 1) := by decide +kernel
theorem dX9_isCell_15 : decode cX9_isCell 15 = .ok (.ireturn, 1) := by decide +kernel
theorem dX9_isPair_0 : decode cX9_isPair 0 = .ok (.iload_n 0, 1) := by decide +kernel
theorem dX9_isPair_1 : decode cX9_isPair 1 = .ok (.ifCond .lt 12, 3) := by decide +kernel
theorem dX9_isPair_4 : decode cX9_isPair 4 = .ok (.iload_n 0, 1) := by decide +kernel
theorem dX9_isPair_5 : decode cX9_isPair 5 = .ok (.iconst 4, 1) := by decide +kernel
theorem dX9_isPair_6 : decode cX9_isPair 6 = .ok (.if_icmp .ge 7, 3) := by decide +kernel
theorem dX9_isPair_9 : decode cX9_isPair 9 = .ok (.iconst 1, 1) := by decide +kernel
theorem dX9_isPair_10 : decode cX9_isPair 10 = .ok (.goto 4, 3) := by decide +kernel
theorem dX9_isPair_13 : decode cX9_isPair 13 = .ok (.iconst 0, 1) := by decide +kernel
theorem dX9_isPair_14 : decode cX9_isPair 14 = .ok (.ireturn, 1) := by decide +kernel
theorem dX9_isNumber_0 : decode cX9_isNumber 0 = .ok (.iload_n 0, 1) := by decide +kernel
theorem dX9_isNumber_1 : decode cX9_isNumber 1 = .ok (.ifCond .lt 13, 3) := by decide +kernel
theorem dX9_isNumber_4 : decode cX9_isNumber 4 = .ok (.iload_n 0, 1) := by decide +kernel
theorem dX9_isNumber_5 : decode cX9_isNumber 5 = .ok (.bipush 64, 2) := by decide +kernel
theorem dX9_isNumber_7 : decode cX9_isNumber 7 = .ok (.if_icmp .ge 7, 3) := by decide +kernel
theorem dX9_isNumber_10 : decode cX9_isNumber 10 = .ok (.iconst 1, 1) := by decide +kernel
theorem dX9_isNumber_11 : decode cX9_isNumber 11 = .ok (.goto 4, 3) := by decide +kernel
theorem dX9_isNumber_14 : decode cX9_isNumber 14 = .ok (.iconst 0, 1) := by decide +kernel
theorem dX9_isNumber_15 : decode cX9_isNumber 15 = .ok (.ireturn, 1) := by decide +kernel
theorem dX9_areCells_0 : decode cX9_areCells 0 = .ok (.iload_n 1, 1) := by decide +kernel
theorem dX9_areCells_1 : decode cX9_areCells 1 = .ok (.iconst 1, 1) := by decide +kernel
theorem dX9_areCells_2 : decode cX9_areCells 2 = .ok (.if_icmp .lt 25, 3) := by decide +kernel
theorem dX9_areCells_5 : decode cX9_areCells 5 = .ok (.iload_n 1, 1) := by decide +kernel
theorem dX9_areCells_6 : decode cX9_areCells 6 = .ok (.bipush 12, 2) := by decide +kernel
theorem dX9_areCells_8 : decode cX9_areCells 8 = .ok (.if_icmp .gt 19, 3) := by decide +kernel
theorem dX9_areCells_11 : decode cX9_areCells 11 = .ok (.iload_n 0, 1) := by decide +kernel
theorem dX9_areCells_12 : decode cX9_areCells 12 = .ok (.ifCond .lt 15, 3) := by decide +kernel
theorem dX9_areCells_15 : decode cX9_areCells 15 = .ok (.iload_n 0, 1) := by decide +kernel
theorem dX9_areCells_16 : decode cX9_areCells 16 = .ok (.bipush 32, 2) := by decide +kernel
theorem dX9_areCells_18 : decode cX9_areCells 18 = .ok (.iload_n 1, 1) := by decide +kernel
theorem dX9_areCells_19 : decode cX9_areCells 19 = .ok (.isub, 1) := by decide +kernel
theorem dX9_areCells_20 : decode cX9_areCells 20 = .ok (.if_icmp .gt 7, 3) := by decide +kernel
theorem dX9_areCells_23 : decode cX9_areCells 23 = .ok (.iconst 1, 1) := by decide +kernel
theorem dX9_areCells_24 : decode cX9_areCells 24 = .ok (.goto 4, 3) := by decide +kernel
theorem dX9_areCells_27 : decode cX9_areCells 27 = .ok (.iconst 0, 1) := by decide +kernel
theorem dX9_areCells_28 : decode cX9_areCells 28 = .ok (.ireturn, 1) := by decide +kernel
theorem dX9_peerOf_0 : decode cX9_peerOf 0 = .ok (.iload_n 0, 1) := by decide +kernel
theorem dX9_peerOf_1 : decode cX9_peerOf 1 = .ok (.iconst 1, 1) := by decide +kernel
theorem dX9_peerOf_2 : decode cX9_peerOf 2 = .ok (.ixor, 1) := by decide +kernel
theorem dX9_peerOf_3 : decode cX9_peerOf 3 = .ok (.ireturn, 1) := by decide +kernel
set_option maxHeartbeats 4000000 in
set_option maxRecDepth 100000 in
theorem c_X9_isNode (l : Launch) (p0 : Int32) : Met l yX9_isNode [Cond.code yX9_isNode cX9_isNode 1 (some .boolean)] ({ frames := 0, cells := 0, slots := 0, locals := 0 } : Room) (fun v _ => v = ([.int p0] : List Value).toArray) (QcRead (bI (0 ≤ p0.toInt ∧ p0.toInt < 2))) 0 0 (fun _ => False) := by
  refine Met.ofW (cc := cX9_isNode) (maxL := 1) (ret := (some .boolean)) (by decide) rfl ?_
  intro p e s m args below meth c s₁ B hml hv
  subst hv
  have hx := B.exec
  have hb := B.bytes
  have hr := B.returns
  have hlocks := B.notSynchronized
  have hl := lv_entry ([.int p0]) (n := 1) (Nat.le_of_ble_eq_true rfl)
  rw [lg_entry_eq]
  generalize (lg_sl ([.int p0]) ++ List.replicate (1 - (lg_sl ([.int p0])).length) Slot.unset).toArray = ls at hl ⊢
  have hl : lv_has ls 1 [(0, .int p0)] := hl
  refine lv_iload_n hx hb dX9_isNode_0 rfl (lv_at hl 0 rfl) ?_
  refine lv_if_lt (tgt := 13) hx hb dX9_isNode_1 (by decide) (fun c_1 => ?_) (fun c_1 => ?_)
  · simp only [lt_I, le_I, eq_I, i_0, i_1, i_2, i_3, i_4, i_5, i_6, i_7, i_8, i_10, i_12, i_16, i_20, i_23, i_24, i_31, i_32, i_63, i_64, i_m1] at c_1
    refine lv_iconst (v := 0) hx hb dX9_isNode_13 (by decide) ?_
    exact W.zret (v := 0) (ty := .boolean) hx hb hr rfl (fun t ht hW => ⟨(by rw [bI_f (by omega)]), ht⟩) (fun q hq => nomatch hq) dX9_isNode_14
  · simp only [lt_I, le_I, eq_I, i_0, i_1, i_2, i_3, i_4, i_5, i_6, i_7, i_8, i_10, i_12, i_16, i_20, i_23, i_24, i_31, i_32, i_63, i_64, i_m1] at c_1
    refine lv_iload_n hx hb dX9_isNode_4 rfl (lv_at hl 0 rfl) ?_
    refine lv_iconst (v := 2) hx hb dX9_isNode_5 (by decide) ?_
    refine lv_icmp_ge (tgt := 13) hx hb dX9_isNode_6 (by decide) (fun c_2 => ?_) (fun c_2 => ?_)
    · simp only [lt_I, le_I, eq_I, i_0, i_1, i_2, i_3, i_4, i_5, i_6, i_7, i_8, i_10, i_12, i_16, i_20, i_23, i_24, i_31, i_32, i_63, i_64, i_m1] at c_2
      refine lv_iconst (v := 0) hx hb dX9_isNode_13 (by decide) ?_
      exact W.zret (v := 0) (ty := .boolean) hx hb hr rfl (fun t ht hW => ⟨(by rw [bI_f (by omega)]), ht⟩) (fun q hq => nomatch hq) dX9_isNode_14
    · simp only [lt_I, le_I, eq_I, i_0, i_1, i_2, i_3, i_4, i_5, i_6, i_7, i_8, i_10, i_12, i_16, i_20, i_23, i_24, i_31, i_32, i_63, i_64, i_m1] at c_2
      refine lv_iconst (v := 1) hx hb dX9_isNode_9 (by decide) ?_
      refine lv_goto (tgt := 14) hx hb dX9_isNode_10 (by decide) ?_
      exact W.zret (v := 1) (ty := .boolean) hx hb hr rfl (fun t ht hW => ⟨(by rw [bI_t (by omega)]), ht⟩) (fun q hq => nomatch hq) dX9_isNode_14
set_option maxHeartbeats 4000000 in
set_option maxRecDepth 100000 in
theorem c_X9_isRegion (l : Launch) (p0 : Int32) : Met l yX9_isRegion [Cond.code yX9_isRegion cX9_isRegion 1 (some .boolean)] ({ frames := 0, cells := 0, slots := 0, locals := 0 } : Room) (fun v _ => v = ([.int p0] : List Value).toArray) (QcRead (bI (0 ≤ p0.toInt ∧ p0.toInt < 6))) 0 0 (fun _ => False) := by
  refine Met.ofW (cc := cX9_isRegion) (maxL := 1) (ret := (some .boolean)) (by decide) rfl ?_
  intro p e s m args below meth c s₁ B hml hv
  subst hv
  have hx := B.exec
  have hb := B.bytes
  have hr := B.returns
  have hlocks := B.notSynchronized
  have hl := lv_entry ([.int p0]) (n := 1) (Nat.le_of_ble_eq_true rfl)
  rw [lg_entry_eq]
  generalize (lg_sl ([.int p0]) ++ List.replicate (1 - (lg_sl ([.int p0])).length) Slot.unset).toArray = ls at hl ⊢
  have hl : lv_has ls 1 [(0, .int p0)] := hl
  refine lv_iload_n hx hb dX9_isRegion_0 rfl (lv_at hl 0 rfl) ?_
  refine lv_if_lt (tgt := 14) hx hb dX9_isRegion_1 (by decide) (fun c_1 => ?_) (fun c_1 => ?_)
  · simp only [lt_I, le_I, eq_I, i_0, i_1, i_2, i_3, i_4, i_5, i_6, i_7, i_8, i_10, i_12, i_16, i_20, i_23, i_24, i_31, i_32, i_63, i_64, i_m1] at c_1
    refine lv_iconst (v := 0) hx hb dX9_isRegion_14 (by decide) ?_
    exact W.zret (v := 0) (ty := .boolean) hx hb hr rfl (fun t ht hW => ⟨(by rw [bI_f (by omega)]), ht⟩) (fun q hq => nomatch hq) dX9_isRegion_15
  · simp only [lt_I, le_I, eq_I, i_0, i_1, i_2, i_3, i_4, i_5, i_6, i_7, i_8, i_10, i_12, i_16, i_20, i_23, i_24, i_31, i_32, i_63, i_64, i_m1] at c_1
    refine lv_iload_n hx hb dX9_isRegion_4 rfl (lv_at hl 0 rfl) ?_
    refine lv_bipush (v := 6) hx hb dX9_isRegion_5 (by decide) ?_
    refine lv_icmp_ge (tgt := 14) hx hb dX9_isRegion_7 (by decide) (fun c_2 => ?_) (fun c_2 => ?_)
    · simp only [lt_I, le_I, eq_I, i_0, i_1, i_2, i_3, i_4, i_5, i_6, i_7, i_8, i_10, i_12, i_16, i_20, i_23, i_24, i_31, i_32, i_63, i_64, i_m1] at c_2
      refine lv_iconst (v := 0) hx hb dX9_isRegion_14 (by decide) ?_
      exact W.zret (v := 0) (ty := .boolean) hx hb hr rfl (fun t ht hW => ⟨(by rw [bI_f (by omega)]), ht⟩) (fun q hq => nomatch hq) dX9_isRegion_15
    · simp only [lt_I, le_I, eq_I, i_0, i_1, i_2, i_3, i_4, i_5, i_6, i_7, i_8, i_10, i_12, i_16, i_20, i_23, i_24, i_31, i_32, i_63, i_64, i_m1] at c_2
      refine lv_iconst (v := 1) hx hb dX9_isRegion_10 (by decide) ?_
      refine lv_goto (tgt := 15) hx hb dX9_isRegion_11 (by decide) ?_
      exact W.zret (v := 1) (ty := .boolean) hx hb hr rfl (fun t ht hW => ⟨(by rw [bI_t (by omega)]), ht⟩) (fun q hq => nomatch hq) dX9_isRegion_15
set_option maxHeartbeats 4000000 in
set_option maxRecDepth 100000 in
theorem c_X9_isCell (l : Launch) (p0 : Int32) : Met l yX9_isCell [Cond.code yX9_isCell cX9_isCell 1 (some .boolean)] ({ frames := 0, cells := 0, slots := 0, locals := 0 } : Room) (fun v _ => v = ([.int p0] : List Value).toArray) (QcRead (bI (0 ≤ p0.toInt ∧ p0.toInt < 32))) 0 0 (fun _ => False) := by
  refine Met.ofW (cc := cX9_isCell) (maxL := 1) (ret := (some .boolean)) (by decide) rfl ?_
  intro p e s m args below meth c s₁ B hml hv
  subst hv
  have hx := B.exec
  have hb := B.bytes
  have hr := B.returns
  have hlocks := B.notSynchronized
  have hl := lv_entry ([.int p0]) (n := 1) (Nat.le_of_ble_eq_true rfl)
  rw [lg_entry_eq]
  generalize (lg_sl ([.int p0]) ++ List.replicate (1 - (lg_sl ([.int p0])).length) Slot.unset).toArray = ls at hl ⊢
  have hl : lv_has ls 1 [(0, .int p0)] := hl
  refine lv_iload_n hx hb dX9_isCell_0 rfl (lv_at hl 0 rfl) ?_
  refine lv_if_lt (tgt := 14) hx hb dX9_isCell_1 (by decide) (fun c_1 => ?_) (fun c_1 => ?_)
  · simp only [lt_I, le_I, eq_I, i_0, i_1, i_2, i_3, i_4, i_5, i_6, i_7, i_8, i_10, i_12, i_16, i_20, i_23, i_24, i_31, i_32, i_63, i_64, i_m1] at c_1
    refine lv_iconst (v := 0) hx hb dX9_isCell_14 (by decide) ?_
    exact W.zret (v := 0) (ty := .boolean) hx hb hr rfl (fun t ht hW => ⟨(by rw [bI_f (by omega)]), ht⟩) (fun q hq => nomatch hq) dX9_isCell_15
  · simp only [lt_I, le_I, eq_I, i_0, i_1, i_2, i_3, i_4, i_5, i_6, i_7, i_8, i_10, i_12, i_16, i_20, i_23, i_24, i_31, i_32, i_63, i_64, i_m1] at c_1
    refine lv_iload_n hx hb dX9_isCell_4 rfl (lv_at hl 0 rfl) ?_
    refine lv_bipush (v := 32) hx hb dX9_isCell_5 (by decide) ?_
    refine lv_icmp_ge (tgt := 14) hx hb dX9_isCell_7 (by decide) (fun c_2 => ?_) (fun c_2 => ?_)
    · simp only [lt_I, le_I, eq_I, i_0, i_1, i_2, i_3, i_4, i_5, i_6, i_7, i_8, i_10, i_12, i_16, i_20, i_23, i_24, i_31, i_32, i_63, i_64, i_m1] at c_2
      refine lv_iconst (v := 0) hx hb dX9_isCell_14 (by decide) ?_
      exact W.zret (v := 0) (ty := .boolean) hx hb hr rfl (fun t ht hW => ⟨(by rw [bI_f (by omega)]), ht⟩) (fun q hq => nomatch hq) dX9_isCell_15
    · simp only [lt_I, le_I, eq_I, i_0, i_1, i_2, i_3, i_4, i_5, i_6, i_7, i_8, i_10, i_12, i_16, i_20, i_23, i_24, i_31, i_32, i_63, i_64, i_m1] at c_2
      refine lv_iconst (v := 1) hx hb dX9_isCell_10 (by decide) ?_
      refine lv_goto (tgt := 15) hx hb dX9_isCell_11 (by decide) ?_
      exact W.zret (v := 1) (ty := .boolean) hx hb hr rfl (fun t ht hW => ⟨(by rw [bI_t (by omega)]), ht⟩) (fun q hq => nomatch hq) dX9_isCell_15
set_option maxHeartbeats 4000000 in
set_option maxRecDepth 100000 in
theorem c_X9_isPair (l : Launch) (p0 : Int32) : Met l yX9_isPair [Cond.code yX9_isPair cX9_isPair 1 (some .boolean)] ({ frames := 0, cells := 0, slots := 0, locals := 0 } : Room) (fun v _ => v = ([.int p0] : List Value).toArray) (QcRead (bI (0 ≤ p0.toInt ∧ p0.toInt < 4))) 0 0 (fun _ => False) := by
  refine Met.ofW (cc := cX9_isPair) (maxL := 1) (ret := (some .boolean)) (by decide) rfl ?_
  intro p e s m args below meth c s₁ B hml hv
  subst hv
  have hx := B.exec
  have hb := B.bytes
  have hr := B.returns
  have hlocks := B.notSynchronized
  have hl := lv_entry ([.int p0]) (n := 1) (Nat.le_of_ble_eq_true rfl)
  rw [lg_entry_eq]
  generalize (lg_sl ([.int p0]) ++ List.replicate (1 - (lg_sl ([.int p0])).length) Slot.unset).toArray = ls at hl ⊢
  have hl : lv_has ls 1 [(0, .int p0)] := hl
  refine lv_iload_n hx hb dX9_isPair_0 rfl (lv_at hl 0 rfl) ?_
  refine lv_if_lt (tgt := 13) hx hb dX9_isPair_1 (by decide) (fun c_1 => ?_) (fun c_1 => ?_)
  · simp only [lt_I, le_I, eq_I, i_0, i_1, i_2, i_3, i_4, i_5, i_6, i_7, i_8, i_10, i_12, i_16, i_20, i_23, i_24, i_31, i_32, i_63, i_64, i_m1] at c_1
    refine lv_iconst (v := 0) hx hb dX9_isPair_13 (by decide) ?_
    exact W.zret (v := 0) (ty := .boolean) hx hb hr rfl (fun t ht hW => ⟨(by rw [bI_f (by omega)]), ht⟩) (fun q hq => nomatch hq) dX9_isPair_14
  · simp only [lt_I, le_I, eq_I, i_0, i_1, i_2, i_3, i_4, i_5, i_6, i_7, i_8, i_10, i_12, i_16, i_20, i_23, i_24, i_31, i_32, i_63, i_64, i_m1] at c_1
    refine lv_iload_n hx hb dX9_isPair_4 rfl (lv_at hl 0 rfl) ?_
    refine lv_iconst (v := 4) hx hb dX9_isPair_5 (by decide) ?_
    refine lv_icmp_ge (tgt := 13) hx hb dX9_isPair_6 (by decide) (fun c_2 => ?_) (fun c_2 => ?_)
    · simp only [lt_I, le_I, eq_I, i_0, i_1, i_2, i_3, i_4, i_5, i_6, i_7, i_8, i_10, i_12, i_16, i_20, i_23, i_24, i_31, i_32, i_63, i_64, i_m1] at c_2
      refine lv_iconst (v := 0) hx hb dX9_isPair_13 (by decide) ?_
      exact W.zret (v := 0) (ty := .boolean) hx hb hr rfl (fun t ht hW => ⟨(by rw [bI_f (by omega)]), ht⟩) (fun q hq => nomatch hq) dX9_isPair_14
    · simp only [lt_I, le_I, eq_I, i_0, i_1, i_2, i_3, i_4, i_5, i_6, i_7, i_8, i_10, i_12, i_16, i_20, i_23, i_24, i_31, i_32, i_63, i_64, i_m1] at c_2
      refine lv_iconst (v := 1) hx hb dX9_isPair_9 (by decide) ?_
      refine lv_goto (tgt := 14) hx hb dX9_isPair_10 (by decide) ?_
      exact W.zret (v := 1) (ty := .boolean) hx hb hr rfl (fun t ht hW => ⟨(by rw [bI_t (by omega)]), ht⟩) (fun q hq => nomatch hq) dX9_isPair_14
set_option maxHeartbeats 4000000 in
set_option maxRecDepth 100000 in
theorem c_X9_isNumber (l : Launch) (p0 : Int32) : Met l yX9_isNumber [Cond.code yX9_isNumber cX9_isNumber 1 (some .boolean)] ({ frames := 0, cells := 0, slots := 0, locals := 0 } : Room) (fun v _ => v = ([.int p0] : List Value).toArray) (QcRead (bI (0 ≤ p0.toInt ∧ p0.toInt < 64))) 0 0 (fun _ => False) := by
  refine Met.ofW (cc := cX9_isNumber) (maxL := 1) (ret := (some .boolean)) (by decide) rfl ?_
  intro p e s m args below meth c s₁ B hml hv
  subst hv
  have hx := B.exec
  have hb := B.bytes
  have hr := B.returns
  have hlocks := B.notSynchronized
  have hl := lv_entry ([.int p0]) (n := 1) (Nat.le_of_ble_eq_true rfl)
  rw [lg_entry_eq]
  generalize (lg_sl ([.int p0]) ++ List.replicate (1 - (lg_sl ([.int p0])).length) Slot.unset).toArray = ls at hl ⊢
  have hl : lv_has ls 1 [(0, .int p0)] := hl
  refine lv_iload_n hx hb dX9_isNumber_0 rfl (lv_at hl 0 rfl) ?_
  refine lv_if_lt (tgt := 14) hx hb dX9_isNumber_1 (by decide) (fun c_1 => ?_) (fun c_1 => ?_)
  · simp only [lt_I, le_I, eq_I, i_0, i_1, i_2, i_3, i_4, i_5, i_6, i_7, i_8, i_10, i_12, i_16, i_20, i_23, i_24, i_31, i_32, i_63, i_64, i_m1] at c_1
    refine lv_iconst (v := 0) hx hb dX9_isNumber_14 (by decide) ?_
    exact W.zret (v := 0) (ty := .boolean) hx hb hr rfl (fun t ht hW => ⟨(by rw [bI_f (by omega)]), ht⟩) (fun q hq => nomatch hq) dX9_isNumber_15
  · simp only [lt_I, le_I, eq_I, i_0, i_1, i_2, i_3, i_4, i_5, i_6, i_7, i_8, i_10, i_12, i_16, i_20, i_23, i_24, i_31, i_32, i_63, i_64, i_m1] at c_1
    refine lv_iload_n hx hb dX9_isNumber_4 rfl (lv_at hl 0 rfl) ?_
    refine lv_bipush (v := 64) hx hb dX9_isNumber_5 (by decide) ?_
    refine lv_icmp_ge (tgt := 14) hx hb dX9_isNumber_7 (by decide) (fun c_2 => ?_) (fun c_2 => ?_)
    · simp only [lt_I, le_I, eq_I, i_0, i_1, i_2, i_3, i_4, i_5, i_6, i_7, i_8, i_10, i_12, i_16, i_20, i_23, i_24, i_31, i_32, i_63, i_64, i_m1] at c_2
      refine lv_iconst (v := 0) hx hb dX9_isNumber_14 (by decide) ?_
      exact W.zret (v := 0) (ty := .boolean) hx hb hr rfl (fun t ht hW => ⟨(by rw [bI_f (by omega)]), ht⟩) (fun q hq => nomatch hq) dX9_isNumber_15
    · simp only [lt_I, le_I, eq_I, i_0, i_1, i_2, i_3, i_4, i_5, i_6, i_7, i_8, i_10, i_12, i_16, i_20, i_23, i_24, i_31, i_32, i_63, i_64, i_m1] at c_2
      refine lv_iconst (v := 1) hx hb dX9_isNumber_10 (by decide) ?_
      refine lv_goto (tgt := 15) hx hb dX9_isNumber_11 (by decide) ?_
      exact W.zret (v := 1) (ty := .boolean) hx hb hr rfl (fun t ht hW => ⟨(by rw [bI_t (by omega)]), ht⟩) (fun q hq => nomatch hq) dX9_isNumber_15
set_option maxHeartbeats 4000000 in
set_option maxRecDepth 100000 in
theorem c_X9_areCells (l : Launch) (p0 p1 : Int32) : Met l yX9_areCells [Cond.code yX9_areCells cX9_areCells 2 (some .boolean)] ({ frames := 0, cells := 0, slots := 0, locals := 0 } : Room) (fun v _ => v = ([.int p0, .int p1] : List Value).toArray) (QcRead (bI (1 ≤ p1.toInt ∧ p1.toInt ≤ 12 ∧ 0 ≤ p0.toInt ∧ p0.toInt ≤ 32 - p1.toInt))) 0 0 (fun _ => False) := by
  refine Met.ofW (cc := cX9_areCells) (maxL := 2) (ret := (some .boolean)) (by decide) rfl ?_
  intro p e s m args below meth c s₁ B hml hv
  subst hv
  have hx := B.exec
  have hb := B.bytes
  have hr := B.returns
  have hlocks := B.notSynchronized
  have hl := lv_entry ([.int p0, .int p1]) (n := 2) (Nat.le_of_ble_eq_true rfl)
  rw [lg_entry_eq]
  generalize (lg_sl ([.int p0, .int p1]) ++ List.replicate (2 - (lg_sl ([.int p0, .int p1])).length) Slot.unset).toArray = ls at hl ⊢
  have hl : lv_has ls 2 [(0, .int p0), (1, .int p1)] := hl
  refine lv_iload_n hx hb dX9_areCells_0 rfl (lv_at hl 1 rfl) ?_
  refine lv_iconst (v := 1) hx hb dX9_areCells_1 (by decide) ?_
  refine lv_icmp_lt (tgt := 27) hx hb dX9_areCells_2 (by decide) (fun c_1 => ?_) (fun c_1 => ?_)
  · simp only [lt_I, le_I, eq_I, i_0, i_1, i_2, i_3, i_4, i_5, i_6, i_7, i_8, i_10, i_12, i_16, i_20, i_23, i_24, i_31, i_32, i_63, i_64, i_m1] at c_1
    refine lv_iconst (v := 0) hx hb dX9_areCells_27 (by decide) ?_
    exact W.zret (v := 0) (ty := .boolean) hx hb hr rfl (fun t ht hW => ⟨(by rw [bI_f (by first | omega | (have h32 := s_sub (x := 32) (y := p1) (by rw [i_32]; omega) (by rw [i_32]; omega); rw [i_32] at h32; omega))]), ht⟩) (fun q hq => nomatch hq) dX9_areCells_28
  · simp only [lt_I, le_I, eq_I, i_0, i_1, i_2, i_3, i_4, i_5, i_6, i_7, i_8, i_10, i_12, i_16, i_20, i_23, i_24, i_31, i_32, i_63, i_64, i_m1] at c_1
    refine lv_iload_n hx hb dX9_areCells_5 rfl (lv_at hl 1 rfl) ?_
    refine lv_bipush (v := 12) hx hb dX9_areCells_6 (by decide) ?_
    refine lv_icmp_gt (tgt := 27) hx hb dX9_areCells_8 (by decide) (fun c_2 => ?_) (fun c_2 => ?_)
    · simp only [lt_I, le_I, eq_I, i_0, i_1, i_2, i_3, i_4, i_5, i_6, i_7, i_8, i_10, i_12, i_16, i_20, i_23, i_24, i_31, i_32, i_63, i_64, i_m1] at c_2
      refine lv_iconst (v := 0) hx hb dX9_areCells_27 (by decide) ?_
      exact W.zret (v := 0) (ty := .boolean) hx hb hr rfl (fun t ht hW => ⟨(by rw [bI_f (by first | omega | (have h32 := s_sub (x := 32) (y := p1) (by rw [i_32]; omega) (by rw [i_32]; omega); rw [i_32] at h32; omega))]), ht⟩) (fun q hq => nomatch hq) dX9_areCells_28
    · simp only [lt_I, le_I, eq_I, i_0, i_1, i_2, i_3, i_4, i_5, i_6, i_7, i_8, i_10, i_12, i_16, i_20, i_23, i_24, i_31, i_32, i_63, i_64, i_m1] at c_2
      refine lv_iload_n hx hb dX9_areCells_11 rfl (lv_at hl 0 rfl) ?_
      refine lv_if_lt (tgt := 27) hx hb dX9_areCells_12 (by decide) (fun c_3 => ?_) (fun c_3 => ?_)
      · simp only [lt_I, le_I, eq_I, i_0, i_1, i_2, i_3, i_4, i_5, i_6, i_7, i_8, i_10, i_12, i_16, i_20, i_23, i_24, i_31, i_32, i_63, i_64, i_m1] at c_3
        refine lv_iconst (v := 0) hx hb dX9_areCells_27 (by decide) ?_
        exact W.zret (v := 0) (ty := .boolean) hx hb hr rfl (fun t ht hW => ⟨(by rw [bI_f (by first | omega | (have h32 := s_sub (x := 32) (y := p1) (by rw [i_32]; omega) (by rw [i_32]; omega); rw [i_32] at h32; omega))]), ht⟩) (fun q hq => nomatch hq) dX9_areCells_28
      · simp only [lt_I, le_I, eq_I, i_0, i_1, i_2, i_3, i_4, i_5, i_6, i_7, i_8, i_10, i_12, i_16, i_20, i_23, i_24, i_31, i_32, i_63, i_64, i_m1] at c_3
        refine lv_iload_n hx hb dX9_areCells_15 rfl (lv_at hl 0 rfl) ?_
        refine lv_bipush (v := 32) hx hb dX9_areCells_16 (by decide) ?_
        refine lv_iload_n hx hb dX9_areCells_18 rfl (lv_at hl 1 rfl) ?_
        refine lv_isub hx hb dX9_areCells_19 ?_
        refine lv_icmp_gt (tgt := 27) hx hb dX9_areCells_20 (by decide) (fun c_4 => ?_) (fun c_4 => ?_)
        · simp only [lt_I, le_I, eq_I, i_0, i_1, i_2, i_3, i_4, i_5, i_6, i_7, i_8, i_10, i_12, i_16, i_20, i_23, i_24, i_31, i_32, i_63, i_64, i_m1] at c_4
          refine lv_iconst (v := 0) hx hb dX9_areCells_27 (by decide) ?_
          exact W.zret (v := 0) (ty := .boolean) hx hb hr rfl (fun t ht hW => ⟨(by rw [bI_f (by first | omega | (have h32 := s_sub (x := 32) (y := p1) (by rw [i_32]; omega) (by rw [i_32]; omega); rw [i_32] at h32; omega))]), ht⟩) (fun q hq => nomatch hq) dX9_areCells_28
        · simp only [lt_I, le_I, eq_I, i_0, i_1, i_2, i_3, i_4, i_5, i_6, i_7, i_8, i_10, i_12, i_16, i_20, i_23, i_24, i_31, i_32, i_63, i_64, i_m1] at c_4
          refine lv_iconst (v := 1) hx hb dX9_areCells_23 (by decide) ?_
          refine lv_goto (tgt := 28) hx hb dX9_areCells_24 (by decide) ?_
          exact W.zret (v := 1) (ty := .boolean) hx hb hr rfl (fun t ht hW => ⟨(by rw [bI_t (by first | omega | (have h32 := s_sub (x := 32) (y := p1) (by rw [i_32]; omega) (by rw [i_32]; omega); rw [i_32] at h32; omega))]), ht⟩) (fun q hq => nomatch hq) dX9_areCells_28
set_option maxHeartbeats 4000000 in
set_option maxRecDepth 100000 in
theorem c_X9_peerOf (l : Launch) (p0 : Int32) : Met l yX9_peerOf [Cond.code yX9_peerOf cX9_peerOf 1 (some .int)] ({ frames := 0, cells := 0, slots := 0, locals := 0 } : Room) (fun v _ => v = ([.int p0] : List Value).toArray) (QcRead (p0 ^^^ 1)) 0 0 (fun _ => False) := by
  refine Met.ofW (cc := cX9_peerOf) (maxL := 1) (ret := (some .int)) (by decide) rfl ?_
  intro p e s m args below meth c s₁ B hml hv
  subst hv
  have hx := B.exec
  have hb := B.bytes
  have hr := B.returns
  have hlocks := B.notSynchronized
  have hl := lv_entry ([.int p0]) (n := 1) (Nat.le_of_ble_eq_true rfl)
  rw [lg_entry_eq]
  generalize (lg_sl ([.int p0]) ++ List.replicate (1 - (lg_sl ([.int p0])).length) Slot.unset).toArray = ls at hl ⊢
  have hl : lv_has ls 1 [(0, .int p0)] := hl
  refine lv_iload_n hx hb dX9_peerOf_0 rfl (lv_at hl 0 rfl) ?_
  refine lv_iconst (v := 1) hx hb dX9_peerOf_1 (by decide) ?_
  refine lv_ixor hx hb dX9_peerOf_2 ?_
  exact W.iret (v := (p0 ^^^ 1)) hx hb hr (fun t ht hW => ⟨rfl, ht⟩) (fun q hq => nomatch hq) dX9_peerOf_3
