theorem dX8_forgetAdds_0 : decode cX8_forgetAdds 0 = .ok (.iconst 0, 1) := by decide +kernel
theorem dX8_forgetAdds_1 : decode cX8_forgetAdds 1 = .ok (.istore_n 1, 1) := by decide +kernel
theorem dX8_forgetAdds_2 : decode cX8_forgetAdds 2 = .ok (.iload_n 1, 1) := by decide +kernel
theorem dX8_forgetAdds_3 : decode cX8_forgetAdds 3 = .ok (.iconst 2, 1) := by decide +kernel
theorem dX8_forgetAdds_4 : decode cX8_forgetAdds 4 = .ok (.if_icmp .ge 23, 3) := by decide +kernel
theorem dX8_forgetAdds_7 : decode cX8_forgetAdds 7 = .ok (.aload_n 0, 1) := by decide +kernel
theorem dX8_forgetAdds_8 : decode cX8_forgetAdds 8 = .ok (.getfield 9, 3) := by decide +kernel
theorem dX8_forgetAdds_11 : decode cX8_forgetAdds 11 = .ok (.iload_n 1, 1) := by decide +kernel
theorem dX8_forgetAdds_12 : decode cX8_forgetAdds 12 = .ok (.iconst (-1), 1) := by decide +kernel
theorem dX8_forgetAdds_13 : decode cX8_forgetAdds 13 = .ok (.iastore, 1) := by decide +kernel
theorem dX8_forgetAdds_14 : decode cX8_forgetAdds 14 = .ok (.aload_n 0, 1) := by decide +kernel
theorem dX8_forgetAdds_15 : decode cX8_forgetAdds 15 = .ok (.getfield 15, 3) := by decide +kernel
theorem dX8_forgetAdds_18 : decode cX8_forgetAdds 18 = .ok (.iload_n 1, 1) := by decide +kernel
theorem dX8_forgetAdds_19 : decode cX8_forgetAdds 19 = .ok (.iconst 0, 1) := by decide +kernel
theorem dX8_forgetAdds_20 : decode cX8_forgetAdds 20 = .ok (.iastore, 1) := by decide +kernel
theorem dX8_forgetAdds_21 : decode cX8_forgetAdds 21 = .ok (.iinc 1 1, 3) := by decide +kernel
theorem dX8_forgetAdds_24 : decode cX8_forgetAdds 24 = .ok (.goto (-22), 3) := by decide +kernel
theorem dX8_forgetAdds_27 : decode cX8_forgetAdds 27 = .ok (.return_, 1) := by decide +kernel
theorem TH.off2 {E : EE} {ty : (Nat → Nat) → Nat → va_E → Prop} {G : Nat → Nat} {H H1 : Heap} {a b : Nat} (h : TH E ty G [] H) (h1 : G a = 0) (h2 : G b = 0) (ho : ∀ q, q < H.size → ¬ (q = a ∨ q = b) → H1[q]? = H[q]?) : TH E ty G [] H1 := fun c hc hx => by
  obtain ⟨e, e1, e2⟩ := h c hc hx
  exact ⟨e, e1, e2.kept (ho c e2.lt (fun q => q.elim (fun z => hc (by rw [z, h1])) (fun z => hc (by rw [z, h2]))))⟩
set_option maxHeartbeats 4000000 in
set_option maxRecDepth 100000 in
theorem c_X8_forgetAdds_r (l : Launch) (E : EE) (z0 h0 : Nat) (pe : Int32) (nd fa rc an ar : Nat) (hz1 : z0 ≤ an) (hz2 : z0 ≤ ar) (n1 : h0 ≠ an) (n2 : h0 ≠ ar) (n3 : an ≠ ar) : Met l yX8_forgetAdds [Cond.code yX8_forgetAdds cX8_forgetAdds 2 none] ({ frames := 0, cells := 0, slots := 0, locals := 0 } : Room) (va_Pc [.ref h0] (fun U => (va_at (DG E) vwCl (h0, .inr (8, [.int pe, .ref nd, .ref fa, .ref rc, .int 0, .int 0, .int 0, .ref an, .ref ar])) U.heap ∧ va_at (DG E) vwCl (an, .inl (E.2.2 0, 2, .inl (fun _ => 0))) U.heap ∧ va_at (DG E) vwCl (ar, .inl (E.2.2 0, 2, .inl (fun _ => 0))) U.heap) ∧ KS E z0 U)) (va_Qv (fun (_ : Unit) => True) (fun _ t => ∃ f g : Nat → Int32, va_at (DG E) vwCl (an, .inl (E.2.2 0, 2, .inl f)) t.heap ∧ va_at (DG E) vwCl (ar, .inl (E.2.2 0, 2, .inl g)) t.heap) (fun q : Nat => q = an ∨ q = ar)) 0 0 (fun q : Nat => q = an ∨ q = ar) := by
  refine Met.ofW (cc := cX8_forgetAdds) (maxL := 2) (ret := none) (by decide) rfl ?_
  intro p e s m args below meth c s₁ B hml hv
  obtain ⟨rfl, ⟨hr0, hra, hrb⟩, hK⟩ := hv
  have hx := B.exec
  have hb := B.bytes
  have hr := B.returns
  have hts : ∀ w ∈ TS, w.before ([.ref h0] : List Value).toArray s = true := fun w hw => hK.2.1 w hw _
  have hown : s.vm.findClass RX8 = some m.cls := findClass_of_methodNamed B.named
  have hlocks := B.notSynchronized
  have hS : va_S (fun q : Nat => q = an ∨ q = ar) s.heap s.heap [] := va_S.rf
  have hl := lv_entry ([.ref h0]) (n := 2) (Nat.le_of_ble_eq_true rfl)
  rw [lg_entry_eq]
  generalize (lg_sl ([.ref h0]) ++ List.replicate (2 - (lg_sl ([.ref h0])).length) Slot.unset).toArray = ls at hl ⊢
  have hl : lv_has ls 2 [(0, .ref h0)] := hl
  refine lv_iconst (v := 0) hx hb dX8_forgetAdds_0 (by decide) ?_
  refine lv_istore_n (lv' := [(1, .int 0), (0, .ref h0)]) hx hb dX8_forgetAdds_1 rfl hl (by decide) rfl (fun ls hl => ?_)
  refine lv_iload_n hx hb dX8_forgetAdds_2 rfl (lv_at hl 0 rfl) ?_
  refine lv_iconst (v := 2) hx hb dX8_forgetAdds_3 (by decide) ?_
  refine lv_icmp_ge (tgt := 27) hx hb dX8_forgetAdds_4 (by decide) (fun c_1 => absurd c_1 (by decide)) (fun c_1 => ?_)
  refine lv_aload_n hx hb dX8_forgetAdds_7 rfl (lv_at hl 1 rfl) ?_
  refine va_get (D := DG E) (ci := 8) (v := .ref an) (C := RX8) (T := TX8) (N := 9) hx hb hts iw_X8 hown hK.1 (va_one hr0) 0 rfl rfl 7 (by decide) (hts _ fl_X8_9) (fun _ h9 => h9) rfl dX8_forgetAdds_8 ?_
  refine lv_iload_n hx hb dX8_forgetAdds_11 rfl (lv_at hl 0 rfl) ?_
  refine lv_iconst (v := (-1)) hx hb dX8_forgetAdds_12 (by decide) ?_
  refine rr_iast (D := DG E) hx hb hK.1 0 hra hS (Or.inl rfl) rfl (show vp_in (0) 2 from vp_in_iff.mpr ⟨by decide, by decide⟩) dX8_forgetAdds_13 (fun H locs hn ho hz hS => ?_)
  have hr_2 : va_at (DG E) vwCl (an, .inl (E.2.2 0, 2, .inl (upd (fun _ => 0) (0 : Int32).toNatClampNeg (-1)))) H := hn
  have hr0 := hr0.kept (ho _ n1)
  have hrb := hrb.kept (ho _ (Ne.symm n3))
  refine lv_aload_n hx hb dX8_forgetAdds_14 rfl (lv_at hl 1 rfl) ?_
  refine va_get (D := DG E) (ci := 8) (v := .ref ar) (C := RX8) (T := TX8) (N := 9) hx hb hts iw_X8 hown hK.1 (va_one hr0) 0 rfl rfl 8 (by decide) (hts _ fl_X8_15) (fun _ h9 => h9) rfl dX8_forgetAdds_15 ?_
  refine lv_iload_n hx hb dX8_forgetAdds_18 rfl (lv_at hl 0 rfl) ?_
  refine lv_iconst (v := 0) hx hb dX8_forgetAdds_19 (by decide) ?_
  refine rr_iast (D := DG E) hx hb hK.1 0 hrb hS (Or.inr rfl) rfl (show vp_in (0) 2 from vp_in_iff.mpr ⟨by decide, by decide⟩) dX8_forgetAdds_20 (fun H locs hn ho hz hS => ?_)
  have hr_3 : va_at (DG E) vwCl (ar, .inl (E.2.2 0, 2, .inl (upd (fun _ => 0) (0 : Int32).toNatClampNeg 0))) H := hn
  have hr0 := hr0.kept (ho _ n2)
  have hr_2 := hr_2.kept (ho _ n3)
  refine lv_iinc (v := 1) (lv' := [(1, .int 1), (0, .ref h0)]) hx hb dX8_forgetAdds_21 hl (k := 0) rfl (by decide) (by decide) rfl (fun ls hl => ?_)
  refine lv_goto (tgt := 2) hx hb dX8_forgetAdds_24 (by decide) ?_
  refine lv_iload_n hx hb dX8_forgetAdds_2 rfl (lv_at hl 0 rfl) ?_
  refine lv_iconst (v := 2) hx hb dX8_forgetAdds_3 (by decide) ?_
  refine lv_icmp_ge (tgt := 27) hx hb dX8_forgetAdds_4 (by decide) (fun c_4 => absurd c_4 (by decide)) (fun c_4 => ?_)
  refine lv_aload_n hx hb dX8_forgetAdds_7 rfl (lv_at hl 1 rfl) ?_
  refine va_get (D := DG E) (ci := 8) (v := .ref an) (C := RX8) (T := TX8) (N := 9) hx hb hts iw_X8 hown hK.1 (va_one hr0) 0 rfl rfl 7 (by decide) (hts _ fl_X8_9) (fun _ h9 => h9) rfl dX8_forgetAdds_8 ?_
  refine lv_iload_n hx hb dX8_forgetAdds_11 rfl (lv_at hl 0 rfl) ?_
  refine lv_iconst (v := (-1)) hx hb dX8_forgetAdds_12 (by decide) ?_
  refine rr_iast (D := DG E) hx hb hK.1 0 hr_2 hS (Or.inl rfl) rfl (show vp_in (1) 2 from vp_in_iff.mpr ⟨by decide, by decide⟩) dX8_forgetAdds_13 (fun H locs hn ho hz hS => ?_)
  have hr_5 : va_at (DG E) vwCl (an, .inl (E.2.2 0, 2, .inl (upd (upd (fun _ => 0) (0 : Int32).toNatClampNeg (-1)) (1 : Int32).toNatClampNeg (-1)))) H := hn
  have hr0 := hr0.kept (ho _ n1)
  have hr_3 := hr_3.kept (ho _ (Ne.symm n3))
  refine lv_aload_n hx hb dX8_forgetAdds_14 rfl (lv_at hl 1 rfl) ?_
  refine va_get (D := DG E) (ci := 8) (v := .ref ar) (C := RX8) (T := TX8) (N := 9) hx hb hts iw_X8 hown hK.1 (va_one hr0) 0 rfl rfl 8 (by decide) (hts _ fl_X8_15) (fun _ h9 => h9) rfl dX8_forgetAdds_15 ?_
  refine lv_iload_n hx hb dX8_forgetAdds_18 rfl (lv_at hl 0 rfl) ?_
  refine lv_iconst (v := 0) hx hb dX8_forgetAdds_19 (by decide) ?_
  refine rr_iast (D := DG E) hx hb hK.1 0 hr_3 hS (Or.inr rfl) rfl (show vp_in (1) 2 from vp_in_iff.mpr ⟨by decide, by decide⟩) dX8_forgetAdds_20 (fun H locs hn ho hz hS => ?_)
  have hr_6 : va_at (DG E) vwCl (ar, .inl (E.2.2 0, 2, .inl (upd (upd (fun _ => 0) (0 : Int32).toNatClampNeg 0) (1 : Int32).toNatClampNeg 0))) H := hn
  have hr0 := hr0.kept (ho _ n2)
  have hr_5 := hr_5.kept (ho _ n3)
  refine lv_iinc (v := 2) (lv' := [(1, .int 2), (0, .ref h0)]) hx hb dX8_forgetAdds_21 hl (k := 0) rfl (by decide) (by decide) rfl (fun ls hl => ?_)
  refine lv_goto (tgt := 2) hx hb dX8_forgetAdds_24 (by decide) ?_
  refine lv_iload_n hx hb dX8_forgetAdds_2 rfl (lv_at hl 0 rfl) ?_
  refine lv_iconst (v := 2) hx hb dX8_forgetAdds_3 (by decide) ?_
  refine lv_icmp_ge (tgt := 27) hx hb dX8_forgetAdds_4 (by decide) (fun c_7 => ?_) (fun c_7 => absurd c_7 (by decide))
  exact W.vret hx hb hr (fun t ht hW => ⟨⟨(), rfl, trivial, _, _, (by rw [ht]; exact hr_5), (by rw [ht]; exact hr_6)⟩, hS.F ht⟩) hS.2.2 dX8_forgetAdds_27
theorem dX1_init_0 : decode cX1_init 0 = .ok (.aload_n 0, 1) := by decide +kernel
theorem dX1_init_1 : decode cX1_init 1 = .ok (.invokespecial 3, 3) := by decide +kernel
theorem dX1_init_4 : decode cX1_init 4 = .ok (.aload_n 0, 1) := by decide +kernel
theorem dX1_init_5 : decode cX1_init 5 = .ok (.bipush 32, 2) := by decide +kernel
theorem dX1_init_7 : decode cX1_init 7 = .ok (.newarray .int, 2) := by decide +kernel
theorem dX1_init_9 : decode cX1_init 9 = .ok (.putfield 9, 3) := by decide +kernel
theorem dX1_init_12 : decode cX1_init 12 = .ok (.aload_n 0, 1) := by decide +kernel
theorem dX1_init_13 : decode cX1_init 13 = .ok (.bipush 6, 2) := by decide +kernel
theorem dX1_init_15 : decode cX1_init 15 = .ok (.anewarray 15, 3) := by decide +kernel
theorem dX1_init_18 : decode cX1_init 18 = .ok (.putfield 17, 3) := by decide +kernel
theorem dX1_init_21 : decode cX1_init 21 = .ok (.aload_n 0, 1) := by decide +kernel
theorem dX1_init_22 : decode cX1_init 22 = .ok (.bipush 80, 2) := by decide +kernel
theorem dX1_init_24 : decode cX1_init 24 = .ok (.newarray .int, 2) := by decide +kernel
theorem dX1_init_26 : decode cX1_init 26 = .ok (.putfield 21, 3) := by decide +kernel
theorem dX1_init_29 : decode cX1_init 29 = .ok (.iconst 0, 1) := by decide +kernel
theorem dX1_init_30 : decode cX1_init 30 = .ok (.istore_n 1, 1) := by decide +kernel
theorem dX1_init_31 : decode cX1_init 31 = .ok (.iload_n 1, 1) := by decide +kernel
theorem dX1_init_32 : decode cX1_init 32 = .ok (.bipush 6, 2) := by decide +kernel
theorem dX1_init_34 : decode cX1_init 34 = .ok (.if_icmp .ge 22, 3) := by decide +kernel
theorem dX1_init_37 : decode cX1_init 37 = .ok (.aload_n 0, 1) := by decide +kernel
theorem dX1_init_38 : decode cX1_init 38 = .ok (.getfield 17, 3) := by decide +kernel
theorem dX1_init_41 : decode cX1_init 41 = .ok (.iload_n 1, 1) := by decide +kernel
theorem dX1_init_42 : decode cX1_init 42 = .ok (.new 15, 3) := by decide +kernel
theorem dX1_init_45 : decode cX1_init 45 = .ok (.dup, 1) := by decide +kernel
theorem dX1_init_46 : decode cX1_init 46 = .ok (.invokespecial 24, 3) := by decide +kernel
theorem dX1_init_49 : decode cX1_init 49 = .ok (.aastore, 1) := by decide +kernel
theorem dX1_init_50 : decode cX1_init 50 = .ok (.iinc 1 1, 3) := by decide +kernel
theorem dX1_init_53 : decode cX1_init 53 = .ok (.goto (-22), 3) := by decide +kernel
theorem dX1_init_56 : decode cX1_init 56 = .ok (.return_, 1) := by decide +kernel
set_option maxHeartbeats 16000000 in
set_option maxRecDepth 100000 in
theorem c_X1_init (l : Launch) (E : EE) (z0 : Nat) (G : Nat → Nat) (h0 sz : Nat)  (hG0 : G h0 = 0) (hz0 : z0 ≤ h0) (hz1 : z0 ≤ sz)  : Met l yX1_init [Cond.code yX1_init cX1_init 2 none] ({ frames := 2, cells := 9, slots := 136, locals := 40 } : Room) (va_Pc [.ref h0] (fun U => (U.heap.size = sz ∧ va_at (DG E) vwCl (h0, .inr (1, [.null, .null, .null, .int 0, .int 0])) U.heap ∧ TH E (T0 E) G [] U.heap) ∧ KS E z0 U)) (va_Qv (fun (G1 : Nat → Nat) => GX G G1 h0 5 sz) (fun G1 t => TH E (T0 E) G1 [] t.heap) (AC h0 sz)) 9 136 (AC h0 sz) := by
  refine Met.ofW (cc := cX1_init) (maxL := 2) (ret := none) (by decide) rfl ?_
  intro p e s m args below meth c s₁ B hml hv
  obtain ⟨rfl, ⟨hsz, hr0, hT⟩, hK⟩ := hv
  have hx := B.exec
  have hb := B.bytes
  have hr := B.returns
  have hts : ∀ w ∈ TS, w.before ([.ref h0] : List Value).toArray s = true := fun w hw => hK.2.1 w hw _
  have hown : s.vm.findClass RX1 = some m.cls := findClass_of_methodNamed B.named
  have hlocks := B.notSynchronized
  have hin : meth.name = "<init>" := (name_of_methodNamed B.named B.method).1
  have hS : va_S (AC h0 sz) s.heap s.heap [] := va_S.rf
  have hAz : ∀ q, AC h0 sz q → z0 ≤ q := fun q h => h.elim (fun e => by omega) (fun e => by omega)
  have hE : GE G G h0 sz := GE.rf
  have hlt0 : h0 < sz := by have h9 := hr0.lt; have h8 : h0 < _ := h9; omega
  obtain ⟨H, eH⟩ : ∃ H, H = s.heap := ⟨_, rfl⟩
  rw [← eH] at hr0 hT
  have hS : va_S (AC h0 sz) s.heap H [] := by rw [eH]; exact hS
  rw [← eH]
  have hsz : s.heap.size = sz := hsz
  have hl := lv_entry ([.ref h0]) (n := 2) (Nat.le_of_ble_eq_true rfl)
  rw [lg_entry_eq]
  generalize (lg_sl ([.ref h0]) ++ List.replicate (2 - (lg_sl ([.ref h0])).length) Slot.unset).toArray = ls at hl ⊢
  have hl : lv_has ls 2 [(0, .ref h0)] := hl
  refine lv_aload_n hx hb dX1_init_0 rfl (lv_at hl 0 rfl) ?_
  refine W.objInit hx hb hown (hts _ ml_X1_3) (hts _ im_Object__init_) (hts _ co_Object__init_) rfl (by rw [hml]; exact hl.1) rfl dX1_init_1 (Nat.le_of_ble_eq_true rfl) (Nat.le_of_ble_eq_true rfl) ?_
  refine W.eq (g2 := F0 m 4 ls []) rfl ?_
  refine lv_aload_n hx hb dX1_init_4 rfl (lv_at hl 0 rfl) ?_
  refine lv_bipush (v := 32) hx hb dX1_init_5 (by decide) ?_
  have hSo : s.heap.size ≤ _ := hS.1
  refine rr_newa (D := DG E) (atype := .int) (N' := 32) (a0 := (32, .inl (fun _ => 0))) hx hb (hts _ ac_int) hK.1 0 rfl hS rfl (by decide) (by decide) (by decide) (Nat.le_of_ble_eq_true rfl) (Nat.le_of_ble_eq_true rfl) dX1_init_7 (fun q_1 H hq hat hz ho hS => ?_)
  have hr_2 := hat
  have zq_1 := hT.fresh hq
  have neq_1_h0 : h0 ≠ q_1 := ne_q hr0.lt hq
  have hr0 := hr0.kept (ho _ hr0.lt)
  have szq_1 : sz ≤ q_1 := le_q hsz hSo hq
  have hT := hT.kept ho
  refine rr_putF (D := DG E) (ci := 1) (v := .ref q_1) (ty := .array .int) (C := RX1) (T := TX1) (N := 5) hx hb hts iw_X1 tyX1 tyX1_ok nmX1 hown hK.1 hr0 hS (Or.inl rfl) rfl 0 (by decide) (hts _ fl_X1_9) (fun _ h9 => h9) rfl hin rfl (by decide +kernel) rfl rfl (Nat.le_of_ble_eq_true rfl) dX1_init_9 (fun H locs hn ho hz hS => ?_)
  have hr_3 : va_at (DG E) vwCl (h0, .inr (1, [.ref q_1, .null, .null, .int 0, .int 0])) H := hn
  have hr_2 := hr_2.kept (ho _ (Ne.symm neq_1_h0))
  have hT := hT.off hG0 ho
  refine lv_aload_n hx hb dX1_init_12 rfl (lv_at hl 0 rfl) ?_
  refine lv_bipush (v := 6) hx hb dX1_init_13 (by decide) ?_
  have hSo : s.heap.size ≤ _ := hS.1
  refine rr_newq (D := DG E) (N' := 6) hx hb hown (hts _ cl_X1_15) (hts _ ao_X6) hK.1 4 rfl hS (by decide) (by decide) (by decide) (Nat.le_of_ble_eq_true rfl) (Nat.le_of_ble_eq_true rfl) dX1_init_15 (fun q_4 H hq hat hz ho hS => ?_)
  have hr_5 := hat
  have zq_4 := hT.fresh hq
  have neq_4_h0 : h0 ≠ q_4 := ne_q hr_3.lt hq
  have hr_3 := hr_3.kept (ho _ hr_3.lt)
  have neq_4_q_1 : q_1 ≠ q_4 := ne_q hr_2.lt hq
  have hr_2 := hr_2.kept (ho _ hr_2.lt)
  have szq_4 : sz ≤ q_4 := le_q hsz hSo hq
  have hT := hT.kept ho
  have hf_6 : ∀ j, j < 0 → ∃ b, (fun _ : Nat => (none : Option Nat)) j = some b ∧ G b = 7 := af_0
  refine rr_putF (D := DG E) (ci := 1) (v := .ref q_4) (ty := .array (.object "RemoteReach$Region")) (C := RX1) (T := TX1) (N := 5) hx hb hts iw_X1 tyX1 tyX1_ok nmX1 hown hK.1 hr_3 hS (Or.inl rfl) rfl 1 (by decide) (hts _ fl_X1_17) (fun _ h9 => h9) rfl hin rfl (by decide +kernel) rfl rfl (Nat.le_of_ble_eq_true rfl) dX1_init_18 (fun H locs hn ho hz hS => ?_)
  have hr_7 : va_at (DG E) vwCl (h0, .inr (1, [.ref q_1, .ref q_4, .null, .int 0, .int 0])) H := hn
  have hr_2 := hr_2.kept (ho _ (Ne.symm neq_1_h0))
  have hr_5 := hr_5.kept (ho _ (Ne.symm neq_4_h0))
  have hT := hT.off hG0 ho
  refine lv_aload_n hx hb dX1_init_21 rfl (lv_at hl 0 rfl) ?_
  refine lv_bipush (v := 80) hx hb dX1_init_22 (by decide) ?_
  have hSo : s.heap.size ≤ _ := hS.1
  refine rr_newa (D := DG E) (atype := .int) (N' := 80) (a0 := (80, .inl (fun _ => 0))) hx hb (hts _ ac_int) hK.1 0 rfl hS rfl (by decide) (by decide) (by decide) (Nat.le_of_ble_eq_true rfl) (Nat.le_of_ble_eq_true rfl) dX1_init_24 (fun q_8 H hq hat hz ho hS => ?_)
  have hr_9 := hat
  have zq_8 := hT.fresh hq
  have neq_8_h0 : h0 ≠ q_8 := ne_q hr_7.lt hq
  have hr_7 := hr_7.kept (ho _ hr_7.lt)
  have neq_8_q_1 : q_1 ≠ q_8 := ne_q hr_2.lt hq
  have hr_2 := hr_2.kept (ho _ hr_2.lt)
  have neq_8_q_4 : q_4 ≠ q_8 := ne_q hr_5.lt hq
  have hr_5 := hr_5.kept (ho _ hr_5.lt)
  have szq_8 : sz ≤ q_8 := le_q hsz hSo hq
  have hT := hT.kept ho
  refine rr_putF (D := DG E) (ci := 1) (v := .ref q_8) (ty := .array .int) (C := RX1) (T := TX1) (N := 5) hx hb hts iw_X1 tyX1 tyX1_ok nmX1 hown hK.1 hr_7 hS (Or.inl rfl) rfl 2 (by decide) (hts _ fl_X1_21) (fun _ h9 => h9) rfl hin rfl (by decide +kernel) rfl rfl (Nat.le_of_ble_eq_true rfl) dX1_init_26 (fun H locs hn ho hz hS => ?_)
  have hr_10 : va_at (DG E) vwCl (h0, .inr (1, [.ref q_1, .ref q_4, .ref q_8, .int 0, .int 0])) H := hn
  have hr_2 := hr_2.kept (ho _ (Ne.symm neq_1_h0))
  have hr_5 := hr_5.kept (ho _ (Ne.symm neq_4_h0))
  have hr_9 := hr_9.kept (ho _ (Ne.symm neq_8_h0))
  have hT := hT.off hG0 ho
  refine lv_iconst (v := 0) hx hb dX1_init_29 (by decide) ?_
  refine lv_istore_n (lv' := [(1, .int 0), (0, .ref h0)]) hx hb dX1_init_30 rfl hl (by decide) rfl (fun ls hl => ?_)
  refine lv_iload_n hx hb dX1_init_31 rfl (lv_at hl 0 rfl) ?_
  refine lv_bipush (v := 6) hx hb dX1_init_32 (by decide) ?_
  refine lv_icmp_ge (tgt := 56) hx hb dX1_init_34 (by decide) (fun c_11 => absurd c_11 (by decide)) (fun c_11 => ?_)
  refine lv_aload_n hx hb dX1_init_37 rfl (lv_at hl 1 rfl) ?_
  refine va_get (D := DG E) (ci := 1) (v := .ref q_4) (C := RX1) (T := TX1) (N := 5) hx hb hts iw_X1 hown hK.1 (va_one hr_10) 0 rfl rfl 1 (by decide) (hts _ fl_X1_17) (fun _ h9 => h9) rfl dX1_init_38 ?_
  refine lv_iload_n hx hb dX1_init_41 rfl (lv_at hl 0 rfl) ?_
  have hSo : s.heap.size ≤ _ := hS.1
  refine rr_new (ci := 6) (fs := [.int 0, .int 0, .int 0]) (C := RX6) (T := TX6) (N := 3) hx hb hts iw_X6 tyX6 tyX6_ok hown (hts _ cl_X1_15) (hts _ ia_X6) (hts _ in_X6) hK.1 hS rfl (fun j hj => by rcases (show j = 0 ∨ j = 1 ∨ j = 2 by omega) with rfl | rfl | rfl <;> rfl) (Nat.le_of_ble_eq_true rfl) (Nat.le_of_ble_eq_true rfl) dX1_init_42 (fun q_12 H hq hat hz ho hS => ?_)
  have hr_13 := hat
  have zq_12 := hT.fresh hq
  have neq_12_h0 : h0 ≠ q_12 := ne_q hr_10.lt hq
  have hr_10 := hr_10.kept (ho _ hr_10.lt)
  have neq_12_q_1 : q_1 ≠ q_12 := ne_q hr_2.lt hq
  have hr_2 := hr_2.kept (ho _ hr_2.lt)
  have neq_12_q_4 : q_4 ≠ q_12 := ne_q hr_5.lt hq
  have hr_5 := hr_5.kept (ho _ hr_5.lt)
  have neq_12_q_8 : q_8 ≠ q_12 := ne_q hr_9.lt hq
  have hr_9 := hr_9.kept (ho _ hr_9.lt)
  have szq_12 : sz ≤ q_12 := le_q hsz hSo hq
  have hT := hT.kept ho
  refine lv_dup hx hb dX1_init_45 rfl ?_
  obtain ⟨sz_hs_14, hs_14⟩ : ∃ z, z = H.size := ⟨_, rfl⟩
  have szshs_14 : sz ≤ sz_hs_14 := le_q hsz hS.1 hs_14
  refine va_callv (rnIN (fun H => H.size = sz_hs_14 ∧ va_at (DG E) vwCl (q_12, .inr (6, [.int 0, .int 0, .int 0])) H ∧ TH E (T0 E) G [] H) (As := []) (rest := [.ref q_12, .int 0, .ref q_4]) ⟨hx, hb, hml, hown, hts⟩ (c_X6_init l E z0 G q_12 sz_hs_14  zq_12 (Nat.le_trans hz1 szq_12) (Nat.le_trans hz1 szshs_14) ) ⟨va_cnB (host := RX9) 0 hts (gd1 co_X6_init rfl) rfl rfl rfl (hK.2.1 _ mn_X1_24 #[]) (hts _ in_X6) (by decide +kernel) ⟨Nat.le_of_ble_eq_true rfl, Nat.le_of_ble_eq_true rfl⟩, rfl, hts _ im_X6_init⟩ ⟨hs_14.symm, hr_13, hT⟩ (fun U hU hW => hK.go hW hS hAz hU) rfl rfl hl.1 rfl (lv_room (Nat.le_of_ble_eq_true rfl)) dX1_init_46 ⟨Nat.le_of_ble_eq_true rfl, Nat.le_of_ble_eq_true rfl⟩) hS (fun q _ h => h.elim (fun e => by rw [e]; exact (Or.inr szq_12)) (fun h => Or.inr (Nat.le_trans szshs_14 h))) (fun q h => h.elim (fun e => by rw [e]; exact (Or.inr szq_12)) (fun h => Or.inr (Nat.le_trans szshs_14 h))) (fun G_15 t H locs ht hvm hw hB hz hk hS => ?_)
  have hw_16 := hw
  rw [ht] at hB
  have lth0 : h0 < sz_hs_14 := ltz_s hr_10.lt hs_14
  have hr_10 := hr_10.kept (hk _ hr_10.lt (fun h => h.elim neq_12_h0 (fun h => absurd h (Nat.not_le.mpr lth0))))
  have hG0 : G_15 h0 = 0 := gx_0 hw_16 hG0 neq_12_h0 lth0
  have ltq_1 : q_1 < sz_hs_14 := ltz_s hr_2.lt hs_14
  have hr_2 := hr_2.kept (hk _ hr_2.lt (fun h => h.elim neq_12_q_1 (fun h => absurd h (Nat.not_le.mpr ltq_1))))
  have zq_1 : G_15 q_1 = 0 := gx_0 hw_16 zq_1 neq_12_q_1 ltq_1
  have ltq_4 : q_4 < sz_hs_14 := ltz_s hr_5.lt hs_14
  have hr_5 := hr_5.kept (hk _ hr_5.lt (fun h => h.elim neq_12_q_4 (fun h => absurd h (Nat.not_le.mpr ltq_4))))
  have zq_4 : G_15 q_4 = 0 := gx_0 hw_16 zq_4 neq_12_q_4 ltq_4
  have hf_6 := af_x hw_16 (by decide) hf_6
  have ltq_8 : q_8 < sz_hs_14 := ltz_s hr_9.lt hs_14
  have hr_9 := hr_9.kept (hk _ hr_9.lt (fun h => h.elim neq_12_q_8 (fun h => absurd h (Nat.not_le.mpr ltq_8))))
  have zq_8 : G_15 q_8 = 0 := gx_0 hw_16 zq_8 neq_12_q_8 ltq_8
  have gq_17 : G_15 q_12 = 7 := hw_16.2
  have hE := hE.step hw_16 szq_12 szshs_14
  have hT : TH E (T0 E) G_15 [] H := hB
  have ha_18 := tg_7 hT gq_17 nx_0
  refine rr_aast (D := DG E) hx hb hK.1 4 6 hr_5 hS (Or.inr szq_4) rfl ha_18 rfl (show vp_in (0) 6 from vp_in_iff.mpr ⟨by decide, by decide⟩) dX1_init_49 (fun H locs hn ho hz hS => ?_)
  have hr_19 : va_at (DG E) vwCl (q_4, .inl (E.2.2 4, 6, .inr (.inr (.inr (.inr (va_up (fun _ => none) 0 (some q_12))))))) H := hn
  have hf_6 := af_push hf_6 gq_17
  have hr_10 := hr_10.kept (ho _ neq_4_h0)
  have hr_2 := hr_2.kept (ho _ neq_4_q_1)
  have hr_9 := hr_9.kept (ho _ (Ne.symm neq_8_q_4))
  have hT := hT.off zq_4 ho
  refine lv_iinc (v := 1) (lv' := [(1, .int 1), (0, .ref h0)]) hx hb dX1_init_50 hl (k := 0) rfl (by decide) (by decide) rfl (fun ls hl => ?_)
  refine lv_goto (tgt := 31) hx hb dX1_init_53 (by decide) ?_
  refine lv_iload_n hx hb dX1_init_31 rfl (lv_at hl 0 rfl) ?_
  refine lv_bipush (v := 6) hx hb dX1_init_32 (by decide) ?_
  refine lv_icmp_ge (tgt := 56) hx hb dX1_init_34 (by decide) (fun c_20 => absurd c_20 (by decide)) (fun c_20 => ?_)
  refine lv_aload_n hx hb dX1_init_37 rfl (lv_at hl 1 rfl) ?_
  refine va_get (D := DG E) (ci := 1) (v := .ref q_4) (C := RX1) (T := TX1) (N := 5) hx hb hts iw_X1 hown hK.1 (va_one hr_10) 0 rfl rfl 1 (by decide) (hts _ fl_X1_17) (fun _ h9 => h9) rfl dX1_init_38 ?_
  refine lv_iload_n hx hb dX1_init_41 rfl (lv_at hl 0 rfl) ?_
  have hSo : s.heap.size ≤ _ := hS.1
  refine rr_new (ci := 6) (fs := [.int 0, .int 0, .int 0]) (C := RX6) (T := TX6) (N := 3) hx hb hts iw_X6 tyX6 tyX6_ok hown (hts _ cl_X1_15) (hts _ ia_X6) (hts _ in_X6) hK.1 hS rfl (fun j hj => by rcases (show j = 0 ∨ j = 1 ∨ j = 2 by omega) with rfl | rfl | rfl <;> rfl) (Nat.le_of_ble_eq_true rfl) (Nat.le_of_ble_eq_true rfl) dX1_init_42 (fun q_21 H hq hat hz ho hS => ?_)
  have hr_22 := hat
  have zq_21 := hT.fresh hq
  have neq_21_h0 : h0 ≠ q_21 := ne_q hr_10.lt hq
  have hr_10 := hr_10.kept (ho _ hr_10.lt)
  have neq_21_q_1 : q_1 ≠ q_21 := ne_q hr_2.lt hq
  have hr_2 := hr_2.kept (ho _ hr_2.lt)
  have neq_21_q_4 : q_4 ≠ q_21 := ne_q hr_19.lt hq
  have hr_19 := hr_19.kept (ho _ hr_19.lt)
  have neq_21_q_8 : q_8 ≠ q_21 := ne_q hr_9.lt hq
  have hr_9 := hr_9.kept (ho _ hr_9.lt)
  have szq_21 : sz ≤ q_21 := le_q hsz hSo hq
  have hT := hT.kept ho
  refine lv_dup hx hb dX1_init_45 rfl ?_
  obtain ⟨sz_hs_23, hs_23⟩ : ∃ z, z = H.size := ⟨_, rfl⟩
  have szshs_23 : sz ≤ sz_hs_23 := le_q hsz hS.1 hs_23
  refine va_callv (rnIN (fun H => H.size = sz_hs_23 ∧ va_at (DG E) vwCl (q_21, .inr (6, [.int 0, .int 0, .int 0])) H ∧ TH E (T0 E) G_15 [] H) (As := []) (rest := [.ref q_21, .int 1, .ref q_4]) ⟨hx, hb, hml, hown, hts⟩ (c_X6_init l E z0 G_15 q_21 sz_hs_23  zq_21 (Nat.le_trans hz1 szq_21) (Nat.le_trans hz1 szshs_23) ) ⟨va_cnB (host := RX9) 0 hts (gd1 co_X6_init rfl) rfl rfl rfl (hK.2.1 _ mn_X1_24 #[]) (hts _ in_X6) (by decide +kernel) ⟨Nat.le_of_ble_eq_true rfl, Nat.le_of_ble_eq_true rfl⟩, rfl, hts _ im_X6_init⟩ ⟨hs_23.symm, hr_22, hT⟩ (fun U hU hW => hK.go hW hS hAz hU) rfl rfl hl.1 rfl (lv_room (Nat.le_of_ble_eq_true rfl)) dX1_init_46 ⟨Nat.le_of_ble_eq_true rfl, Nat.le_of_ble_eq_true rfl⟩) hS (fun q _ h => h.elim (fun e => by rw [e]; exact (Or.inr szq_21)) (fun h => Or.inr (Nat.le_trans szshs_23 h))) (fun q h => h.elim (fun e => by rw [e]; exact (Or.inr szq_21)) (fun h => Or.inr (Nat.le_trans szshs_23 h))) (fun G_24 t H locs ht hvm hw hB hz hk hS => ?_)
  have hw_25 := hw
  rw [ht] at hB
  have lth0 : h0 < sz_hs_23 := ltz_s hr_10.lt hs_23
  have hr_10 := hr_10.kept (hk _ hr_10.lt (fun h => h.elim neq_21_h0 (fun h => absurd h (Nat.not_le.mpr lth0))))
  have hG0 : G_24 h0 = 0 := gx_0 hw_25 hG0 neq_21_h0 lth0
  have ltq_1 : q_1 < sz_hs_23 := ltz_s hr_2.lt hs_23
  have hr_2 := hr_2.kept (hk _ hr_2.lt (fun h => h.elim neq_21_q_1 (fun h => absurd h (Nat.not_le.mpr ltq_1))))
  have zq_1 : G_24 q_1 = 0 := gx_0 hw_25 zq_1 neq_21_q_1 ltq_1
  have ltq_4 : q_4 < sz_hs_23 := ltz_s hr_19.lt hs_23
  have hr_19 := hr_19.kept (hk _ hr_19.lt (fun h => h.elim neq_21_q_4 (fun h => absurd h (Nat.not_le.mpr ltq_4))))
  have zq_4 : G_24 q_4 = 0 := gx_0 hw_25 zq_4 neq_21_q_4 ltq_4
  have hf_6 := af_x hw_25 (by decide) hf_6
  have ltq_8 : q_8 < sz_hs_23 := ltz_s hr_9.lt hs_23
  have hr_9 := hr_9.kept (hk _ hr_9.lt (fun h => h.elim neq_21_q_8 (fun h => absurd h (Nat.not_le.mpr ltq_8))))
  have zq_8 : G_24 q_8 = 0 := gx_0 hw_25 zq_8 neq_21_q_8 ltq_8
  have gq_26 : G_24 q_21 = 7 := hw_25.2
  have hE := hE.step hw_25 szq_21 szshs_23
  have hT : TH E (T0 E) G_24 [] H := hB
  have ha_27 := tg_7 hT gq_26 nx_0
  refine rr_aast (D := DG E) hx hb hK.1 4 6 hr_19 hS (Or.inr szq_4) rfl ha_27 rfl (show vp_in (1) 6 from vp_in_iff.mpr ⟨by decide, by decide⟩) dX1_init_49 (fun H locs hn ho hz hS => ?_)
  have hr_28 : va_at (DG E) vwCl (q_4, .inl (E.2.2 4, 6, .inr (.inr (.inr (.inr (va_up (va_up (fun _ => none) 0 (some q_12)) 1 (some q_21))))))) H := hn
  have hf_6 := af_push hf_6 gq_26
  have hr_10 := hr_10.kept (ho _ neq_4_h0)
  have hr_2 := hr_2.kept (ho _ neq_4_q_1)
  have hr_9 := hr_9.kept (ho _ (Ne.symm neq_8_q_4))
  have hT := hT.off zq_4 ho
  refine lv_iinc (v := 2) (lv' := [(1, .int 2), (0, .ref h0)]) hx hb dX1_init_50 hl (k := 0) rfl (by decide) (by decide) rfl (fun ls hl => ?_)
  refine lv_goto (tgt := 31) hx hb dX1_init_53 (by decide) ?_
  refine lv_iload_n hx hb dX1_init_31 rfl (lv_at hl 0 rfl) ?_
  refine lv_bipush (v := 6) hx hb dX1_init_32 (by decide) ?_
  refine lv_icmp_ge (tgt := 56) hx hb dX1_init_34 (by decide) (fun c_29 => absurd c_29 (by decide)) (fun c_29 => ?_)
  refine lv_aload_n hx hb dX1_init_37 rfl (lv_at hl 1 rfl) ?_
  refine va_get (D := DG E) (ci := 1) (v := .ref q_4) (C := RX1) (T := TX1) (N := 5) hx hb hts iw_X1 hown hK.1 (va_one hr_10) 0 rfl rfl 1 (by decide) (hts _ fl_X1_17) (fun _ h9 => h9) rfl dX1_init_38 ?_
  refine lv_iload_n hx hb dX1_init_41 rfl (lv_at hl 0 rfl) ?_
  have hSo : s.heap.size ≤ _ := hS.1
  refine rr_new (ci := 6) (fs := [.int 0, .int 0, .int 0]) (C := RX6) (T := TX6) (N := 3) hx hb hts iw_X6 tyX6 tyX6_ok hown (hts _ cl_X1_15) (hts _ ia_X6) (hts _ in_X6) hK.1 hS rfl (fun j hj => by rcases (show j = 0 ∨ j = 1 ∨ j = 2 by omega) with rfl | rfl | rfl <;> rfl) (Nat.le_of_ble_eq_true rfl) (Nat.le_of_ble_eq_true rfl) dX1_init_42 (fun q_30 H hq hat hz ho hS => ?_)
  have hr_31 := hat
  have zq_30 := hT.fresh hq
  have neq_30_h0 : h0 ≠ q_30 := ne_q hr_10.lt hq
  have hr_10 := hr_10.kept (ho _ hr_10.lt)
  have neq_30_q_1 : q_1 ≠ q_30 := ne_q hr_2.lt hq
  have hr_2 := hr_2.kept (ho _ hr_2.lt)
  have neq_30_q_4 : q_4 ≠ q_30 := ne_q hr_28.lt hq
  have hr_28 := hr_28.kept (ho _ hr_28.lt)
  have neq_30_q_8 : q_8 ≠ q_30 := ne_q hr_9.lt hq
  have hr_9 := hr_9.kept (ho _ hr_9.lt)
  have szq_30 : sz ≤ q_30 := le_q hsz hSo hq
  have hT := hT.kept ho
  refine lv_dup hx hb dX1_init_45 rfl ?_
  obtain ⟨sz_hs_32, hs_32⟩ : ∃ z, z = H.size := ⟨_, rfl⟩
  have szshs_32 : sz ≤ sz_hs_32 := le_q hsz hS.1 hs_32
  refine va_callv (rnIN (fun H => H.size = sz_hs_32 ∧ va_at (DG E) vwCl (q_30, .inr (6, [.int 0, .int 0, .int 0])) H ∧ TH E (T0 E) G_24 [] H) (As := []) (rest := [.ref q_30, .int 2, .ref q_4]) ⟨hx, hb, hml, hown, hts⟩ (c_X6_init l E z0 G_24 q_30 sz_hs_32  zq_30 (Nat.le_trans hz1 szq_30) (Nat.le_trans hz1 szshs_32) ) ⟨va_cnB (host := RX9) 0 hts (gd1 co_X6_init rfl) rfl rfl rfl (hK.2.1 _ mn_X1_24 #[]) (hts _ in_X6) (by decide +kernel) ⟨Nat.le_of_ble_eq_true rfl, Nat.le_of_ble_eq_true rfl⟩, rfl, hts _ im_X6_init⟩ ⟨hs_32.symm, hr_31, hT⟩ (fun U hU hW => hK.go hW hS hAz hU) rfl rfl hl.1 rfl (lv_room (Nat.le_of_ble_eq_true rfl)) dX1_init_46 ⟨Nat.le_of_ble_eq_true rfl, Nat.le_of_ble_eq_true rfl⟩) hS (fun q _ h => h.elim (fun e => by rw [e]; exact (Or.inr szq_30)) (fun h => Or.inr (Nat.le_trans szshs_32 h))) (fun q h => h.elim (fun e => by rw [e]; exact (Or.inr szq_30)) (fun h => Or.inr (Nat.le_trans szshs_32 h))) (fun G_33 t H locs ht hvm hw hB hz hk hS => ?_)
  have hw_34 := hw
  rw [ht] at hB
  have lth0 : h0 < sz_hs_32 := ltz_s hr_10.lt hs_32
  have hr_10 := hr_10.kept (hk _ hr_10.lt (fun h => h.elim neq_30_h0 (fun h => absurd h (Nat.not_le.mpr lth0))))
  have hG0 : G_33 h0 = 0 := gx_0 hw_34 hG0 neq_30_h0 lth0
  have ltq_1 : q_1 < sz_hs_32 := ltz_s hr_2.lt hs_32
  have hr_2 := hr_2.kept (hk _ hr_2.lt (fun h => h.elim neq_30_q_1 (fun h => absurd h (Nat.not_le.mpr ltq_1))))
  have zq_1 : G_33 q_1 = 0 := gx_0 hw_34 zq_1 neq_30_q_1 ltq_1
  have ltq_4 : q_4 < sz_hs_32 := ltz_s hr_28.lt hs_32
  have hr_28 := hr_28.kept (hk _ hr_28.lt (fun h => h.elim neq_30_q_4 (fun h => absurd h (Nat.not_le.mpr ltq_4))))
  have zq_4 : G_33 q_4 = 0 := gx_0 hw_34 zq_4 neq_30_q_4 ltq_4
  have hf_6 := af_x hw_34 (by decide) hf_6
  have ltq_8 : q_8 < sz_hs_32 := ltz_s hr_9.lt hs_32
  have hr_9 := hr_9.kept (hk _ hr_9.lt (fun h => h.elim neq_30_q_8 (fun h => absurd h (Nat.not_le.mpr ltq_8))))
  have zq_8 : G_33 q_8 = 0 := gx_0 hw_34 zq_8 neq_30_q_8 ltq_8
  have gq_35 : G_33 q_30 = 7 := hw_34.2
  have hE := hE.step hw_34 szq_30 szshs_32
  have hT : TH E (T0 E) G_33 [] H := hB
  have ha_36 := tg_7 hT gq_35 nx_0
  refine rr_aast (D := DG E) hx hb hK.1 4 6 hr_28 hS (Or.inr szq_4) rfl ha_36 rfl (show vp_in (2) 6 from vp_in_iff.mpr ⟨by decide, by decide⟩) dX1_init_49 (fun H locs hn ho hz hS => ?_)
  have hr_37 : va_at (DG E) vwCl (q_4, .inl (E.2.2 4, 6, .inr (.inr (.inr (.inr (va_up (va_up (va_up (fun _ => none) 0 (some q_12)) 1 (some q_21)) 2 (some q_30))))))) H := hn
  have hf_6 := af_push hf_6 gq_35
  have hr_10 := hr_10.kept (ho _ neq_4_h0)
  have hr_2 := hr_2.kept (ho _ neq_4_q_1)
  have hr_9 := hr_9.kept (ho _ (Ne.symm neq_8_q_4))
  have hT := hT.off zq_4 ho
  refine lv_iinc (v := 3) (lv' := [(1, .int 3), (0, .ref h0)]) hx hb dX1_init_50 hl (k := 0) rfl (by decide) (by decide) rfl (fun ls hl => ?_)
  refine lv_goto (tgt := 31) hx hb dX1_init_53 (by decide) ?_
  refine lv_iload_n hx hb dX1_init_31 rfl (lv_at hl 0 rfl) ?_
  refine lv_bipush (v := 6) hx hb dX1_init_32 (by decide) ?_
  refine lv_icmp_ge (tgt := 56) hx hb dX1_init_34 (by decide) (fun c_38 => absurd c_38 (by decide)) (fun c_38 => ?_)
  refine lv_aload_n hx hb dX1_init_37 rfl (lv_at hl 1 rfl) ?_
  refine va_get (D := DG E) (ci := 1) (v := .ref q_4) (C := RX1) (T := TX1) (N := 5) hx hb hts iw_X1 hown hK.1 (va_one hr_10) 0 rfl rfl 1 (by decide) (hts _ fl_X1_17) (fun _ h9 => h9) rfl dX1_init_38 ?_
  refine lv_iload_n hx hb dX1_init_41 rfl (lv_at hl 0 rfl) ?_
  have hSo : s.heap.size ≤ _ := hS.1
  refine rr_new (ci := 6) (fs := [.int 0, .int 0, .int 0]) (C := RX6) (T := TX6) (N := 3) hx hb hts iw_X6 tyX6 tyX6_ok hown (hts _ cl_X1_15) (hts _ ia_X6) (hts _ in_X6) hK.1 hS rfl (fun j hj => by rcases (show j = 0 ∨ j = 1 ∨ j = 2 by omega) with rfl | rfl | rfl <;> rfl) (Nat.le_of_ble_eq_true rfl) (Nat.le_of_ble_eq_true rfl) dX1_init_42 (fun q_39 H hq hat hz ho hS => ?_)
  have hr_40 := hat
  have zq_39 := hT.fresh hq
  have neq_39_h0 : h0 ≠ q_39 := ne_q hr_10.lt hq
  have hr_10 := hr_10.kept (ho _ hr_10.lt)
  have neq_39_q_1 : q_1 ≠ q_39 := ne_q hr_2.lt hq
  have hr_2 := hr_2.kept (ho _ hr_2.lt)
  have neq_39_q_4 : q_4 ≠ q_39 := ne_q hr_37.lt hq
  have hr_37 := hr_37.kept (ho _ hr_37.lt)
  have neq_39_q_8 : q_8 ≠ q_39 := ne_q hr_9.lt hq
  have hr_9 := hr_9.kept (ho _ hr_9.lt)
  have szq_39 : sz ≤ q_39 := le_q hsz hSo hq
  have hT := hT.kept ho
  refine lv_dup hx hb dX1_init_45 rfl ?_
  obtain ⟨sz_hs_41, hs_41⟩ : ∃ z, z = H.size := ⟨_, rfl⟩
  have szshs_41 : sz ≤ sz_hs_41 := le_q hsz hS.1 hs_41
  refine va_callv (rnIN (fun H => H.size = sz_hs_41 ∧ va_at (DG E) vwCl (q_39, .inr (6, [.int 0, .int 0, .int 0])) H ∧ TH E (T0 E) G_33 [] H) (As := []) (rest := [.ref q_39, .int 3, .ref q_4]) ⟨hx, hb, hml, hown, hts⟩ (c_X6_init l E z0 G_33 q_39 sz_hs_41  zq_39 (Nat.le_trans hz1 szq_39) (Nat.le_trans hz1 szshs_41) ) ⟨va_cnB (host := RX9) 0 hts (gd1 co_X6_init rfl) rfl rfl rfl (hK.2.1 _ mn_X1_24 #[]) (hts _ in_X6) (by decide +kernel) ⟨Nat.le_of_ble_eq_true rfl, Nat.le_of_ble_eq_true rfl⟩, rfl, hts _ im_X6_init⟩ ⟨hs_41.symm, hr_40, hT⟩ (fun U hU hW => hK.go hW hS hAz hU) rfl rfl hl.1 rfl (lv_room (Nat.le_of_ble_eq_true rfl)) dX1_init_46 ⟨Nat.le_of_ble_eq_true rfl, Nat.le_of_ble_eq_true rfl⟩) hS (fun q _ h => h.elim (fun e => by rw [e]; exact (Or.inr szq_39)) (fun h => Or.inr (Nat.le_trans szshs_41 h))) (fun q h => h.elim (fun e => by rw [e]; exact (Or.inr szq_39)) (fun h => Or.inr (Nat.le_trans szshs_41 h))) (fun G_42 t H locs ht hvm hw hB hz hk hS => ?_)
  have hw_43 := hw
  rw [ht] at hB
  have lth0 : h0 < sz_hs_41 := ltz_s hr_10.lt hs_41
  have hr_10 := hr_10.kept (hk _ hr_10.lt (fun h => h.elim neq_39_h0 (fun h => absurd h (Nat.not_le.mpr lth0))))
  have hG0 : G_42 h0 = 0 := gx_0 hw_43 hG0 neq_39_h0 lth0
  have ltq_1 : q_1 < sz_hs_41 := ltz_s hr_2.lt hs_41
  have hr_2 := hr_2.kept (hk _ hr_2.lt (fun h => h.elim neq_39_q_1 (fun h => absurd h (Nat.not_le.mpr ltq_1))))
  have zq_1 : G_42 q_1 = 0 := gx_0 hw_43 zq_1 neq_39_q_1 ltq_1
  have ltq_4 : q_4 < sz_hs_41 := ltz_s hr_37.lt hs_41
  have hr_37 := hr_37.kept (hk _ hr_37.lt (fun h => h.elim neq_39_q_4 (fun h => absurd h (Nat.not_le.mpr ltq_4))))
  have zq_4 : G_42 q_4 = 0 := gx_0 hw_43 zq_4 neq_39_q_4 ltq_4
  have hf_6 := af_x hw_43 (by decide) hf_6
  have ltq_8 : q_8 < sz_hs_41 := ltz_s hr_9.lt hs_41
  have hr_9 := hr_9.kept (hk _ hr_9.lt (fun h => h.elim neq_39_q_8 (fun h => absurd h (Nat.not_le.mpr ltq_8))))
  have zq_8 : G_42 q_8 = 0 := gx_0 hw_43 zq_8 neq_39_q_8 ltq_8
  have gq_44 : G_42 q_39 = 7 := hw_43.2
  have hE := hE.step hw_43 szq_39 szshs_41
  have hT : TH E (T0 E) G_42 [] H := hB
  have ha_45 := tg_7 hT gq_44 nx_0
  refine rr_aast (D := DG E) hx hb hK.1 4 6 hr_37 hS (Or.inr szq_4) rfl ha_45 rfl (show vp_in (3) 6 from vp_in_iff.mpr ⟨by decide, by decide⟩) dX1_init_49 (fun H locs hn ho hz hS => ?_)
  have hr_46 : va_at (DG E) vwCl (q_4, .inl (E.2.2 4, 6, .inr (.inr (.inr (.inr (va_up (va_up (va_up (va_up (fun _ => none) 0 (some q_12)) 1 (some q_21)) 2 (some q_30)) 3 (some q_39))))))) H := hn
  have hf_6 := af_push hf_6 gq_44
  have hr_10 := hr_10.kept (ho _ neq_4_h0)
  have hr_2 := hr_2.kept (ho _ neq_4_q_1)
  have hr_9 := hr_9.kept (ho _ (Ne.symm neq_8_q_4))
  have hT := hT.off zq_4 ho
  refine lv_iinc (v := 4) (lv' := [(1, .int 4), (0, .ref h0)]) hx hb dX1_init_50 hl (k := 0) rfl (by decide) (by decide) rfl (fun ls hl => ?_)
  refine lv_goto (tgt := 31) hx hb dX1_init_53 (by decide) ?_
  refine lv_iload_n hx hb dX1_init_31 rfl (lv_at hl 0 rfl) ?_
  refine lv_bipush (v := 6) hx hb dX1_init_32 (by decide) ?_
  refine lv_icmp_ge (tgt := 56) hx hb dX1_init_34 (by decide) (fun c_47 => absurd c_47 (by decide)) (fun c_47 => ?_)
  refine lv_aload_n hx hb dX1_init_37 rfl (lv_at hl 1 rfl) ?_
  refine va_get (D := DG E) (ci := 1) (v := .ref q_4) (C := RX1) (T := TX1) (N := 5) hx hb hts iw_X1 hown hK.1 (va_one hr_10) 0 rfl rfl 1 (by decide) (hts _ fl_X1_17) (fun _ h9 => h9) rfl dX1_init_38 ?_
  refine lv_iload_n hx hb dX1_init_41 rfl (lv_at hl 0 rfl) ?_
  have hSo : s.heap.size ≤ _ := hS.1
  refine rr_new (ci := 6) (fs := [.int 0, .int 0, .int 0]) (C := RX6) (T := TX6) (N := 3) hx hb hts iw_X6 tyX6 tyX6_ok hown (hts _ cl_X1_15) (hts _ ia_X6) (hts _ in_X6) hK.1 hS rfl (fun j hj => by rcases (show j = 0 ∨ j = 1 ∨ j = 2 by omega) with rfl | rfl | rfl <;> rfl) (Nat.le_of_ble_eq_true rfl) (Nat.le_of_ble_eq_true rfl) dX1_init_42 (fun q_48 H hq hat hz ho hS => ?_)
  have hr_49 := hat
  have zq_48 := hT.fresh hq
  have neq_48_h0 : h0 ≠ q_48 := ne_q hr_10.lt hq
  have hr_10 := hr_10.kept (ho _ hr_10.lt)
  have neq_48_q_1 : q_1 ≠ q_48 := ne_q hr_2.lt hq
  have hr_2 := hr_2.kept (ho _ hr_2.lt)
  have neq_48_q_4 : q_4 ≠ q_48 := ne_q hr_46.lt hq
  have hr_46 := hr_46.kept (ho _ hr_46.lt)
  have neq_48_q_8 : q_8 ≠ q_48 := ne_q hr_9.lt hq
  have hr_9 := hr_9.kept (ho _ hr_9.lt)
  have szq_48 : sz ≤ q_48 := le_q hsz hSo hq
  have hT := hT.kept ho
  refine lv_dup hx hb dX1_init_45 rfl ?_
  obtain ⟨sz_hs_50, hs_50⟩ : ∃ z, z = H.size := ⟨_, rfl⟩
  have szshs_50 : sz ≤ sz_hs_50 := le_q hsz hS.1 hs_50
  refine va_callv (rnIN (fun H => H.size = sz_hs_50 ∧ va_at (DG E) vwCl (q_48, .inr (6, [.int 0, .int 0, .int 0])) H ∧ TH E (T0 E) G_42 [] H) (As := []) (rest := [.ref q_48, .int 4, .ref q_4]) ⟨hx, hb, hml, hown, hts⟩ (c_X6_init l E z0 G_42 q_48 sz_hs_50  zq_48 (Nat.le_trans hz1 szq_48) (Nat.le_trans hz1 szshs_50) ) ⟨va_cnB (host := RX9) 0 hts (gd1 co_X6_init rfl) rfl rfl rfl (hK.2.1 _ mn_X1_24 #[]) (hts _ in_X6) (by decide +kernel) ⟨Nat.le_of_ble_eq_true rfl, Nat.le_of_ble_eq_true rfl⟩, rfl, hts _ im_X6_init⟩ ⟨hs_50.symm, hr_49, hT⟩ (fun U hU hW => hK.go hW hS hAz hU) rfl rfl hl.1 rfl (lv_room (Nat.le_of_ble_eq_true rfl)) dX1_init_46 ⟨Nat.le_of_ble_eq_true rfl, Nat.le_of_ble_eq_true rfl⟩) hS (fun q _ h => h.elim (fun e => by rw [e]; exact (Or.inr szq_48)) (fun h => Or.inr (Nat.le_trans szshs_50 h))) (fun q h => h.elim (fun e => by rw [e]; exact (Or.inr szq_48)) (fun h => Or.inr (Nat.le_trans szshs_50 h))) (fun G_51 t H locs ht hvm hw hB hz hk hS => ?_)
  have hw_52 := hw
  rw [ht] at hB
  have lth0 : h0 < sz_hs_50 := ltz_s hr_10.lt hs_50
  have hr_10 := hr_10.kept (hk _ hr_10.lt (fun h => h.elim neq_48_h0 (fun h => absurd h (Nat.not_le.mpr lth0))))
  have hG0 : G_51 h0 = 0 := gx_0 hw_52 hG0 neq_48_h0 lth0
  have ltq_1 : q_1 < sz_hs_50 := ltz_s hr_2.lt hs_50
  have hr_2 := hr_2.kept (hk _ hr_2.lt (fun h => h.elim neq_48_q_1 (fun h => absurd h (Nat.not_le.mpr ltq_1))))
  have zq_1 : G_51 q_1 = 0 := gx_0 hw_52 zq_1 neq_48_q_1 ltq_1
  have ltq_4 : q_4 < sz_hs_50 := ltz_s hr_46.lt hs_50
  have hr_46 := hr_46.kept (hk _ hr_46.lt (fun h => h.elim neq_48_q_4 (fun h => absurd h (Nat.not_le.mpr ltq_4))))
  have zq_4 : G_51 q_4 = 0 := gx_0 hw_52 zq_4 neq_48_q_4 ltq_4
  have hf_6 := af_x hw_52 (by decide) hf_6
  have ltq_8 : q_8 < sz_hs_50 := ltz_s hr_9.lt hs_50
  have hr_9 := hr_9.kept (hk _ hr_9.lt (fun h => h.elim neq_48_q_8 (fun h => absurd h (Nat.not_le.mpr ltq_8))))
  have zq_8 : G_51 q_8 = 0 := gx_0 hw_52 zq_8 neq_48_q_8 ltq_8
  have gq_53 : G_51 q_48 = 7 := hw_52.2
  have hE := hE.step hw_52 szq_48 szshs_50
  have hT : TH E (T0 E) G_51 [] H := hB
  have ha_54 := tg_7 hT gq_53 nx_0
  refine rr_aast (D := DG E) hx hb hK.1 4 6 hr_46 hS (Or.inr szq_4) rfl ha_54 rfl (show vp_in (4) 6 from vp_in_iff.mpr ⟨by decide, by decide⟩) dX1_init_49 (fun H locs hn ho hz hS => ?_)
  have hr_55 : va_at (DG E) vwCl (q_4, .inl (E.2.2 4, 6, .inr (.inr (.inr (.inr (va_up (va_up (va_up (va_up (va_up (fun _ => none) 0 (some q_12)) 1 (some q_21)) 2 (some q_30)) 3 (some q_39)) 4 (some q_48))))))) H := hn
  have hf_6 := af_push hf_6 gq_53
  have hr_10 := hr_10.kept (ho _ neq_4_h0)
  have hr_2 := hr_2.kept (ho _ neq_4_q_1)
  have hr_9 := hr_9.kept (ho _ (Ne.symm neq_8_q_4))
  have hT := hT.off zq_4 ho
  refine lv_iinc (v := 5) (lv' := [(1, .int 5), (0, .ref h0)]) hx hb dX1_init_50 hl (k := 0) rfl (by decide) (by decide) rfl (fun ls hl => ?_)
  refine lv_goto (tgt := 31) hx hb dX1_init_53 (by decide) ?_
  refine lv_iload_n hx hb dX1_init_31 rfl (lv_at hl 0 rfl) ?_
  refine lv_bipush (v := 6) hx hb dX1_init_32 (by decide) ?_
  refine lv_icmp_ge (tgt := 56) hx hb dX1_init_34 (by decide) (fun c_56 => absurd c_56 (by decide)) (fun c_56 => ?_)
  refine lv_aload_n hx hb dX1_init_37 rfl (lv_at hl 1 rfl) ?_
  refine va_get (D := DG E) (ci := 1) (v := .ref q_4) (C := RX1) (T := TX1) (N := 5) hx hb hts iw_X1 hown hK.1 (va_one hr_10) 0 rfl rfl 1 (by decide) (hts _ fl_X1_17) (fun _ h9 => h9) rfl dX1_init_38 ?_
  refine lv_iload_n hx hb dX1_init_41 rfl (lv_at hl 0 rfl) ?_
  have hSo : s.heap.size ≤ _ := hS.1
  refine rr_new (ci := 6) (fs := [.int 0, .int 0, .int 0]) (C := RX6) (T := TX6) (N := 3) hx hb hts iw_X6 tyX6 tyX6_ok hown (hts _ cl_X1_15) (hts _ ia_X6) (hts _ in_X6) hK.1 hS rfl (fun j hj => by rcases (show j = 0 ∨ j = 1 ∨ j = 2 by omega) with rfl | rfl | rfl <;> rfl) (Nat.le_of_ble_eq_true rfl) (Nat.le_of_ble_eq_true rfl) dX1_init_42 (fun q_57 H hq hat hz ho hS => ?_)
  have hr_58 := hat
  have zq_57 := hT.fresh hq
  have neq_57_h0 : h0 ≠ q_57 := ne_q hr_10.lt hq
  have hr_10 := hr_10.kept (ho _ hr_10.lt)
  have neq_57_q_1 : q_1 ≠ q_57 := ne_q hr_2.lt hq
  have hr_2 := hr_2.kept (ho _ hr_2.lt)
  have neq_57_q_4 : q_4 ≠ q_57 := ne_q hr_55.lt hq
  have hr_55 := hr_55.kept (ho _ hr_55.lt)
  have neq_57_q_8 : q_8 ≠ q_57 := ne_q hr_9.lt hq
  have hr_9 := hr_9.kept (ho _ hr_9.lt)
  have szq_57 : sz ≤ q_57 := le_q hsz hSo hq
  have hT := hT.kept ho
  refine lv_dup hx hb dX1_init_45 rfl ?_
  obtain ⟨sz_hs_59, hs_59⟩ : ∃ z, z = H.size := ⟨_, rfl⟩
  have szshs_59 : sz ≤ sz_hs_59 := le_q hsz hS.1 hs_59
  refine va_callv (rnIN (fun H => H.size = sz_hs_59 ∧ va_at (DG E) vwCl (q_57, .inr (6, [.int 0, .int 0, .int 0])) H ∧ TH E (T0 E) G_51 [] H) (As := []) (rest := [.ref q_57, .int 5, .ref q_4]) ⟨hx, hb, hml, hown, hts⟩ (c_X6_init l E z0 G_51 q_57 sz_hs_59  zq_57 (Nat.le_trans hz1 szq_57) (Nat.le_trans hz1 szshs_59) ) ⟨va_cnB (host := RX9) 0 hts (gd1 co_X6_init rfl) rfl rfl rfl (hK.2.1 _ mn_X1_24 #[]) (hts _ in_X6) (by decide +kernel) ⟨Nat.le_of_ble_eq_true rfl, Nat.le_of_ble_eq_true rfl⟩, rfl, hts _ im_X6_init⟩ ⟨hs_59.symm, hr_58, hT⟩ (fun U hU hW => hK.go hW hS hAz hU) rfl rfl hl.1 rfl (lv_room (Nat.le_of_ble_eq_true rfl)) dX1_init_46 ⟨Nat.le_of_ble_eq_true rfl, Nat.le_of_ble_eq_true rfl⟩) hS (fun q _ h => h.elim (fun e => by rw [e]; exact (Or.inr szq_57)) (fun h => Or.inr (Nat.le_trans szshs_59 h))) (fun q h => h.elim (fun e => by rw [e]; exact (Or.inr szq_57)) (fun h => Or.inr (Nat.le_trans szshs_59 h))) (fun G_60 t H locs ht hvm hw hB hz hk hS => ?_)
  have hw_61 := hw
  rw [ht] at hB
  have lth0 : h0 < sz_hs_59 := ltz_s hr_10.lt hs_59
  have hr_10 := hr_10.kept (hk _ hr_10.lt (fun h => h.elim neq_57_h0 (fun h => absurd h (Nat.not_le.mpr lth0))))
  have hG0 : G_60 h0 = 0 := gx_0 hw_61 hG0 neq_57_h0 lth0
  have ltq_1 : q_1 < sz_hs_59 := ltz_s hr_2.lt hs_59
  have hr_2 := hr_2.kept (hk _ hr_2.lt (fun h => h.elim neq_57_q_1 (fun h => absurd h (Nat.not_le.mpr ltq_1))))
  have zq_1 : G_60 q_1 = 0 := gx_0 hw_61 zq_1 neq_57_q_1 ltq_1
  have ltq_4 : q_4 < sz_hs_59 := ltz_s hr_55.lt hs_59
  have hr_55 := hr_55.kept (hk _ hr_55.lt (fun h => h.elim neq_57_q_4 (fun h => absurd h (Nat.not_le.mpr ltq_4))))
  have zq_4 : G_60 q_4 = 0 := gx_0 hw_61 zq_4 neq_57_q_4 ltq_4
  have hf_6 := af_x hw_61 (by decide) hf_6
  have ltq_8 : q_8 < sz_hs_59 := ltz_s hr_9.lt hs_59
  have hr_9 := hr_9.kept (hk _ hr_9.lt (fun h => h.elim neq_57_q_8 (fun h => absurd h (Nat.not_le.mpr ltq_8))))
  have zq_8 : G_60 q_8 = 0 := gx_0 hw_61 zq_8 neq_57_q_8 ltq_8
  have gq_62 : G_60 q_57 = 7 := hw_61.2
  have hE := hE.step hw_61 szq_57 szshs_59
  have hT : TH E (T0 E) G_60 [] H := hB
  have ha_63 := tg_7 hT gq_62 nx_0
  refine rr_aast (D := DG E) hx hb hK.1 4 6 hr_55 hS (Or.inr szq_4) rfl ha_63 rfl (show vp_in (5) 6 from vp_in_iff.mpr ⟨by decide, by decide⟩) dX1_init_49 (fun H locs hn ho hz hS => ?_)
  have hr_64 : va_at (DG E) vwCl (q_4, .inl (E.2.2 4, 6, .inr (.inr (.inr (.inr (va_up (va_up (va_up (va_up (va_up (va_up (fun _ => none) 0 (some q_12)) 1 (some q_21)) 2 (some q_30)) 3 (some q_39)) 4 (some q_48)) 5 (some q_57))))))) H := hn
  have hf_6 := af_push hf_6 gq_62
  have hr_10 := hr_10.kept (ho _ neq_4_h0)
  have hr_2 := hr_2.kept (ho _ neq_4_q_1)
  have hr_9 := hr_9.kept (ho _ (Ne.symm neq_8_q_4))
  have hT := hT.off zq_4 ho
  refine lv_iinc (v := 6) (lv' := [(1, .int 6), (0, .ref h0)]) hx hb dX1_init_50 hl (k := 0) rfl (by decide) (by decide) rfl (fun ls hl => ?_)
  refine lv_goto (tgt := 31) hx hb dX1_init_53 (by decide) ?_
  refine lv_iload_n hx hb dX1_init_31 rfl (lv_at hl 0 rfl) ?_
  refine lv_bipush (v := 6) hx hb dX1_init_32 (by decide) ?_
  refine lv_icmp_ge (tgt := 56) hx hb dX1_init_34 (by decide) (fun c_65 => ?_) (fun c_65 => absurd c_65 (by decide))
  have hT := hT.add (g := 14) zq_1 (show T0 E (va_up G_60 q_1 14) 14 _ from rfl) hr_2
  have hE := hE.add (g := 14) zq_1 szq_1
  have hG0 := (va_up_ne G_60 14 neq_1_h0).trans hG0
  have zq_4 := (va_up_ne G_60 14 (Ne.symm neq_4_q_1)).trans zq_4
  have hf_6 := af_up (h := q_1) (g := 14) zq_1 (by decide) hf_6
  have zq_8 := (va_up_ne G_60 14 (Ne.symm neq_8_q_1)).trans zq_8
  have gq_67 := va_up_self G_60 q_1 14
  obtain ⟨G_66, eG_66⟩ : ∃ z, z = va_up G_60 q_1 14 := ⟨_, rfl⟩
  rw [← eG_66] at hT hE gq_67 hG0 zq_4 zq_8 hf_6
  have hT := hT.add (g := 6) zq_4 (show T0 E (va_up G_66 q_4 6) 6 _ from ⟨_, rfl, af_up zq_4 (by decide) hf_6⟩) hr_64
  have hE := hE.add (g := 6) zq_4 szq_4
  have gp_69 := up_k (g := 6) gq_67 zq_4 (by decide)
  have hG0 := (va_up_ne G_66 6 neq_4_h0).trans hG0
  have zq_8 := (va_up_ne G_66 6 (Ne.symm neq_8_q_4)).trans zq_8
  have gq_70 := va_up_self G_66 q_4 6
  obtain ⟨G_68, eG_68⟩ : ∃ z, z = va_up G_66 q_4 6 := ⟨_, rfl⟩
  rw [← eG_68] at hT hE gq_70 gp_69 hG0 zq_8
  have hT := hT.add (g := 15) zq_8 (show T0 E (va_up G_68 q_8 15) 15 _ from rfl) hr_9
  have hE := hE.add (g := 15) zq_8 szq_8
  have gp_72 := up_k (g := 15) gp_69 zq_8 (by decide)
  have gp_73 := up_k (g := 15) gq_70 zq_8 (by decide)
  have hG0 := (va_up_ne G_68 15 neq_8_h0).trans hG0
  have gq_74 := va_up_self G_68 q_8 15
  obtain ⟨G_71, eG_71⟩ : ∃ z, z = va_up G_68 q_8 15 := ⟨_, rfl⟩
  rw [← eG_71] at hT hE gq_74 gp_72 gp_73 hG0
  have hT := hT.add (g := 5) hG0 (show T0 E (va_up G_71 h0 5) 5 _ from ⟨q_1, q_4, q_8, rfl, up_k gp_72 hG0 (by decide), up_k gp_73 hG0 (by decide), up_k gq_74 hG0 (by decide)⟩) hr_10
  refine W.widen (k := 9) (n := 136) (Nat.le_of_ble_eq_true rfl) (Nat.le_of_ble_eq_true rfl) ?_
  exact W.vret hx hb hr (fun t ht hW => ⟨⟨_, rfl, hE.fin hG0, by show TH _ _ _ _ t.heap; rw [ht]; exact hT⟩, hS.F ht⟩) hS.2.2 dX1_init_56
theorem dX7_init_0 : decode cX7_init 0 = .ok (.aload_n 0, 1) := by decide +kernel
theorem dX7_init_1 : decode cX7_init 1 = .ok (.invokespecial 3, 3) := by decide +kernel
theorem dX7_init_4 : decode cX7_init 4 = .ok (.aload_n 0, 1) := by decide +kernel
theorem dX7_init_5 : decode cX7_init 5 = .ok (.iload_n 1, 1) := by decide +kernel
theorem dX7_init_6 : decode cX7_init 6 = .ok (.invokestatic 9, 3) := by decide +kernel
theorem dX7_init_9 : decode cX7_init 9 = .ok (.putfield 13, 3) := by decide +kernel
theorem dX7_init_12 : decode cX7_init 12 = .ok (.aload_n 0, 1) := by decide +kernel
theorem dX7_init_13 : decode cX7_init 13 = .ok (.aload_n 2, 1) := by decide +kernel
theorem dX7_init_14 : decode cX7_init 14 = .ok (.putfield 19, 3) := by decide +kernel
theorem dX7_init_17 : decode cX7_init 17 = .ok (.aload_n 0, 1) := by decide +kernel
theorem dX7_init_18 : decode cX7_init 18 = .ok (.aload_n 3, 1) := by decide +kernel
theorem dX7_init_19 : decode cX7_init 19 = .ok (.putfield 23, 3) := by decide +kernel
theorem dX7_init_22 : decode cX7_init 22 = .ok (.aload_n 0, 1) := by decide +kernel
theorem dX7_init_23 : decode cX7_init 23 = .ok (.iload 4, 2) := by decide +kernel
theorem dX7_init_25 : decode cX7_init 25 = .ok (.putfield 27, 3) := by decide +kernel
theorem dX7_init_28 : decode cX7_init 28 = .ok (.aload_n 0, 1) := by decide +kernel
theorem dX7_init_29 : decode cX7_init 29 = .ok (.iload 5, 2) := by decide +kernel
theorem dX7_init_31 : decode cX7_init 31 = .ok (.putfield 30, 3) := by decide +kernel
theorem dX7_init_34 : decode cX7_init 34 = .ok (.aload_n 0, 1) := by decide +kernel
theorem dX7_init_35 : decode cX7_init 35 = .ok (.iload 6, 2) := by decide +kernel
theorem dX7_init_37 : decode cX7_init 37 = .ok (.putfield 33, 3) := by decide +kernel
theorem dX7_init_40 : decode cX7_init 40 = .ok (.aload_n 0, 1) := by decide +kernel
theorem dX7_init_41 : decode cX7_init 41 = .ok (.new 36, 3) := by decide +kernel
theorem dX7_init_44 : decode cX7_init 44 = .ok (.dup, 1) := by decide +kernel
theorem dX7_init_45 : decode cX7_init 45 = .ok (.iload_n 1, 1) := by decide +kernel
theorem dX7_init_46 : decode cX7_init 46 = .ok (.aload_n 2, 1) := by decide +kernel
theorem dX7_init_47 : decode cX7_init 47 = .ok (.invokespecial 38, 3) := by decide +kernel
theorem dX7_init_50 : decode cX7_init 50 = .ok (.putfield 41, 3) := by decide +kernel
theorem dX7_init_53 : decode cX7_init 53 = .ok (.return_, 1) := by decide +kernel
set_option maxHeartbeats 16000000 in
set_option maxRecDepth 100000 in
theorem c_X7_init (l : Launch) (E : EE) (z0 : Nat) (G : Nat → Nat) (h0 sz : Nat) (p0 : Int32) (a0 : Nat) (a1 : Nat) (p1 : Int32) (p2 : Int32) (p3 : Int32) (hG0 : G h0 = 0) (hz0 : z0 ≤ h0) (hz1 : z0 ≤ sz) (ha0 : G a0 = 5) (ha1 : G a1 = 4) (hb0 : 0 ≤ p0.toInt ∧ p0.toInt ≤ 3) : Met l yX7_init [Cond.code yX7_init cX7_init 7 none] ({ frames := 3, cells := 6, slots := 50, locals := 63 } : Room) (va_Pc [.ref h0, .int p0, .ref a0, .ref a1, .int p1, .int p2, .int p3] (fun U => (U.heap.size = sz ∧ va_at (DG E) vwCl (h0, .inr (7, [.int 0, .null, .null, .int 0, .int 0, .int 0, .null, .int 0, .int 0, .int 0, .int 0, .int 0, .int 0, .int 0])) U.heap ∧ TH E (T0 E) G [] U.heap) ∧ KS E z0 U)) (va_Qv (fun (G1 : Nat → Nat) => GX G G1 h0 9 sz) (fun G1 t => TH E (T0 E) G1 [] t.heap) (AC h0 sz)) 6 50 (AC h0 sz) := by
  refine Met.ofW (cc := cX7_init) (maxL := 7) (ret := none) (by decide) rfl ?_
  intro p e s m args below meth c s₁ B hml hv
  obtain ⟨rfl, ⟨hsz, hr0, hT⟩, hK⟩ := hv
  have hx := B.exec
  have hb := B.bytes
  have hr := B.returns
  have hts : ∀ w ∈ TS, w.before ([.ref h0, .int p0, .ref a0, .ref a1, .int p1, .int p2, .int p3] : List Value).toArray s = true := fun w hw => hK.2.1 w hw _
  have hown : s.vm.findClass RX7 = some m.cls := findClass_of_methodNamed B.named
  have hlocks := B.notSynchronized
  have hin : meth.name = "<init>" := (name_of_methodNamed B.named B.method).1
  have hS : va_S (AC h0 sz) s.heap s.heap [] := va_S.rf
  have hAz : ∀ q, AC h0 sz q → z0 ≤ q := fun q h => h.elim (fun e => by omega) (fun e => by omega)
  have hE : GE G G h0 sz := GE.rf
  have hlt0 : h0 < sz := by have h9 := hr0.lt; have h8 : h0 < _ := h9; omega
  obtain ⟨H, eH⟩ : ∃ H, H = s.heap := ⟨_, rfl⟩
  rw [← eH] at hr0 hT
  have hS : va_S (AC h0 sz) s.heap H [] := by rw [eH]; exact hS
  rw [← eH]
  have hsz : s.heap.size = sz := hsz
  have hl := lv_entry ([.ref h0, .int p0, .ref a0, .ref a1, .int p1, .int p2, .int p3]) (n := 7) (Nat.le_of_ble_eq_true rfl)
  rw [lg_entry_eq]
  generalize (lg_sl ([.ref h0, .int p0, .ref a0, .ref a1, .int p1, .int p2, .int p3]) ++ List.replicate (7 - (lg_sl ([.ref h0, .int p0, .ref a0, .ref a1, .int p1, .int p2, .int p3])).length) Slot.unset).toArray = ls at hl ⊢
  have hl : lv_has ls 7 [(0, .ref h0), (1, .int p0), (2, .ref a0), (3, .ref a1), (4, .int p1), (5, .int p2), (6, .int p3)] := hl
  refine lv_aload_n hx hb dX7_init_0 rfl (lv_at hl 0 rfl) ?_
  refine W.objInit hx hb hown (hts _ ml_X7_3) (hts _ im_Object__init_) (hts _ co_Object__init_) rfl (by rw [hml]; exact hl.1) rfl dX7_init_1 (Nat.le_of_ble_eq_true rfl) (Nat.le_of_ble_eq_true rfl) ?_
  refine W.eq (g2 := F0 m 4 ls []) rfl ?_
  refine lv_aload_n hx hb dX7_init_4 rfl (lv_at hl 0 rfl) ?_
  refine lv_iload_n hx hb dX7_init_5 rfl (lv_at hl 1 rfl) ?_
  refine rnSN (As := [.int p0]) (rest := [.ref h0]) ⟨hx, hb, hml, hown, hts⟩ (c_X9_peerOf l p0) ⟨va_cnB (host := RX9) 1 hts (gd1 co_X9_peerOf rfl) rfl rfl rfl (hK.2.1 _ mn_X7_9 #[]) (hts _ in_X9) (by decide +kernel) ⟨Nat.le_of_ble_eq_true rfl, Nat.le_of_ble_eq_true rfl⟩, hts _ st_X9_peerOf, trivial⟩ rfl rfl hl.1 rfl (lv_room (Nat.le_of_ble_eq_true rfl)) dX7_init_6 ⟨Nat.le_of_ble_eq_true rfl, Nat.le_of_ble_eq_true rfl⟩ ?_
  refine W.eq (g2 := F0 m 9 ls [.int (p0 ^^^ 1), .ref h0]) (by rfl) ?_
  refine rr_putF (D := DG E) (ci := 7) (v := .int (p0 ^^^ 1)) (ty := .int) (C := RX7) (T := TX7) (N := 14) hx hb hts iw_X7 tyX7 tyX7_ok nmX7 hown hK.1 hr0 hS (Or.inl rfl) rfl 0 (by decide) (hts _ fl_X7_13) (fun _ h9 => h9) rfl hin rfl (by decide +kernel) rfl rfl (Nat.le_of_ble_eq_true rfl) dX7_init_9 (fun H locs hn ho hz hS => ?_)
  have hr_1 : va_at (DG E) vwCl (h0, .inr (7, [.int (p0 ^^^ 1), .null, .null, .int 0, .int 0, .int 0, .null, .int 0, .int 0, .int 0, .int 0, .int 0, .int 0, .int 0])) H := hn
  have hT := hT.off hG0 ho
  refine lv_aload_n hx hb dX7_init_12 rfl (lv_at hl 0 rfl) ?_
  refine lv_aload_n hx hb dX7_init_13 rfl (lv_at hl 2 rfl) ?_
  refine rr_putF (D := DG E) (ci := 7) (v := .ref a0) (ty := .object "RemoteReach$Node") (C := RX7) (T := TX7) (N := 14) hx hb hts iw_X7 tyX7 tyX7_ok nmX7 hown hK.1 hr_1 hS (Or.inl rfl) rfl 1 (by decide) (hts _ fl_X7_19) (fun _ h9 => h9) rfl hin rfl (by decide +kernel) rfl rfl (Nat.le_of_ble_eq_true rfl) dX7_init_14 (fun H locs hn ho hz hS => ?_)
  have hr_2 : va_at (DG E) vwCl (h0, .inr (7, [.int (p0 ^^^ 1), .ref a0, .null, .int 0, .int 0, .int 0, .null, .int 0, .int 0, .int 0, .int 0, .int 0, .int 0, .int 0])) H := hn
  have hT := hT.off hG0 ho
  refine lv_aload_n hx hb dX7_init_17 rfl (lv_at hl 0 rfl) ?_
  refine lv_aload_n hx hb dX7_init_18 rfl (lv_at hl 3 rfl) ?_
  refine rr_putF (D := DG E) (ci := 7) (v := .ref a1) (ty := .object "RemoteReach$Fabric") (C := RX7) (T := TX7) (N := 14) hx hb hts iw_X7 tyX7 tyX7_ok nmX7 hown hK.1 hr_2 hS (Or.inl rfl) rfl 2 (by decide) (hts _ fl_X7_23) (fun _ h9 => h9) rfl hin rfl (by decide +kernel) rfl rfl (Nat.le_of_ble_eq_true rfl) dX7_init_19 (fun H locs hn ho hz hS => ?_)
  have hr_3 : va_at (DG E) vwCl (h0, .inr (7, [.int (p0 ^^^ 1), .ref a0, .ref a1, .int 0, .int 0, .int 0, .null, .int 0, .int 0, .int 0, .int 0, .int 0, .int 0, .int 0])) H := hn
  have hT := hT.off hG0 ho
  refine lv_aload_n hx hb dX7_init_22 rfl (lv_at hl 0 rfl) ?_
  refine lv_iload hx hb dX7_init_23 (lv_at hl 4 rfl) ?_
  refine rr_putF (D := DG E) (ci := 7) (v := .int p1) (ty := .int) (C := RX7) (T := TX7) (N := 14) hx hb hts iw_X7 tyX7 tyX7_ok nmX7 hown hK.1 hr_3 hS (Or.inl rfl) rfl 3 (by decide) (hts _ fl_X7_27) (fun _ h9 => h9) rfl hin rfl (by decide +kernel) rfl rfl (Nat.le_of_ble_eq_true rfl) dX7_init_25 (fun H locs hn ho hz hS => ?_)
  have hr_4 : va_at (DG E) vwCl (h0, .inr (7, [.int (p0 ^^^ 1), .ref a0, .ref a1, .int p1, .int 0, .int 0, .null, .int 0, .int 0, .int 0, .int 0, .int 0, .int 0, .int 0])) H := hn
  have hT := hT.off hG0 ho
  refine lv_aload_n hx hb dX7_init_28 rfl (lv_at hl 0 rfl) ?_
  refine lv_iload hx hb dX7_init_29 (lv_at hl 5 rfl) ?_
  refine rr_putF (D := DG E) (ci := 7) (v := .int p2) (ty := .int) (C := RX7) (T := TX7) (N := 14) hx hb hts iw_X7 tyX7 tyX7_ok nmX7 hown hK.1 hr_4 hS (Or.inl rfl) rfl 4 (by decide) (hts _ fl_X7_30) (fun _ h9 => h9) rfl hin rfl (by decide +kernel) rfl rfl (Nat.le_of_ble_eq_true rfl) dX7_init_31 (fun H locs hn ho hz hS => ?_)
  have hr_5 : va_at (DG E) vwCl (h0, .inr (7, [.int (p0 ^^^ 1), .ref a0, .ref a1, .int p1, .int p2, .int 0, .null, .int 0, .int 0, .int 0, .int 0, .int 0, .int 0, .int 0])) H := hn
  have hT := hT.off hG0 ho
  refine lv_aload_n hx hb dX7_init_34 rfl (lv_at hl 0 rfl) ?_
  refine lv_iload hx hb dX7_init_35 (lv_at hl 6 rfl) ?_
  refine rr_putF (D := DG E) (ci := 7) (v := .int p3) (ty := .int) (C := RX7) (T := TX7) (N := 14) hx hb hts iw_X7 tyX7 tyX7_ok nmX7 hown hK.1 hr_5 hS (Or.inl rfl) rfl 5 (by decide) (hts _ fl_X7_33) (fun _ h9 => h9) rfl hin rfl (by decide +kernel) rfl rfl (Nat.le_of_ble_eq_true rfl) dX7_init_37 (fun H locs hn ho hz hS => ?_)
  have hr_6 : va_at (DG E) vwCl (h0, .inr (7, [.int (p0 ^^^ 1), .ref a0, .ref a1, .int p1, .int p2, .int p3, .null, .int 0, .int 0, .int 0, .int 0, .int 0, .int 0, .int 0])) H := hn
  have hT := hT.off hG0 ho
  refine lv_aload_n hx hb dX7_init_40 rfl (lv_at hl 0 rfl) ?_
  have hSo : s.heap.size ≤ _ := hS.1
  refine rr_new (ci := 5) (fs := [.int 0, .null, .null, .int 0, .int 0, .int 0]) (C := RX5) (T := TX5) (N := 6) hx hb hts iw_X5 tyX5 tyX5_ok hown (hts _ cl_X7_36) (hts _ ia_X5) (hts _ in_X5) hK.1 hS rfl (fun j hj => by rcases (show j = 0 ∨ j = 1 ∨ j = 2 ∨ j = 3 ∨ j = 4 ∨ j = 5 by omega) with rfl | rfl | rfl | rfl | rfl | rfl <;> rfl) (Nat.le_of_ble_eq_true rfl) (Nat.le_of_ble_eq_true rfl) dX7_init_41 (fun q_7 H hq hat hz ho hS => ?_)
  have hr_8 := hat
  have zq_7 := hT.fresh hq
  have neq_7_h0 : h0 ≠ q_7 := ne_q hr_6.lt hq
  have hr_6 := hr_6.kept (ho _ hr_6.lt)
  have szq_7 : sz ≤ q_7 := le_q hsz hSo hq
  have hT := hT.kept ho
  refine lv_dup hx hb dX7_init_44 rfl ?_
  refine lv_iload_n hx hb dX7_init_45 rfl (lv_at hl 1 rfl) ?_
  refine lv_aload_n hx hb dX7_init_46 rfl (lv_at hl 2 rfl) ?_
  obtain ⟨sz_hs_9, hs_9⟩ : ∃ z, z = H.size := ⟨_, rfl⟩
  have szshs_9 : sz ≤ sz_hs_9 := le_q hsz hS.1 hs_9
  refine va_callv (rnI (fun H => H.size = sz_hs_9 ∧ va_at (DG E) vwCl (q_7, .inr (5, [.int 0, .null, .null, .int 0, .int 0, .int 0])) H ∧ TH E (T0 E) G [] H) (As := [.int p0, .ref a0]) (rest := [.ref q_7, .ref h0]) ⟨hx, hb, hml, hown, hts⟩ (c_X5_init l E z0 G q_7 sz_hs_9 p0 a0 zq_7 (Nat.le_trans hz1 szq_7) (Nat.le_trans hz1 szshs_9) ha0) (cwI 2 hts (gd1 co_X5_init rfl) rfl rfl rfl (hts _ in_X5) (hts _ ml_X7_38) (hts _ im_X5_init) rfl (by decide +kernel) ⟨Nat.le_of_ble_eq_true rfl, Nat.le_of_ble_eq_true rfl⟩) ⟨hs_9.symm, hr_8, hT⟩ (fun U hU hW => hK.go hW hS hAz hU) rfl rfl hl.1 rfl (lv_room (Nat.le_of_ble_eq_true rfl)) dX7_init_47 ⟨Nat.le_of_ble_eq_true rfl, Nat.le_of_ble_eq_true rfl⟩) hS (fun q _ h => h.elim (fun e => by rw [e]; exact (Or.inr szq_7)) (fun h => Or.inr (Nat.le_trans szshs_9 h))) (fun q h => h.elim (fun e => by rw [e]; exact (Or.inr szq_7)) (fun h => Or.inr (Nat.le_trans szshs_9 h))) (fun G_10 t H locs ht hvm hw hB hz hk hS => ?_)
  have hw_11 := hw
  rw [ht] at hB
  have lth0 : h0 < sz_hs_9 := ltz_s hr_6.lt hs_9
  have hr_6 := hr_6.kept (hk _ hr_6.lt (fun h => h.elim neq_7_h0 (fun h => absurd h (Nat.not_le.mpr lth0))))
  have hG0 : G_10 h0 = 0 := gx_0 hw_11 hG0 neq_7_h0 lth0
  have gp_12 : G_10 a0 = 5 := gx_k hw_11 ha0 (by decide)
  have gp_13 : G_10 a1 = 4 := gx_k hw_11 ha1 (by decide)
  have gq_14 : G_10 q_7 = 11 := hw_11.2
  have hE := hE.step hw_11 szq_7 szshs_9
  have hT : TH E (T0 E) G_10 [] H := hB
  refine rr_putF (D := DG E) (ci := 7) (v := .ref q_7) (ty := .object "RemoteReach$Queue") (C := RX7) (T := TX7) (N := 14) hx hb hts iw_X7 tyX7 tyX7_ok nmX7 hown hK.1 hr_6 hS (Or.inl rfl) rfl 6 (by decide) (hts _ fl_X7_41) (fun _ h9 => h9) rfl hin rfl (by decide +kernel) rfl rfl (Nat.le_of_ble_eq_true rfl) dX7_init_50 (fun H locs hn ho hz hS => ?_)
  have hr_15 : va_at (DG E) vwCl (h0, .inr (7, [.int (p0 ^^^ 1), .ref a0, .ref a1, .int p1, .int p2, .int p3, .ref q_7, .int 0, .int 0, .int 0, .int 0, .int 0, .int 0, .int 0])) H := hn
  have hT := hT.off hG0 ho
  have hT := hT.add (g := 9) hG0 (show T0 E (va_up G_10 h0 9) 9 _ from ⟨p0 ^^^ 1, a0, a1, p1, p2, p3, q_7, rfl, up_k gp_12 hG0 (by decide), up_k gp_13 hG0 (by decide), up_k gq_14 hG0 (by decide), xor1_b hb0⟩) hr_15
  refine W.widen (k := 6) (n := 50) (Nat.le_of_ble_eq_true rfl) (Nat.le_of_ble_eq_true rfl) ?_
  exact W.vret hx hb hr (fun t ht hW => ⟨⟨_, rfl, hE.fin hG0, by show TH _ _ _ _ t.heap; rw [ht]; exact hT⟩, hS.F ht⟩) hS.2.2 dX7_init_53
theorem dX8_init_0 : decode cX8_init 0 = .ok (.aload_n 0, 1) := by decide +kernel
theorem dX8_init_1 : decode cX8_init 1 = .ok (.invokespecial 3, 3) := by decide +kernel
theorem dX8_init_4 : decode cX8_init 4 = .ok (.aload_n 0, 1) := by decide +kernel
theorem dX8_init_5 : decode cX8_init 5 = .ok (.iconst 2, 1) := by decide +kernel
theorem dX8_init_6 : decode cX8_init 6 = .ok (.newarray .int, 2) := by decide +kernel
theorem dX8_init_8 : decode cX8_init 8 = .ok (.putfield 9, 3) := by decide +kernel
theorem dX8_init_11 : decode cX8_init 11 = .ok (.aload_n 0, 1) := by decide +kernel
theorem dX8_init_12 : decode cX8_init 12 = .ok (.iconst 2, 1) := by decide +kernel
theorem dX8_init_13 : decode cX8_init 13 = .ok (.newarray .int, 2) := by decide +kernel
theorem dX8_init_15 : decode cX8_init 15 = .ok (.putfield 15, 3) := by decide +kernel
theorem dX8_init_18 : decode cX8_init 18 = .ok (.aload_n 0, 1) := by decide +kernel
theorem dX8_init_19 : decode cX8_init 19 = .ok (.iload_n 1, 1) := by decide +kernel
theorem dX8_init_20 : decode cX8_init 20 = .ok (.invokestatic 18, 3) := by decide +kernel
theorem dX8_init_23 : decode cX8_init 23 = .ok (.putfield 22, 3) := by decide +kernel
theorem dX8_init_26 : decode cX8_init 26 = .ok (.aload_n 0, 1) := by decide +kernel
theorem dX8_init_27 : decode cX8_init 27 = .ok (.aload_n 2, 1) := by decide +kernel
theorem dX8_init_28 : decode cX8_init 28 = .ok (.putfield 26, 3) := by decide +kernel
theorem dX8_init_31 : decode cX8_init 31 = .ok (.aload_n 0, 1) := by decide +kernel
theorem dX8_init_32 : decode cX8_init 32 = .ok (.aload_n 3, 1) := by decide +kernel
theorem dX8_init_33 : decode cX8_init 33 = .ok (.putfield 30, 3) := by decide +kernel
theorem dX8_init_36 : decode cX8_init 36 = .ok (.aload_n 0, 1) := by decide +kernel
theorem dX8_init_37 : decode cX8_init 37 = .ok (.new 34, 3) := by decide +kernel
theorem dX8_init_40 : decode cX8_init 40 = .ok (.dup, 1) := by decide +kernel
theorem dX8_init_41 : decode cX8_init 41 = .ok (.iload_n 1, 1) := by decide +kernel
theorem dX8_init_42 : decode cX8_init 42 = .ok (.aload_n 2, 1) := by decide +kernel
theorem dX8_init_43 : decode cX8_init 43 = .ok (.invokespecial 36, 3) := by decide +kernel
theorem dX8_init_46 : decode cX8_init 46 = .ok (.putfield 39, 3) := by decide +kernel
theorem dX8_init_49 : decode cX8_init 49 = .ok (.aload_n 0, 1) := by decide +kernel
theorem dX8_init_50 : decode cX8_init 50 = .ok (.invokevirtual 43, 3) := by decide +kernel
theorem dX8_init_53 : decode cX8_init 53 = .ok (.return_, 1) := by decide +kernel
set_option maxHeartbeats 16000000 in
set_option maxRecDepth 100000 in
theorem c_X8_init (l : Launch) (E : EE) (z0 : Nat) (G : Nat → Nat) (h0 sz : Nat) (p0 : Int32) (a0 : Nat) (a1 : Nat) (hG0 : G h0 = 0) (hz0 : z0 ≤ h0) (hz1 : z0 ≤ sz) (ha0 : G a0 = 5) (ha1 : G a1 = 4) (hb0 : 0 ≤ p0.toInt ∧ p0.toInt ≤ 3) : Met l yX8_init [Cond.code yX8_init cX8_init 4 none] ({ frames := 3, cells := 8, slots := 54, locals := 63 } : Room) (va_Pc [.ref h0, .int p0, .ref a0, .ref a1] (fun U => (U.heap.size = sz ∧ va_at (DG E) vwCl (h0, .inr (8, [.int 0, .null, .null, .null, .int 0, .int 0, .int 0, .null, .null])) U.heap ∧ TH E (T0 E) G [] U.heap) ∧ KS E z0 U)) (va_Qv (fun (G1 : Nat → Nat) => GX G G1 h0 10 sz) (fun G1 t => TH E (T0 E) G1 [] t.heap) (AC h0 sz)) 8 54 (AC h0 sz) := by
  refine Met.ofW (cc := cX8_init) (maxL := 4) (ret := none) (by decide) rfl ?_
  intro p e s m args below meth c s₁ B hml hv
  obtain ⟨rfl, ⟨hsz, hr0, hT⟩, hK⟩ := hv
  have hx := B.exec
  have hb := B.bytes
  have hr := B.returns
  have hts : ∀ w ∈ TS, w.before ([.ref h0, .int p0, .ref a0, .ref a1] : List Value).toArray s = true := fun w hw => hK.2.1 w hw _
  have hown : s.vm.findClass RX8 = some m.cls := findClass_of_methodNamed B.named
  have hlocks := B.notSynchronized
  have hin : meth.name = "<init>" := (name_of_methodNamed B.named B.method).1
  have hS : va_S (AC h0 sz) s.heap s.heap [] := va_S.rf
  have hAz : ∀ q, AC h0 sz q → z0 ≤ q := fun q h => h.elim (fun e => by omega) (fun e => by omega)
  have hE : GE G G h0 sz := GE.rf
  have hlt0 : h0 < sz := by have h9 := hr0.lt; have h8 : h0 < _ := h9; omega
  obtain ⟨H, eH⟩ : ∃ H, H = s.heap := ⟨_, rfl⟩
  rw [← eH] at hr0 hT
  have hS : va_S (AC h0 sz) s.heap H [] := by rw [eH]; exact hS
  rw [← eH]
  have hsz : s.heap.size = sz := hsz
  have hl := lv_entry ([.ref h0, .int p0, .ref a0, .ref a1]) (n := 4) (Nat.le_of_ble_eq_true rfl)
  rw [lg_entry_eq]
  generalize (lg_sl ([.ref h0, .int p0, .ref a0, .ref a1]) ++ List.replicate (4 - (lg_sl ([.ref h0, .int p0, .ref a0, .ref a1])).length) Slot.unset).toArray = ls at hl ⊢
  have hl : lv_has ls 4 [(0, .ref h0), (1, .int p0), (2, .ref a0), (3, .ref a1)] := hl
  refine lv_aload_n hx hb dX8_init_0 rfl (lv_at hl 0 rfl) ?_
  refine W.objInit hx hb hown (hts _ ml_X8_3) (hts _ im_Object__init_) (hts _ co_Object__init_) rfl (by rw [hml]; exact hl.1) rfl dX8_init_1 (Nat.le_of_ble_eq_true rfl) (Nat.le_of_ble_eq_true rfl) ?_
  refine W.eq (g2 := F0 m 4 ls []) rfl ?_
  refine lv_aload_n hx hb dX8_init_4 rfl (lv_at hl 0 rfl) ?_
  refine lv_iconst (v := 2) hx hb dX8_init_5 (by decide) ?_
  have hSo : s.heap.size ≤ _ := hS.1
  refine rr_newa (D := DG E) (atype := .int) (N' := 2) (a0 := (2, .inl (fun _ => 0))) hx hb (hts _ ac_int) hK.1 0 rfl hS rfl (by decide) (by decide) (by decide) (Nat.le_of_ble_eq_true rfl) (Nat.le_of_ble_eq_true rfl) dX8_init_6 (fun q_1 H hq hat hz ho hS => ?_)
  have hr_2 := hat
  have zq_1 := hT.fresh hq
  have neq_1_h0 : h0 ≠ q_1 := ne_q hr0.lt hq
  have hr0 := hr0.kept (ho _ hr0.lt)
  have szq_1 : sz ≤ q_1 := le_q hsz hSo hq
  have hT := hT.kept ho
  refine rr_putF (D := DG E) (ci := 8) (v := .ref q_1) (ty := .array .int) (C := RX8) (T := TX8) (N := 9) hx hb hts iw_X8 tyX8 tyX8_ok nmX8 hown hK.1 hr0 hS (Or.inl rfl) rfl 7 (by decide) (hts _ fl_X8_9) (fun _ h9 => h9) rfl hin rfl (by decide +kernel) rfl rfl (Nat.le_of_ble_eq_true rfl) dX8_init_8 (fun H locs hn ho hz hS => ?_)
  have hr_3 : va_at (DG E) vwCl (h0, .inr (8, [.int 0, .null, .null, .null, .int 0, .int 0, .int 0, .ref q_1, .null])) H := hn
  have hr_2 := hr_2.kept (ho _ (Ne.symm neq_1_h0))
  have hT := hT.off hG0 ho
  refine lv_aload_n hx hb dX8_init_11 rfl (lv_at hl 0 rfl) ?_
  refine lv_iconst (v := 2) hx hb dX8_init_12 (by decide) ?_
  have hSo : s.heap.size ≤ _ := hS.1
  refine rr_newa (D := DG E) (atype := .int) (N' := 2) (a0 := (2, .inl (fun _ => 0))) hx hb (hts _ ac_int) hK.1 0 rfl hS rfl (by decide) (by decide) (by decide) (Nat.le_of_ble_eq_true rfl) (Nat.le_of_ble_eq_true rfl) dX8_init_13 (fun q_4 H hq hat hz ho hS => ?_)
  have hr_5 := hat
  have zq_4 := hT.fresh hq
  have neq_4_h0 : h0 ≠ q_4 := ne_q hr_3.lt hq
  have hr_3 := hr_3.kept (ho _ hr_3.lt)
  have neq_4_q_1 : q_1 ≠ q_4 := ne_q hr_2.lt hq
  have hr_2 := hr_2.kept (ho _ hr_2.lt)
  have szq_4 : sz ≤ q_4 := le_q hsz hSo hq
  have hT := hT.kept ho
  refine rr_putF (D := DG E) (ci := 8) (v := .ref q_4) (ty := .array .int) (C := RX8) (T := TX8) (N := 9) hx hb hts iw_X8 tyX8 tyX8_ok nmX8 hown hK.1 hr_3 hS (Or.inl rfl) rfl 8 (by decide) (hts _ fl_X8_15) (fun _ h9 => h9) rfl hin rfl (by decide +kernel) rfl rfl (Nat.le_of_ble_eq_true rfl) dX8_init_15 (fun H locs hn ho hz hS => ?_)
  have hr_6 : va_at (DG E) vwCl (h0, .inr (8, [.int 0, .null, .null, .null, .int 0, .int 0, .int 0, .ref q_1, .ref q_4])) H := hn
  have hr_2 := hr_2.kept (ho _ (Ne.symm neq_1_h0))
  have hr_5 := hr_5.kept (ho _ (Ne.symm neq_4_h0))
  have hT := hT.off hG0 ho
  refine lv_aload_n hx hb dX8_init_18 rfl (lv_at hl 0 rfl) ?_
  refine lv_iload_n hx hb dX8_init_19 rfl (lv_at hl 1 rfl) ?_
  refine rnSN (As := [.int p0]) (rest := [.ref h0]) ⟨hx, hb, hml, hown, hts⟩ (c_X9_peerOf l p0) ⟨va_cnB (host := RX9) 1 hts (gd1 co_X9_peerOf rfl) rfl rfl rfl (hK.2.1 _ mn_X8_18 #[]) (hts _ in_X9) (by decide +kernel) ⟨Nat.le_of_ble_eq_true rfl, Nat.le_of_ble_eq_true rfl⟩, hts _ st_X9_peerOf, trivial⟩ rfl rfl hl.1 rfl (lv_room (Nat.le_of_ble_eq_true rfl)) dX8_init_20 ⟨Nat.le_of_ble_eq_true rfl, Nat.le_of_ble_eq_true rfl⟩ ?_
  refine W.eq (g2 := F0 m 23 ls [.int (p0 ^^^ 1), .ref h0]) (by rfl) ?_
  refine rr_putF (D := DG E) (ci := 8) (v := .int (p0 ^^^ 1)) (ty := .int) (C := RX8) (T := TX8) (N := 9) hx hb hts iw_X8 tyX8 tyX8_ok nmX8 hown hK.1 hr_6 hS (Or.inl rfl) rfl 0 (by decide) (hts _ fl_X8_22) (fun _ h9 => h9) rfl hin rfl (by decide +kernel) rfl rfl (Nat.le_of_ble_eq_true rfl) dX8_init_23 (fun H locs hn ho hz hS => ?_)
  have hr_7 : va_at (DG E) vwCl (h0, .inr (8, [.int (p0 ^^^ 1), .null, .null, .null, .int 0, .int 0, .int 0, .ref q_1, .ref q_4])) H := hn
  have hr_2 := hr_2.kept (ho _ (Ne.symm neq_1_h0))
  have hr_5 := hr_5.kept (ho _ (Ne.symm neq_4_h0))
  have hT := hT.off hG0 ho
  refine lv_aload_n hx hb dX8_init_26 rfl (lv_at hl 0 rfl) ?_
  refine lv_aload_n hx hb dX8_init_27 rfl (lv_at hl 2 rfl) ?_
  refine rr_putF (D := DG E) (ci := 8) (v := .ref a0) (ty := .object "RemoteReach$Node") (C := RX8) (T := TX8) (N := 9) hx hb hts iw_X8 tyX8 tyX8_ok nmX8 hown hK.1 hr_7 hS (Or.inl rfl) rfl 1 (by decide) (hts _ fl_X8_26) (fun _ h9 => h9) rfl hin rfl (by decide +kernel) rfl rfl (Nat.le_of_ble_eq_true rfl) dX8_init_28 (fun H locs hn ho hz hS => ?_)
  have hr_8 : va_at (DG E) vwCl (h0, .inr (8, [.int (p0 ^^^ 1), .ref a0, .null, .null, .int 0, .int 0, .int 0, .ref q_1, .ref q_4])) H := hn
  have hr_2 := hr_2.kept (ho _ (Ne.symm neq_1_h0))
  have hr_5 := hr_5.kept (ho _ (Ne.symm neq_4_h0))
  have hT := hT.off hG0 ho
  refine lv_aload_n hx hb dX8_init_31 rfl (lv_at hl 0 rfl) ?_
  refine lv_aload_n hx hb dX8_init_32 rfl (lv_at hl 3 rfl) ?_
  refine rr_putF (D := DG E) (ci := 8) (v := .ref a1) (ty := .object "RemoteReach$Fabric") (C := RX8) (T := TX8) (N := 9) hx hb hts iw_X8 tyX8 tyX8_ok nmX8 hown hK.1 hr_8 hS (Or.inl rfl) rfl 2 (by decide) (hts _ fl_X8_30) (fun _ h9 => h9) rfl hin rfl (by decide +kernel) rfl rfl (Nat.le_of_ble_eq_true rfl) dX8_init_33 (fun H locs hn ho hz hS => ?_)
  have hr_9 : va_at (DG E) vwCl (h0, .inr (8, [.int (p0 ^^^ 1), .ref a0, .ref a1, .null, .int 0, .int 0, .int 0, .ref q_1, .ref q_4])) H := hn
  have hr_2 := hr_2.kept (ho _ (Ne.symm neq_1_h0))
  have hr_5 := hr_5.kept (ho _ (Ne.symm neq_4_h0))
  have hT := hT.off hG0 ho
  refine lv_aload_n hx hb dX8_init_36 rfl (lv_at hl 0 rfl) ?_
  have hSo : s.heap.size ≤ _ := hS.1
  refine rr_new (ci := 5) (fs := [.int 0, .null, .null, .int 0, .int 0, .int 0]) (C := RX5) (T := TX5) (N := 6) hx hb hts iw_X5 tyX5 tyX5_ok hown (hts _ cl_X8_34) (hts _ ia_X5) (hts _ in_X5) hK.1 hS rfl (fun j hj => by rcases (show j = 0 ∨ j = 1 ∨ j = 2 ∨ j = 3 ∨ j = 4 ∨ j = 5 by omega) with rfl | rfl | rfl | rfl | rfl | rfl <;> rfl) (Nat.le_of_ble_eq_true rfl) (Nat.le_of_ble_eq_true rfl) dX8_init_37 (fun q_10 H hq hat hz ho hS => ?_)
  have hr_11 := hat
  have zq_10 := hT.fresh hq
  have neq_10_h0 : h0 ≠ q_10 := ne_q hr_9.lt hq
  have hr_9 := hr_9.kept (ho _ hr_9.lt)
  have neq_10_q_1 : q_1 ≠ q_10 := ne_q hr_2.lt hq
  have hr_2 := hr_2.kept (ho _ hr_2.lt)
  have neq_10_q_4 : q_4 ≠ q_10 := ne_q hr_5.lt hq
  have hr_5 := hr_5.kept (ho _ hr_5.lt)
  have szq_10 : sz ≤ q_10 := le_q hsz hSo hq
  have hT := hT.kept ho
  refine lv_dup hx hb dX8_init_40 rfl ?_
  refine lv_iload_n hx hb dX8_init_41 rfl (lv_at hl 1 rfl) ?_
  refine lv_aload_n hx hb dX8_init_42 rfl (lv_at hl 2 rfl) ?_
  obtain ⟨sz_hs_12, hs_12⟩ : ∃ z, z = H.size := ⟨_, rfl⟩
  have szshs_12 : sz ≤ sz_hs_12 := le_q hsz hS.1 hs_12
  refine va_callv (rnI (fun H => H.size = sz_hs_12 ∧ va_at (DG E) vwCl (q_10, .inr (5, [.int 0, .null, .null, .int 0, .int 0, .int 0])) H ∧ TH E (T0 E) G [] H) (As := [.int p0, .ref a0]) (rest := [.ref q_10, .ref h0]) ⟨hx, hb, hml, hown, hts⟩ (c_X5_init l E z0 G q_10 sz_hs_12 p0 a0 zq_10 (Nat.le_trans hz1 szq_10) (Nat.le_trans hz1 szshs_12) ha0) (cwI 2 hts (gd1 co_X5_init rfl) rfl rfl rfl (hts _ in_X5) (hts _ ml_X8_36) (hts _ im_X5_init) rfl (by decide +kernel) ⟨Nat.le_of_ble_eq_true rfl, Nat.le_of_ble_eq_true rfl⟩) ⟨hs_12.symm, hr_11, hT⟩ (fun U hU hW => hK.go hW hS hAz hU) rfl rfl hl.1 rfl (lv_room (Nat.le_of_ble_eq_true rfl)) dX8_init_43 ⟨Nat.le_of_ble_eq_true rfl, Nat.le_of_ble_eq_true rfl⟩) hS (fun q _ h => h.elim (fun e => by rw [e]; exact (Or.inr szq_10)) (fun h => Or.inr (Nat.le_trans szshs_12 h))) (fun q h => h.elim (fun e => by rw [e]; exact (Or.inr szq_10)) (fun h => Or.inr (Nat.le_trans szshs_12 h))) (fun G_13 t H locs ht hvm hw hB hz hk hS => ?_)
  have hw_14 := hw
  rw [ht] at hB
  have lth0 : h0 < sz_hs_12 := ltz_s hr_9.lt hs_12
  have hr_9 := hr_9.kept (hk _ hr_9.lt (fun h => h.elim neq_10_h0 (fun h => absurd h (Nat.not_le.mpr lth0))))
  have hG0 : G_13 h0 = 0 := gx_0 hw_14 hG0 neq_10_h0 lth0
  have ltq_1 : q_1 < sz_hs_12 := ltz_s hr_2.lt hs_12
  have hr_2 := hr_2.kept (hk _ hr_2.lt (fun h => h.elim neq_10_q_1 (fun h => absurd h (Nat.not_le.mpr ltq_1))))
  have zq_1 : G_13 q_1 = 0 := gx_0 hw_14 zq_1 neq_10_q_1 ltq_1
  have ltq_4 : q_4 < sz_hs_12 := ltz_s hr_5.lt hs_12
  have hr_5 := hr_5.kept (hk _ hr_5.lt (fun h => h.elim neq_10_q_4 (fun h => absurd h (Nat.not_le.mpr ltq_4))))
  have zq_4 : G_13 q_4 = 0 := gx_0 hw_14 zq_4 neq_10_q_4 ltq_4
  have gp_15 : G_13 a0 = 5 := gx_k hw_14 ha0 (by decide)
  have gp_16 : G_13 a1 = 4 := gx_k hw_14 ha1 (by decide)
  have gq_17 : G_13 q_10 = 11 := hw_14.2
  have hE := hE.step hw_14 szq_10 szshs_12
  have hT : TH E (T0 E) G_13 [] H := hB
  refine rr_putF (D := DG E) (ci := 8) (v := .ref q_10) (ty := .object "RemoteReach$Queue") (C := RX8) (T := TX8) (N := 9) hx hb hts iw_X8 tyX8 tyX8_ok nmX8 hown hK.1 hr_9 hS (Or.inl rfl) rfl 3 (by decide) (hts _ fl_X8_39) (fun _ h9 => h9) rfl hin rfl (by decide +kernel) rfl rfl (Nat.le_of_ble_eq_true rfl) dX8_init_46 (fun H locs hn ho hz hS => ?_)
  have hr_18 : va_at (DG E) vwCl (h0, .inr (8, [.int (p0 ^^^ 1), .ref a0, .ref a1, .ref q_10, .int 0, .int 0, .int 0, .ref q_1, .ref q_4])) H := hn
  have hr_2 := hr_2.kept (ho _ (Ne.symm neq_1_h0))
  have hr_5 := hr_5.kept (ho _ (Ne.symm neq_4_h0))
  have hT := hT.off hG0 ho
  refine lv_aload_n hx hb dX8_init_49 rfl (lv_at hl 0 rfl) ?_
  refine va_callv (rnV (fun H => va_at (DG E) vwCl (h0, .inr (8, [.int (p0 ^^^ 1), .ref a0, .ref a1, .ref q_10, .int 0, .int 0, .int 0, .ref q_1, .ref q_4])) H ∧ va_at (DG E) vwCl (q_1, .inl (E.2.2 0, 2, .inl (fun _ => 0))) H ∧ va_at (DG E) vwCl (q_4, .inl (E.2.2 0, 2, .inl (fun _ => 0))) H) (As := []) (rest := []) ⟨hx, hb, hml, hown, hts⟩ (c_X8_forgetAdds_r l E z0 h0 (p0 ^^^ 1) a0 a1 q_10 q_1 q_4 (by omega) (by omega) neq_1_h0 neq_4_h0 neq_4_q_1) (cwV 0 hts (gdV ml_X8_43 im_X8_forgetAdds se_X8_X8_forgetAdds in_X8 co_X8_forgetAdds rfl) rfl rfl rfl (by decide +kernel) ⟨Nat.le_of_ble_eq_true rfl, Nat.le_of_ble_eq_true rfl⟩) ⟨hr_18, hr_2, hr_5⟩ (fun U hU hW => hK.go hW hS hAz hU) (va_recv hK.1 (va_one hr_18) (ci := 8) (q0 := 0) rfl rfl) rfl rfl hl.1 rfl (lv_room (Nat.le_of_ble_eq_true rfl)) dX8_init_50 ⟨Nat.le_of_ble_eq_true rfl, Nat.le_of_ble_eq_true rfl⟩) hS (fun q _ h => h.elim (fun e => by rw [e]; exact (Or.inr szq_1)) (fun e => by rw [e]; exact (Or.inr szq_4))) (fun q h => h.elim (fun e => by rw [e]; exact (Or.inr szq_1)) (fun e => by rw [e]; exact (Or.inr szq_4))) (fun _ t H locs ht hvm hw hB hz hk hS => ?_)
  obtain ⟨fa1, fb1, ha1, hb1⟩ := hB
  rw [ht] at ha1 hb1
  have hr_18 := hr_18.kept (hk _ hr_18.lt (fun q => q.elim neq_1_h0 neq_4_h0))
  have hT := hT.off2 zq_1 zq_4 hk
  have hT := hT.add (g := 16) zq_1 (show T0 E (va_up G_13 q_1 16) 16 _ from ⟨_, rfl⟩) ha1
  have hE := hE.add (g := 16) zq_1 szq_1
  have gp_20 := up_k (g := 16) gp_15 zq_1 (by decide)
  have gp_21 := up_k (g := 16) gp_16 zq_1 (by decide)
  have gp_22 := up_k (g := 16) gq_17 zq_1 (by decide)
  have hG0 := (va_up_ne G_13 16 neq_1_h0).trans hG0
  have zq_4 := (va_up_ne G_13 16 (Ne.symm neq_4_q_1)).trans zq_4
  have gq_23 := va_up_self G_13 q_1 16
  obtain ⟨G_19, eG_19⟩ : ∃ z, z = va_up G_13 q_1 16 := ⟨_, rfl⟩
  rw [← eG_19] at hT hE gq_23 gp_20 gp_21 gp_22 hG0 zq_4
  have hT := hT.add (g := 17) zq_4 (show T0 E (va_up G_19 q_4 17) 17 _ from ⟨_, rfl⟩) hb1
  have hE := hE.add (g := 17) zq_4 szq_4
  have gp_25 := up_k (g := 17) gp_20 zq_4 (by decide)
  have gp_26 := up_k (g := 17) gp_21 zq_4 (by decide)
  have gp_27 := up_k (g := 17) gp_22 zq_4 (by decide)
  have gp_28 := up_k (g := 17) gq_23 zq_4 (by decide)
  have hG0 := (va_up_ne G_19 17 neq_4_h0).trans hG0
  have gq_29 := va_up_self G_19 q_4 17
  obtain ⟨G_24, eG_24⟩ : ∃ z, z = va_up G_19 q_4 17 := ⟨_, rfl⟩
  rw [← eG_24] at hT hE gq_29 gp_25 gp_26 gp_27 gp_28 hG0
  have hT := hT.add (g := 10) hG0 (show T0 E (va_up G_24 h0 10) 10 _ from ⟨p0 ^^^ 1, a0, a1, q_10, q_1, q_4, rfl, up_k gp_25 hG0 (by decide), up_k gp_26 hG0 (by decide), up_k gp_27 hG0 (by decide), up_k gp_28 hG0 (by decide), up_k gq_29 hG0 (by decide), xor1_b hb0⟩) hr_18
  refine W.widen (k := 8) (n := 54) (Nat.le_of_ble_eq_true rfl) (Nat.le_of_ble_eq_true rfl) ?_
  exact W.vret hx hb hr (fun t ht hW => ⟨⟨_, rfl, hE.fin hG0, by show TH _ _ _ _ t.heap; rw [ht]; exact hT⟩, hS.F ht⟩) hS.2.2 dX8_init_53
theorem dX3_init_0 : decode cX3_init 0 = .ok (.aload_n 0, 1) := by decide +kernel
theorem dX3_init_1 : decode cX3_init 1 = .ok (.invokespecial 3, 3) := by decide +kernel
theorem dX3_init_4 : decode cX3_init 4 = .ok (.aload_n 0, 1) := by decide +kernel
theorem dX3_init_5 : decode cX3_init 5 = .ok (.aload_n 1, 1) := by decide +kernel
theorem dX3_init_6 : decode cX3_init 6 = .ok (.putfield 9, 3) := by decide +kernel
theorem dX3_init_9 : decode cX3_init 9 = .ok (.aload_n 0, 1) := by decide +kernel
theorem dX3_init_10 : decode cX3_init 10 = .ok (.aload_n 2, 1) := by decide +kernel
theorem dX3_init_11 : decode cX3_init 11 = .ok (.putfield 15, 3) := by decide +kernel
theorem dX3_init_14 : decode cX3_init 14 = .ok (.return_, 1) := by decide +kernel
set_option maxHeartbeats 16000000 in
set_option maxRecDepth 100000 in
theorem c_X3_init (l : Launch) (E : EE) (z0 : Nat) (G : Nat → Nat) (h0 sz : Nat) (a0 : Nat) (a1 : Nat) (hG0 : G h0 = 0) (hz0 : z0 ≤ h0) (hz1 : z0 ≤ sz) (ha0 : G a0 = 9) (ha1 : G a1 = 10) : Met l yX3_init [Cond.code yX3_init cX3_init 3 none] ({ frames := 1, cells := 0, slots := 0, locals := 20 } : Room) (va_Pc [.ref h0, .ref a0, .ref a1] (fun U => (U.heap.size = sz ∧ va_at (DG E) vwCl (h0, .inr (3, [.null, .null, .int 0])) U.heap ∧ TH E (T0 E) G [] U.heap) ∧ KS E z0 U)) (va_Qv (fun (G1 : Nat → Nat) => GX G G1 h0 8 sz) (fun G1 t => TH E (T0 E) G1 [] t.heap) (AC h0 sz)) 0 0 (AC h0 sz) := by
  refine Met.ofW (cc := cX3_init) (maxL := 3) (ret := none) (by decide) rfl ?_
  intro p e s m args below meth c s₁ B hml hv
  obtain ⟨rfl, ⟨hsz, hr0, hT⟩, hK⟩ := hv
  have hx := B.exec
  have hb := B.bytes
  have hr := B.returns
  have hts : ∀ w ∈ TS, w.before ([.ref h0, .ref a0, .ref a1] : List Value).toArray s = true := fun w hw => hK.2.1 w hw _
  have hown : s.vm.findClass RX3 = some m.cls := findClass_of_methodNamed B.named
  have hlocks := B.notSynchronized
  have hin : meth.name = "<init>" := (name_of_methodNamed B.named B.method).1
  have hS : va_S (AC h0 sz) s.heap s.heap [] := va_S.rf
  have hAz : ∀ q, AC h0 sz q → z0 ≤ q := fun q h => h.elim (fun e => by omega) (fun e => by omega)
  have hE : GE G G h0 sz := GE.rf
  have hlt0 : h0 < sz := by have h9 := hr0.lt; have h8 : h0 < _ := h9; omega
  obtain ⟨H, eH⟩ : ∃ H, H = s.heap := ⟨_, rfl⟩
  rw [← eH] at hr0 hT
  have hS : va_S (AC h0 sz) s.heap H [] := by rw [eH]; exact hS
  rw [← eH]
  have hsz : s.heap.size = sz := hsz
  have hl := lv_entry ([.ref h0, .ref a0, .ref a1]) (n := 3) (Nat.le_of_ble_eq_true rfl)
  rw [lg_entry_eq]
  generalize (lg_sl ([.ref h0, .ref a0, .ref a1]) ++ List.replicate (3 - (lg_sl ([.ref h0, .ref a0, .ref a1])).length) Slot.unset).toArray = ls at hl ⊢
  have hl : lv_has ls 3 [(0, .ref h0), (1, .ref a0), (2, .ref a1)] := hl
  refine lv_aload_n hx hb dX3_init_0 rfl (lv_at hl 0 rfl) ?_
  refine W.objInit hx hb hown (hts _ ml_X3_3) (hts _ im_Object__init_) (hts _ co_Object__init_) rfl (by rw [hml]; exact hl.1) rfl dX3_init_1 (Nat.le_of_ble_eq_true rfl) (Nat.le_of_ble_eq_true rfl) ?_
  refine W.eq (g2 := F0 m 4 ls []) rfl ?_
  refine lv_aload_n hx hb dX3_init_4 rfl (lv_at hl 0 rfl) ?_
  refine lv_aload_n hx hb dX3_init_5 rfl (lv_at hl 1 rfl) ?_
  refine rr_putF (D := DG E) (ci := 3) (v := .ref a0) (ty := .object "RemoteReach$Requester") (C := RX3) (T := TX3) (N := 3) hx hb hts iw_X3 tyX3 tyX3_ok nmX3 hown hK.1 hr0 hS (Or.inl rfl) rfl 0 (by decide) (hts _ fl_X3_9) (fun _ h9 => h9) rfl hin rfl (by decide +kernel) rfl rfl (Nat.le_of_ble_eq_true rfl) dX3_init_6 (fun H locs hn ho hz hS => ?_)
  have hr_1 : va_at (DG E) vwCl (h0, .inr (3, [.ref a0, .null, .int 0])) H := hn
  have hT := hT.off hG0 ho
  refine lv_aload_n hx hb dX3_init_9 rfl (lv_at hl 0 rfl) ?_
  refine lv_aload_n hx hb dX3_init_10 rfl (lv_at hl 2 rfl) ?_
  refine rr_putF (D := DG E) (ci := 3) (v := .ref a1) (ty := .object "RemoteReach$Responder") (C := RX3) (T := TX3) (N := 3) hx hb hts iw_X3 tyX3 tyX3_ok nmX3 hown hK.1 hr_1 hS (Or.inl rfl) rfl 1 (by decide) (hts _ fl_X3_15) (fun _ h9 => h9) rfl hin rfl (by decide +kernel) rfl rfl (Nat.le_of_ble_eq_true rfl) dX3_init_11 (fun H locs hn ho hz hS => ?_)
  have hr_2 : va_at (DG E) vwCl (h0, .inr (3, [.ref a0, .ref a1, .int 0])) H := hn
  have hT := hT.off hG0 ho
  have hT := hT.add (g := 8) hG0 (show T0 E (va_up G h0 8) 8 _ from ⟨a0, a1, rfl, up_k ha0 hG0 (by decide), up_k ha1 hG0 (by decide)⟩) hr_2
  refine W.widen (k := 0) (n := 0) (Nat.le_of_ble_eq_true rfl) (Nat.le_of_ble_eq_true rfl) ?_
  exact W.vret hx hb hr (fun t ht hW => ⟨⟨_, rfl, hE.fin hG0, by show TH _ _ _ _ t.heap; rw [ht]; exact hT⟩, hS.F ht⟩) hS.2.2 dX3_init_14
theorem dX9_within_0 : decode cX9_within 0 = .ok (.iload_n 1, 1) := by decide +kernel
theorem dX9_within_1 : decode cX9_within 1 = .ok (.iload_n 2, 1) := by decide +kernel
theorem dX9_within_2 : decode cX9_within 2 = .ok (.iload_n 0, 1) := by decide +kernel
theorem dX9_within_3 : decode cX9_within 3 = .ok (.invokestatic 194, 3) := by decide +kernel
theorem dX9_within_6 : decode cX9_within 6 = .ok (.invokestatic 200, 3) := by decide +kernel
theorem dX9_within_9 : decode cX9_within 9 = .ok (.ireturn, 1) := by decide +kernel
set_option maxHeartbeats 4000000 in
set_option maxRecDepth 100000 in
theorem c_X9_within (l : Launch) (E : EE) (z0 : Nat) (p0 p1 p2 : Int32) : Met l yX9_within [Cond.code yX9_within cX9_within 3 (some .int)] ({ frames := 1, cells := 0, slots := 0, locals := 21 } : Room) (va_Pc [.int p0, .int p1, .int p2] (fun U => True ∧ KS E z0 U)) (va_Qi (fun (_ : Int32) (_ : Unit) => True) (fun _ _ => True) (fun _ : Nat => False)) 0 0 (fun _ : Nat => False) := by
  refine Met.ofW (cc := cX9_within) (maxL := 3) (ret := (some .int)) (by decide) rfl ?_
  intro p e s m args below meth c s₁ B hml hv
  obtain ⟨rfl, -, hK⟩ := hv
  have hx := B.exec
  have hb := B.bytes
  have hr := B.returns
  have hts : ∀ w ∈ TS, w.before ([.int p0, .int p1, .int p2] : List Value).toArray s = true := fun w hw => hK.2.1 w hw _
  have hown : s.vm.findClass RX9 = some m.cls := findClass_of_methodNamed B.named
  have hlocks := B.notSynchronized
  have hS : va_S (fun _ : Nat => False) s.heap s.heap [] := va_S.rf
  have hl := lv_entry ([.int p0, .int p1, .int p2]) (n := 3) (Nat.le_of_ble_eq_true rfl)
  rw [lg_entry_eq]
  generalize (lg_sl ([.int p0, .int p1, .int p2]) ++ List.replicate (3 - (lg_sl ([.int p0, .int p1, .int p2])).length) Slot.unset).toArray = ls at hl ⊢
  have hl : lv_has ls 3 [(0, .int p0), (1, .int p1), (2, .int p2)] := hl
  refine lv_iload_n hx hb dX9_within_0 rfl (lv_at hl 1 rfl) ?_
  refine lv_iload_n hx hb dX9_within_1 rfl (lv_at hl 2 rfl) ?_
  refine lv_iload_n hx hb dX9_within_2 rfl (lv_at hl 0 rfl) ?_
  refine va_mmin hx hb (by rw [hml]; exact hl.1.symm) hown (hts _ ml_X9_194) (hts _ st_Math_min) (hts _ in_Math) (hts _ co_Math_min) (Nat.le_of_ble_eq_true rfl) (Nat.le_of_ble_eq_true rfl) (Nat.zero_le _) (Nat.zero_le _) dX9_within_3 ?_
  refine lv_topi (fun x_1 _ => ?_)
  refine va_mmax hx hb (by rw [hml]; exact hl.1.symm) hown (hts _ ml_X9_200) (hts _ st_Math_max) (hts _ in_Math) (hts _ co_Math_max) (Nat.le_of_ble_eq_true rfl) (Nat.le_of_ble_eq_true rfl) (Nat.zero_le _) (Nat.zero_le _) dX9_within_6 ?_
  refine lv_topi (fun x_2 _ => ?_)
  exact W.iret (v := x_2) hx hb hr (fun t ht hW => ⟨⟨x_2, (), rfl, trivial, trivial⟩, hS.F ht⟩) hS.2.2 dX9_within_9
