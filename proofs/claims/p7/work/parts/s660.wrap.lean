section RRL
variable {p : Program} {l : Launch} {e : Env} {R : Room} {s : State} {m : MethodId} {args : Array Value} {below : List Frame} {meth : Method} {c : Code} {H : Heap} {locs : List Loc} {cells slots : Nat} {Q : State → Prop}
variable {cc : ByteArray} {pc : Nat} {ls : Array Slot} {rest : List Value} {D : va_G} {cl : List vw_C} {A : Nat → Prop} {a : Nat} {tys : List (ClassId × FieldType)} {H0 : Heap}
theorem rr_last (hexec : p.tables.exec = Jvm.exec) (hb : c.code = cc) (hK : va_K D cl tys s) (t0 : Nat) {cA : ClassId} {n : Nat} {f : Nat → Int64} (hat : va_at D cl (a, .inl (cA, n, .inr (.inl f))) H) (hS : va_S A H0 H locs) (hA : A a) (ht : tys[t0]? = some (cA, .long)) {i : Int32} {x : Int64} (hin : vp_in i n) (hdg : decode cc pc = .ok (.lastore, 1))
    (kk : ∀ (H1 : Heap) (locs1 : List Loc), va_at D cl (a, .inl (cA, n, .inr (.inl (vp_updL f i.toNatClampNeg x)))) H1 → (∀ q, q ≠ a → H1[q]? = H[q]?) → H1.size = H.size → va_S A H0 H1 locs1 → W p l e R s m args below meth c H1 locs1 cells slots Q (F0 m (pc + 1) ls rest)) : W p l e R s m args below meth c H locs cells slots Q (F0 m pc ls (.long x :: .int i :: .ref a :: rest)) := by
  refine W.last hexec hb hat ((hK.2 t0 _ ht).1 n (fun j => .long (f j))) (fun q => by cases q) (by show ¬ (i < 0 ∨ (arrV _ _ _).slots.size ≤ _); rw [arrV_size]; exact hin) rfl rfl hdg fun H1 e z oq => ?_
  refine kk H1 _ ?_ oq z (hS.put z oq hA)
  show H1[a]? = some (vp_cell _ _)
  rw [e]
  rw [vp_cell_l, vp_cell_l, arrV_store]
  congr 2
  funext q
  by_cases hq : q = i.toNatClampNeg
  · subst hq
    simp [updV, vp_updL]
  · simp [updV, vp_updL, hq]
theorem lp_c {pc : Nat} (I : Nat → Heap → List Loc → Array Slot → Nat → Nat → Prop) (step : ∀ n H locs ls C S, (∀ k, k < n → ∀ H locs ls C S, I k H locs ls C S → W p l e R s m args below meth c H locs C S Q (F0 m pc ls [])) → I n H locs ls C S → W p l e R s m args below meth c H locs C S Q (F0 m pc ls [])) : ∀ {n : Nat} {H : Heap} {locs : List Loc} {ls : Array Slot} {C S : Nat}, I n H locs ls C S → W p l e R s m args below meth c H locs C S Q (F0 m pc ls []) := by
  have key : ∀ n k, k ≤ n → ∀ H locs ls C S, I k H locs ls C S → W p l e R s m args below meth c H locs C S Q (F0 m pc ls []) := by
    intro n
    induction n with
    | zero => intro k hk H locs ls C S h; exact step k H locs ls C S (fun j hj => absurd hj (by omega)) h
    | succ n ih => intro k hk H locs ls C S h; exact step k H locs ls C S (fun j hj => ih j (by omega)) h
  intro n H locs ls C S h
  exact key n n (Nat.le_refl n) H locs ls C S h
end RRL
theorem zn {G : Nat → Nat} {L : List Nat} {q : Nat} (h : 0 ∉ L) (hq : G q ∈ L) : G q ≠ 0 := fun e => h (by rw [← e]; exact hq)
theorem TH.offo {E : EE} {ty : (Nat → Nat) → Nat → va_E → Prop} {G : Nat → Nat} {H H1 : Heap} {a : Nat} (h : TH E ty G [] H) (h0 : G a = 0) (ho : ∀ q, q ≠ a → H1[q]? = H[q]?) : TH E ty G [] H1 := h.off h0 ho

theorem TX.offo {E : EE} {G : Nat → Nat} {B : AA} {R : RR} {H H1 : Heap} {a : Nat} (h : TX E G B R H) (h0 : G a = 0) (ho : ∀ q, q ≠ a → H1[q]? = H[q]?) : TX E G B R H1 := fun b hb => (h b hb).kept (ho _ (fun e => hb (by rw [show b = a from e]; exact h0)))
theorem TX.other {E : EE} {G G2 : Nat → Nat} {B : AA} {R : RR} {H H1 : Heap} (h : TX E G B R H) (hd : ∀ a, G a ≠ 0 → G2 a = 0) (hk : ∀ q, q < H.size → ¬ (fun q : Nat => G2 q ≠ 0) q → H1[q]? = H[q]?) : TX E G B R H1 := fun b hb => (h b hb).kept (hk _ (h b hb).lt (fun e => e (hd b hb)))
theorem vpu0 {f : Nat → Int64} {x : Int64} : vp_updL f (0 : Int32).toNatClampNeg x 0 = x := by
  have h : (0 : Int32).toNatClampNeg = 0 := by decide
  rw [h]
  simp [vp_updL]
theorem lg_cmp_s (x : Int64) : lg_cmp x x = 0 := by
  unfold lg_cmp
  rw [if_neg (by simp only [gt_iff_lt, Int64.lt_iff_toInt_lt]; omega), if_pos rfl]
theorem RIV.c3 {A : AA} {pk : Int32} (h : RIV A pk) : I2 (A 5) (A 6) ∧ I3 (A 8) ∧ I4 (A 10) (A 20) (A 29) (A 24) (A 11) (A 12) (A 13) ∧ I5 (A 32) (A 33) (A 35) ∧ I6 (A 22) (A 23) (A 24) (A 25) (A 26) ∧ I7 (A 41) (A 42) (A 44) (A 45) (A 46) ∧ I8 (A 20) (A 30) (A 37) (A 36) ∧ 0 ≤ pk.toInt ∧ pk.toInt ≤ 24 := ⟨h.1.1, h.1.2.1, h.1.2.2.1, h.1.2.2.2.1, h.1.2.2.2.2.1, h.1.2.2.2.2.2.1, h.1.2.2.2.2.2.2, h.2⟩

theorem X_En_X9_region {G : Nat → Nat} {B : AA} {R : RR} {h0 : Nat} {p0 p1 p2 p3 p4 : Int32} {En : String} (h : X_X9_region G B R h0 p0 p1 p2 p3 p4 En) : En = IAE := by
  rcases h with ⟨c1, rfl⟩ | ⟨c1, c2, rfl⟩ | ⟨c1, c2, c3, rfl⟩ | ⟨c1, c2, c3, c4, rfl⟩ | ⟨c1, c2, c3, c4, c5, rfl⟩ | ⟨c1, c2, c3, c4, c5, c6, rfl⟩ | ⟨c1, c2, c3, c4, c5, c6, x_15, ex_15, fx_15, c7, rfl⟩
  all_goals first | exact rfl | exact Or.inl rfl | exact Or.inr rfl
theorem X_En_X9_store {G : Nat → Nat} {B : AA} {R : RR} {h0 : Nat} {p0 p1 p2 : Int32} {En : String} (h : X_X9_store G B R h0 p0 p1 p2 En) : En = IAE := by
  rcases h with ⟨c1, rfl⟩ | ⟨c1, c2, rfl⟩
  all_goals first | exact rfl | exact Or.inl rfl | exact Or.inr rfl
theorem X_En_X9_ready {G : Nat → Nat} {B : AA} {R : RR} {h0 : Nat} {p0 p1 p2 : Int32} {En : String} (h : X_X9_ready G B R h0 p0 p1 p2 En) : En = IAE ∨ En = ISE := by
  rcases h with ⟨c1, rfl⟩ | ⟨c1, c2, rfl⟩ | ⟨c1, c2, c3, rfl⟩ | ⟨c1, c2, c3, n_12, hn_12, c4, rfl⟩
  all_goals first | exact rfl | exact Or.inl rfl | exact Or.inr rfl
theorem X_En_X9_send {G : Nat → Nat} {B : AA} {R : RR} {h0 : Nat} {p0 p1 p2 : Int32} {En : String} (h : X_X9_send G B R h0 p0 p1 p2 En) : En = IAE ∨ En = ISE := by
  rcases h with ⟨c1, rfl⟩ | ⟨c1, c2, rfl⟩ | ⟨c1, c2, n_10, hn_10, r_13, htakesRequests, c3, rfl⟩
  all_goals first | exact rfl | exact Or.inl rfl | exact Or.inr rfl
theorem X_En_X9_move {G : Nat → Nat} {B : AA} {R : RR} {h0 : Nat} {p0 p1 p2 p3 p4 p5 : Int32} {En : String} (h : X_X9_move G B R h0 p0 p1 p2 p3 p4 p5 En) : En = IAE ∨ En = ISE := by
  rcases h with ⟨c1, rfl⟩ | ⟨c1, c2, rfl⟩ | ⟨c1, c2, c3, rfl⟩ | ⟨c1, c2, c3, c4, rfl⟩ | ⟨c1, c2, c3, c4, n_14, hn_14, r_17, htakesRequests, c5, rfl⟩
  all_goals first | exact rfl | exact Or.inl rfl | exact Or.inr rfl
theorem X_En_X9_add {G : Nat → Nat} {B : AA} {R : RR} {h0 : Nat} {p0 p1 p2 p3 p4 : Int32} {En : String} (h : X_X9_add G B R h0 p0 p1 p2 p3 p4 En) : En = IAE ∨ En = ISE := by
  rcases h with ⟨c1, rfl⟩ | ⟨c1, c2, rfl⟩ | ⟨c1, c2, c3, rfl⟩ | ⟨c1, c2, c3, c4, rfl⟩ | ⟨c1, c2, c3, c4, n_14, hn_14, r_17, htakesRequests, c5, rfl⟩
  all_goals first | exact rfl | exact Or.inl rfl | exact Or.inr rfl
theorem X_En_X9_receive {G : Nat → Nat} {B : AA} {R : RR} {h0 : Nat} {p0 p1 p2 : Int32} {En : String} (h : X_X9_receive G B R h0 p0 p1 p2 En) : En = IAE ∨ En = ISE := by
  rcases h with ⟨c1, rfl⟩ | ⟨c1, c2, rfl⟩ | ⟨c1, c2, n_10, hn_10, r_13, htakesReceives, c3, rfl⟩
  all_goals first | exact rfl | exact Or.inl rfl | exact Or.inr rfl
theorem X_En_X9_poll {G : Nat → Nat} {B : AA} {R : RR} {h0 : Nat} {p0 p1 : Int32} {En : String} (h : X_X9_poll G B R h0 p0 p1 En) : En = IAE ∨ En = NSE := by
  rcases h with ⟨c1, rfl⟩ | ⟨c1, c2, rfl⟩ | ⟨c1, c2, c3, rfl⟩ | ⟨c1, c2, c3, n_12, hn_12, c4, rfl⟩
  all_goals first | exact rfl | exact Or.inl rfl | exact Or.inr rfl

theorem dL_region_0 : decode cL_region 0 = .ok (.aload_n 0, 1) := by decide +kernel
theorem dL_region_1 : decode cL_region 1 = .ok (.iload_n 1, 1) := by decide +kernel
theorem dL_region_2 : decode cL_region 2 = .ok (.iload_n 2, 1) := by decide +kernel
theorem dL_region_3 : decode cL_region 3 = .ok (.iload_n 3, 1) := by decide +kernel
theorem dL_region_4 : decode cL_region 4 = .ok (.iload 4, 2) := by decide +kernel
theorem dL_region_6 : decode cL_region 6 = .ok (.iload 5, 2) := by decide +kernel
theorem dL_region_8 : decode cL_region 8 = .ok (.invokevirtual 7, 3) := by decide +kernel
theorem dL_region_11 : decode cL_region 11 = .ok (.goto 7, 3) := by decide +kernel
theorem dL_region_14 : decode cL_region 14 = .ok (.astore 6, 2) := by decide +kernel
theorem dL_region_16 : decode cL_region 16 = .ok (.iconst 1, 1) := by decide +kernel
theorem dL_region_17 : decode cL_region 17 = .ok (.ireturn, 1) := by decide +kernel
theorem dL_region_18 : decode cL_region 18 = .ok (.iconst 0, 1) := by decide +kernel
theorem dL_region_19 : decode cL_region 19 = .ok (.ireturn, 1) := by decide +kernel
set_option maxHeartbeats 4000000 in
set_option maxRecDepth 100000 in
theorem w_L_region (l : Launch) (hst : l.stackTraces = false) (E : EE) (z0 : Nat) (G : Nat → Nat) (hGz : ∀ q, G q ≠ 0 → z0 ≤ q) (B : AA) (R : RR) (hW : TW G B R) (h0 : Nat) (p0 p1 p2 p3 p4 : Int32) (hG : G h0 = 1) : Met l yL_region [Cond.codeWith yL_region cL_region 7 (some .int) [(0, 11, 14, 13)]] ({ frames := 8, cells := 2, slots := 12, locals := 126 } : Room) (va_Pc [.ref h0, .int p0, .int p1, .int p2, .int p3, .int p4] (fun U => TX E G B R U.heap ∧ KS E z0 U ∧ NC U)) (va_Qi (fun (r : Int32) (u : AA × Int32) => (r = 0 ∧ TW G u.1 R ∧ Fr G [7] B u.1 ∧ C_X9_region G B R h0 p0 p1 p2 p3 p4 u.1) ∨ (r = 1 ∧ u.1 = B ∧ X_X9_region G B R h0 p0 p1 p2 p3 p4 IAE)) (fun u t => TX E G u.1 R t.heap) (fun q : Nat => G q ∈ ([7] : List Nat))) 2 12 (fun q : Nat => G q ∈ ([7] : List Nat)) := by
  refine va_MetW (cc := cL_region) (maxL := 7) (ret := (some .int)) (hh := [(0, 11, 14, 13)]) (by decide) rfl ?_
  intro p e s m args below meth c s₁ B9 hml hv
  obtain ⟨rfl, hT, hK, hN⟩ := hv
  have hx := B9.exec
  have hb := B9.bytes
  have hr := B9.returns
  have hts : ∀ w ∈ TS, w.before ([.ref h0, .int p0, .int p1, .int p2, .int p3, .int p4] : List Value).toArray s = true := fun w hw => hK.2.1 w hw _
  have hown : s.vm.findClass RL = some m.cls := findClass_of_methodNamed B9.named
  have hlocks := B9.notSynchronized
  have hS : va_S (fun q : Nat => G q ∈ ([7] : List Nat)) s.heap s.heap [] := va_S.rf
  have hAz : ∀ q, (fun q : Nat => G q ∈ ([7] : List Nat)) q → z0 ≤ q := zL hGz (by decide)
  have htab := vx_table (x := yL_region) B9 (hts _ co_L_region)
  have hl := lv_entry ([.ref h0, .int p0, .int p1, .int p2, .int p3, .int p4]) (n := 7) (Nat.le_of_ble_eq_true rfl)
  rw [lg_entry_eq]
  generalize (lg_sl ([.ref h0, .int p0, .int p1, .int p2, .int p3, .int p4]) ++ List.replicate (7 - (lg_sl ([.ref h0, .int p0, .int p1, .int p2, .int p3, .int p4])).length) Slot.unset).toArray = ls at hl ⊢
  have hl : lv_has ls 7 [(0, .ref h0), (1, .int p0), (2, .int p1), (3, .int p2), (4, .int p3), (5, .int p4)] := hl
  refine lv_aload_n hx hb dL_region_0 rfl (lv_at hl 0 rfl) ?_
  refine lv_iload_n hx hb dL_region_1 rfl (lv_at hl 1 rfl) ?_
  refine lv_iload_n hx hb dL_region_2 rfl (lv_at hl 2 rfl) ?_
  refine lv_iload_n hx hb dL_region_3 rfl (lv_at hl 3 rfl) ?_
  refine lv_iload hx hb dL_region_4 (lv_at hl 4 rfl) ?_
  refine lv_iload hx hb dL_region_6 (lv_at hl 5 rfl) ?_
  have hx9 := tx_1 hT hG
  refine vx_callv (rxV (fun H => TX E G B R H) (As := [.int p0, .int p1, .int p2, .int p3, .int p4]) (rest := []) ⟨hx, hb, hml, hown, hts⟩ (x_X9_region l hst E z0 G hGz B R hW h0 p0 p1 p2 p3 p4 hG) (cwV 5 hts (gdV ml_L_7 im_X9_region se_X9_X9_region in_X9 co_X9_region rfl) rfl rfl rfl (by decide +kernel) ⟨Nat.le_of_ble_eq_true rfl, Nat.le_of_ble_eq_true rfl⟩) hT (fun U hU hW => hK.go hW hS hAz hU) (va_recv hK.1 (va_one hx9) (ci := 9) (q0 := 0) rfl rfl) rfl rfl hl.1 rfl (lv_room (Nat.le_of_ble_eq_true rfl)) dL_region_8 ⟨Nat.le_of_ble_eq_true rfl, Nat.le_of_ble_eq_true rfl⟩) hS (fun q _ h => h) (fun q h => h) (fun q _ h => h) (fun En ce q9 _ t H locs ht hvm hw hB hz hk hS hc1 hc2 hc3 => ?_) (fun u t H locs ht hvm hw hB hz hk hS => ?_)
  · clear hw
    rw [ht] at hB
    obtain ⟨hX, hT⟩ := hB
    have hX2 := X_En_X9_region hX
    obtain rfl := hX2
    refine rr_catch (own := RL) (name := IAE) hown [] ⟨0, 11, 14, 13⟩ [] htab (fun z hz => nomatch hz) (by decide) (by decide) (hts _ cl_L_13) (hts _ ca_IllegalArgumentException_IllegalArgumentException) hc1 hc2 hc3 ?_
    refine lv_astore (lv' := [(6, .ref q9), (0, .ref h0), (1, .int p0), (2, .int p1), (3, .int p2), (4, .int p3), (5, .int p4)]) hx hb dL_region_14 hl (by decide) rfl (fun ls hl => ?_)
    refine lv_iconst (v := 1) hx hb dL_region_16 (by decide) ?_
    refine W.widen (k := 2) (n := 12) (Nat.le_of_ble_eq_true rfl) (Nat.le_of_ble_eq_true rfl) ?_
    exact W.iret (v := 1) hx hb hr (fun t ht hW => ⟨⟨1, (B, 0), rfl, Or.inr (⟨rfl, rfl, hX⟩), (by show TX E G B R t.heap; rw [ht]; exact hT)⟩, hS.F ht⟩) hS.2.2 dL_region_17
  · rw [ht] at hB
    have hT : TX E G u R H := hB
    obtain ⟨hW2, hF2, hC⟩ := hw
    refine lv_goto (tgt := 18) hx hb dL_region_11 (by decide) ?_
    refine lv_iconst (v := 0) hx hb dL_region_18 (by decide) ?_
    refine W.widen (k := 2) (n := 12) (Nat.le_of_ble_eq_true rfl) (Nat.le_of_ble_eq_true rfl) ?_
    exact W.iret (v := 0) hx hb hr (fun t ht hW => ⟨⟨0, (u, 0), rfl, Or.inl ⟨rfl, hW2, hF2, hC⟩, (by show TX E G u R t.heap; rw [ht]; exact hT)⟩, hS.F ht⟩) hS.2.2 dL_region_19
theorem dL_store_0 : decode cL_store 0 = .ok (.aload_n 0, 1) := by decide +kernel
theorem dL_store_1 : decode cL_store 1 = .ok (.iload_n 1, 1) := by decide +kernel
theorem dL_store_2 : decode cL_store 2 = .ok (.iload_n 2, 1) := by decide +kernel
theorem dL_store_3 : decode cL_store 3 = .ok (.iload_n 3, 1) := by decide +kernel
theorem dL_store_4 : decode cL_store 4 = .ok (.invokevirtual 15, 3) := by decide +kernel
theorem dL_store_7 : decode cL_store 7 = .ok (.goto 7, 3) := by decide +kernel
theorem dL_store_10 : decode cL_store 10 = .ok (.astore 4, 2) := by decide +kernel
theorem dL_store_12 : decode cL_store 12 = .ok (.iconst 1, 1) := by decide +kernel
theorem dL_store_13 : decode cL_store 13 = .ok (.ireturn, 1) := by decide +kernel
theorem dL_store_14 : decode cL_store 14 = .ok (.iconst 0, 1) := by decide +kernel
theorem dL_store_15 : decode cL_store 15 = .ok (.ireturn, 1) := by decide +kernel
set_option maxHeartbeats 4000000 in
set_option maxRecDepth 100000 in
theorem w_L_store (l : Launch) (hst : l.stackTraces = false) (E : EE) (z0 : Nat) (G : Nat → Nat) (hGz : ∀ q, G q ≠ 0 → z0 ≤ q) (B : AA) (R : RR) (hW : TW G B R) (h0 : Nat) (p0 p1 p2 : Int32) (hG : G h0 = 1) : Met l yL_store [Cond.codeWith yL_store cL_store 5 (some .int) [(0, 7, 10, 13)]] ({ frames := 8, cells := 2, slots := 12, locals := 124 } : Room) (va_Pc [.ref h0, .int p0, .int p1, .int p2] (fun U => TX E G B R U.heap ∧ KS E z0 U ∧ NC U)) (va_Qi (fun (r : Int32) (u : AA × Int32) => (r = 0 ∧ TW G u.1 R ∧ Fr G [14] B u.1 ∧ C_X9_store G B R h0 p0 p1 p2 u.1) ∨ (r = 1 ∧ u.1 = B ∧ X_X9_store G B R h0 p0 p1 p2 IAE)) (fun u t => TX E G u.1 R t.heap) (fun q : Nat => G q ∈ ([14] : List Nat))) 2 12 (fun q : Nat => G q ∈ ([14] : List Nat)) := by
  refine va_MetW (cc := cL_store) (maxL := 5) (ret := (some .int)) (hh := [(0, 7, 10, 13)]) (by decide) rfl ?_
  intro p e s m args below meth c s₁ B9 hml hv
  obtain ⟨rfl, hT, hK, hN⟩ := hv
  have hx := B9.exec
  have hb := B9.bytes
  have hr := B9.returns
  have hts : ∀ w ∈ TS, w.before ([.ref h0, .int p0, .int p1, .int p2] : List Value).toArray s = true := fun w hw => hK.2.1 w hw _
  have hown : s.vm.findClass RL = some m.cls := findClass_of_methodNamed B9.named
  have hlocks := B9.notSynchronized
  have hS : va_S (fun q : Nat => G q ∈ ([14] : List Nat)) s.heap s.heap [] := va_S.rf
  have hAz : ∀ q, (fun q : Nat => G q ∈ ([14] : List Nat)) q → z0 ≤ q := zL hGz (by decide)
  have htab := vx_table (x := yL_store) B9 (hts _ co_L_store)
  have hl := lv_entry ([.ref h0, .int p0, .int p1, .int p2]) (n := 5) (Nat.le_of_ble_eq_true rfl)
  rw [lg_entry_eq]
  generalize (lg_sl ([.ref h0, .int p0, .int p1, .int p2]) ++ List.replicate (5 - (lg_sl ([.ref h0, .int p0, .int p1, .int p2])).length) Slot.unset).toArray = ls at hl ⊢
  have hl : lv_has ls 5 [(0, .ref h0), (1, .int p0), (2, .int p1), (3, .int p2)] := hl
  refine lv_aload_n hx hb dL_store_0 rfl (lv_at hl 0 rfl) ?_
  refine lv_iload_n hx hb dL_store_1 rfl (lv_at hl 1 rfl) ?_
  refine lv_iload_n hx hb dL_store_2 rfl (lv_at hl 2 rfl) ?_
  refine lv_iload_n hx hb dL_store_3 rfl (lv_at hl 3 rfl) ?_
  have hx9 := tx_1 hT hG
  refine vx_callv (rxV (fun H => TX E G B R H) (As := [.int p0, .int p1, .int p2]) (rest := []) ⟨hx, hb, hml, hown, hts⟩ (x_X9_store l hst E z0 G hGz B R hW h0 p0 p1 p2 hG) (cwV 3 hts (gdV ml_L_15 im_X9_store se_X9_X9_store in_X9 co_X9_store rfl) rfl rfl rfl (by decide +kernel) ⟨Nat.le_of_ble_eq_true rfl, Nat.le_of_ble_eq_true rfl⟩) hT (fun U hU hW => hK.go hW hS hAz hU) (va_recv hK.1 (va_one hx9) (ci := 9) (q0 := 0) rfl rfl) rfl rfl hl.1 rfl (lv_room (Nat.le_of_ble_eq_true rfl)) dL_store_4 ⟨Nat.le_of_ble_eq_true rfl, Nat.le_of_ble_eq_true rfl⟩) hS (fun q _ h => h) (fun q h => h) (fun q _ h => h) (fun En ce q9 _ t H locs ht hvm hw hB hz hk hS hc1 hc2 hc3 => ?_) (fun u t H locs ht hvm hw hB hz hk hS => ?_)
  · clear hw
    rw [ht] at hB
    obtain ⟨hX, hT⟩ := hB
    have hX2 := X_En_X9_store hX
    obtain rfl := hX2
    refine rr_catch (own := RL) (name := IAE) hown [] ⟨0, 7, 10, 13⟩ [] htab (fun z hz => nomatch hz) (by decide) (by decide) (hts _ cl_L_13) (hts _ ca_IllegalArgumentException_IllegalArgumentException) hc1 hc2 hc3 ?_
    refine lv_astore (lv' := [(4, .ref q9), (0, .ref h0), (1, .int p0), (2, .int p1), (3, .int p2)]) hx hb dL_store_10 hl (by decide) rfl (fun ls hl => ?_)
    refine lv_iconst (v := 1) hx hb dL_store_12 (by decide) ?_
    refine W.widen (k := 2) (n := 12) (Nat.le_of_ble_eq_true rfl) (Nat.le_of_ble_eq_true rfl) ?_
    exact W.iret (v := 1) hx hb hr (fun t ht hW => ⟨⟨1, (B, 0), rfl, Or.inr (⟨rfl, rfl, hX⟩), (by show TX E G B R t.heap; rw [ht]; exact hT)⟩, hS.F ht⟩) hS.2.2 dL_store_13
  · rw [ht] at hB
    have hT : TX E G u R H := hB
    obtain ⟨hW2, hF2, hC⟩ := hw
    refine lv_goto (tgt := 14) hx hb dL_store_7 (by decide) ?_
    refine lv_iconst (v := 0) hx hb dL_store_14 (by decide) ?_
    refine W.widen (k := 2) (n := 12) (Nat.le_of_ble_eq_true rfl) (Nat.le_of_ble_eq_true rfl) ?_
    exact W.iret (v := 0) hx hb hr (fun t ht hW => ⟨⟨0, (u, 0), rfl, Or.inl ⟨rfl, hW2, hF2, hC⟩, (by show TX E G u R t.heap; rw [ht]; exact hT)⟩, hS.F ht⟩) hS.2.2 dL_store_15
theorem dL_ready_0 : decode cL_ready 0 = .ok (.aload_n 0, 1) := by decide +kernel
theorem dL_ready_1 : decode cL_ready 1 = .ok (.iload_n 1, 1) := by decide +kernel
theorem dL_ready_2 : decode cL_ready 2 = .ok (.iload_n 2, 1) := by decide +kernel
theorem dL_ready_3 : decode cL_ready 3 = .ok (.iload_n 3, 1) := by decide +kernel
theorem dL_ready_4 : decode cL_ready 4 = .ok (.invokevirtual 19, 3) := by decide +kernel
theorem dL_ready_7 : decode cL_ready 7 = .ok (.goto 11, 3) := by decide +kernel
theorem dL_ready_10 : decode cL_ready 10 = .ok (.astore 4, 2) := by decide +kernel
theorem dL_ready_12 : decode cL_ready 12 = .ok (.iconst 1, 1) := by decide +kernel
theorem dL_ready_13 : decode cL_ready 13 = .ok (.ireturn, 1) := by decide +kernel
theorem dL_ready_14 : decode cL_ready 14 = .ok (.astore 4, 2) := by decide +kernel
theorem dL_ready_16 : decode cL_ready 16 = .ok (.iconst 2, 1) := by decide +kernel
theorem dL_ready_17 : decode cL_ready 17 = .ok (.ireturn, 1) := by decide +kernel
theorem dL_ready_18 : decode cL_ready 18 = .ok (.iconst 0, 1) := by decide +kernel
theorem dL_ready_19 : decode cL_ready 19 = .ok (.ireturn, 1) := by decide +kernel
set_option maxHeartbeats 4000000 in
set_option maxRecDepth 100000 in
theorem w_L_ready (l : Launch) (hst : l.stackTraces = false) (E : EE) (z0 : Nat) (G : Nat → Nat) (hGz : ∀ q, G q ≠ 0 → z0 ≤ q) (B : AA) (R : RR) (hW : TW G B R) (h0 : Nat) (p0 p1 p2 : Int32) (hG : G h0 = 1) : Met l yL_ready [Cond.codeWith yL_ready cL_ready 5 (some .int) [(0, 7, 10, 13), (0, 7, 14, 22)]] ({ frames := 8, cells := 2, slots := 12, locals := 124 } : Room) (va_Pc [.ref h0, .int p0, .int p1, .int p2] (fun U => TX E G B R U.heap ∧ KS E z0 U ∧ NC U)) (va_Qi (fun (r : Int32) (u : AA × Int32) => (r = 0 ∧ TW G u.1 R ∧ Fr G [8, 9, 10] B u.1 ∧ C_X9_ready G B R h0 p0 p1 p2 u.1) ∨ (r = 1 ∧ u.1 = B ∧ X_X9_ready G B R h0 p0 p1 p2 IAE) ∨ (r = 2 ∧ u.1 = B ∧ X_X9_ready G B R h0 p0 p1 p2 ISE)) (fun u t => TX E G u.1 R t.heap) (fun q : Nat => G q ∈ ([8, 9, 10] : List Nat))) 2 12 (fun q : Nat => G q ∈ ([8, 9, 10] : List Nat)) := by
  refine va_MetW (cc := cL_ready) (maxL := 5) (ret := (some .int)) (hh := [(0, 7, 10, 13), (0, 7, 14, 22)]) (by decide) rfl ?_
  intro p e s m args below meth c s₁ B9 hml hv
  obtain ⟨rfl, hT, hK, hN⟩ := hv
  have hx := B9.exec
  have hb := B9.bytes
  have hr := B9.returns
  have hts : ∀ w ∈ TS, w.before ([.ref h0, .int p0, .int p1, .int p2] : List Value).toArray s = true := fun w hw => hK.2.1 w hw _
  have hown : s.vm.findClass RL = some m.cls := findClass_of_methodNamed B9.named
  have hlocks := B9.notSynchronized
  have hS : va_S (fun q : Nat => G q ∈ ([8, 9, 10] : List Nat)) s.heap s.heap [] := va_S.rf
  have hAz : ∀ q, (fun q : Nat => G q ∈ ([8, 9, 10] : List Nat)) q → z0 ≤ q := zL hGz (by decide)
  have htab := vx_table (x := yL_ready) B9 (hts _ co_L_ready)
  have hl := lv_entry ([.ref h0, .int p0, .int p1, .int p2]) (n := 5) (Nat.le_of_ble_eq_true rfl)
  rw [lg_entry_eq]
  generalize (lg_sl ([.ref h0, .int p0, .int p1, .int p2]) ++ List.replicate (5 - (lg_sl ([.ref h0, .int p0, .int p1, .int p2])).length) Slot.unset).toArray = ls at hl ⊢
  have hl : lv_has ls 5 [(0, .ref h0), (1, .int p0), (2, .int p1), (3, .int p2)] := hl
  refine lv_aload_n hx hb dL_ready_0 rfl (lv_at hl 0 rfl) ?_
  refine lv_iload_n hx hb dL_ready_1 rfl (lv_at hl 1 rfl) ?_
  refine lv_iload_n hx hb dL_ready_2 rfl (lv_at hl 2 rfl) ?_
  refine lv_iload_n hx hb dL_ready_3 rfl (lv_at hl 3 rfl) ?_
  have hx9 := tx_1 hT hG
  refine vx_callv (rxV (fun H => TX E G B R H) (As := [.int p0, .int p1, .int p2]) (rest := []) ⟨hx, hb, hml, hown, hts⟩ (x_X9_ready l hst E z0 G hGz B R hW h0 p0 p1 p2 hG) (cwV 3 hts (gdV ml_L_19 im_X9_ready se_X9_X9_ready in_X9 co_X9_ready rfl) rfl rfl rfl (by decide +kernel) ⟨Nat.le_of_ble_eq_true rfl, Nat.le_of_ble_eq_true rfl⟩) hT (fun U hU hW => hK.go hW hS hAz hU) (va_recv hK.1 (va_one hx9) (ci := 9) (q0 := 0) rfl rfl) rfl rfl hl.1 rfl (lv_room (Nat.le_of_ble_eq_true rfl)) dL_ready_4 ⟨Nat.le_of_ble_eq_true rfl, Nat.le_of_ble_eq_true rfl⟩) hS (fun q _ h => h) (fun q h => h) (fun q _ h => h) (fun En ce q9 _ t H locs ht hvm hw hB hz hk hS hc1 hc2 hc3 => ?_) (fun u t H locs ht hvm hw hB hz hk hS => ?_)
  · clear hw
    rw [ht] at hB
    obtain ⟨hX, hT⟩ := hB
    have hX2 := X_En_X9_ready hX
    rcases hX2 with rfl | rfl
    · refine rr_catch (own := RL) (name := IAE) hown [] ⟨0, 7, 10, 13⟩ [⟨0, 7, 14, 22⟩] htab (fun z hz => nomatch hz) (by decide) (by decide) (hts _ cl_L_13) (hts _ ca_IllegalArgumentException_IllegalArgumentException) hc1 hc2 hc3 ?_
      refine lv_astore (lv' := [(4, .ref q9), (0, .ref h0), (1, .int p0), (2, .int p1), (3, .int p2)]) hx hb dL_ready_10 hl (by decide) rfl (fun ls hl => ?_)
      refine lv_iconst (v := 1) hx hb dL_ready_12 (by decide) ?_
      refine W.widen (k := 2) (n := 12) (Nat.le_of_ble_eq_true rfl) (Nat.le_of_ble_eq_true rfl) ?_
      exact W.iret (v := 1) hx hb hr (fun t ht hW => ⟨⟨1, (B, 0), rfl, Or.inr (Or.inl ⟨rfl, rfl, hX⟩), (by show TX E G B R t.heap; rw [ht]; exact hT)⟩, hS.F ht⟩) hS.2.2 dL_ready_13
    · refine rr_catch (own := RL) (name := ISE) hown [⟨0, 7, 10, 13⟩] ⟨0, 7, 14, 22⟩ [] htab (fun z hz => by rw [List.mem_singleton] at hz; subst hz; exact Or.inr ⟨by decide, IAE, hts _ cl_L_13, hN.1⟩) (by decide) (by decide) (hts _ cl_L_22) (hts _ ca_IllegalStateException_IllegalStateException) hc1 hc2 hc3 ?_
      refine lv_astore (lv' := [(4, .ref q9), (0, .ref h0), (1, .int p0), (2, .int p1), (3, .int p2)]) hx hb dL_ready_14 hl (by decide) rfl (fun ls hl => ?_)
      refine lv_iconst (v := 2) hx hb dL_ready_16 (by decide) ?_
      refine W.widen (k := 2) (n := 12) (Nat.le_of_ble_eq_true rfl) (Nat.le_of_ble_eq_true rfl) ?_
      exact W.iret (v := 2) hx hb hr (fun t ht hW => ⟨⟨2, (B, 0), rfl, Or.inr (Or.inr ⟨rfl, rfl, hX⟩), (by show TX E G B R t.heap; rw [ht]; exact hT)⟩, hS.F ht⟩) hS.2.2 dL_ready_17
  · rw [ht] at hB
    have hT : TX E G u R H := hB
    obtain ⟨hW2, hF2, hC⟩ := hw
    refine lv_goto (tgt := 18) hx hb dL_ready_7 (by decide) ?_
    refine lv_iconst (v := 0) hx hb dL_ready_18 (by decide) ?_
    refine W.widen (k := 2) (n := 12) (Nat.le_of_ble_eq_true rfl) (Nat.le_of_ble_eq_true rfl) ?_
    exact W.iret (v := 0) hx hb hr (fun t ht hW => ⟨⟨0, (u, 0), rfl, Or.inl ⟨rfl, hW2, hF2, hC⟩, (by show TX E G u R t.heap; rw [ht]; exact hT)⟩, hS.F ht⟩) hS.2.2 dL_ready_19
theorem dL_send_0 : decode cL_send 0 = .ok (.aload 4, 2) := by decide +kernel
theorem dL_send_2 : decode cL_send 2 = .ok (.iconst 0, 1) := by decide +kernel
theorem dL_send_3 : decode cL_send 3 = .ok (.aload_n 0, 1) := by decide +kernel
theorem dL_send_4 : decode cL_send 4 = .ok (.iload_n 1, 1) := by decide +kernel
theorem dL_send_5 : decode cL_send 5 = .ok (.iload_n 2, 1) := by decide +kernel
theorem dL_send_6 : decode cL_send 6 = .ok (.iload_n 3, 1) := by decide +kernel
theorem dL_send_7 : decode cL_send 7 = .ok (.invokevirtual 24, 3) := by decide +kernel
theorem dL_send_10 : decode cL_send 10 = .ok (.i2l, 1) := by decide +kernel
theorem dL_send_11 : decode cL_send 11 = .ok (.lastore, 1) := by decide +kernel
theorem dL_send_12 : decode cL_send 12 = .ok (.goto 11, 3) := by decide +kernel
theorem dL_send_15 : decode cL_send 15 = .ok (.astore 5, 2) := by decide +kernel
theorem dL_send_17 : decode cL_send 17 = .ok (.iconst 1, 1) := by decide +kernel
theorem dL_send_18 : decode cL_send 18 = .ok (.ireturn, 1) := by decide +kernel
theorem dL_send_19 : decode cL_send 19 = .ok (.astore 5, 2) := by decide +kernel
theorem dL_send_21 : decode cL_send 21 = .ok (.iconst 2, 1) := by decide +kernel
theorem dL_send_22 : decode cL_send 22 = .ok (.ireturn, 1) := by decide +kernel
theorem dL_send_23 : decode cL_send 23 = .ok (.iconst 0, 1) := by decide +kernel
theorem dL_send_24 : decode cL_send 24 = .ok (.ireturn, 1) := by decide +kernel
set_option maxHeartbeats 4000000 in
set_option maxRecDepth 100000 in
theorem w_L_send (l : Launch) (hst : l.stackTraces = false) (E : EE) (z0 : Nat) (G : Nat → Nat) (hGz : ∀ q, G q ≠ 0 → z0 ≤ q) (B : AA) (R : RR) (hW : TW G B R) (h0 : Nat) (p0 p1 p2 : Int32) (o0 : Nat) (hG : G h0 = 1) (hGo : G o0 = 0) (hoz : z0 ≤ o0) : Met l yL_send [Cond.codeWith yL_send cL_send 6 (some .int) [(0, 12, 15, 13), (0, 12, 19, 22)]] ({ frames := 8, cells := 2, slots := 12, locals := 124 } : Room) (va_Pc [.ref h0, .int p0, .int p1, .int p2, .ref o0] (fun U => (TX E G B R U.heap ∧ ∃ fo : Nat → Int64, va_at (DG E) vwCl (o0, .inl (E.2.2 2, 1, .inr (.inl fo))) U.heap) ∧ KS E z0 U ∧ NC U)) (va_Qi (fun (r : Int32) (u : AA × Int32 × Int64) => (r = 0 ∧ TW G u.1 R ∧ Fr G [9, 11, 13] B u.1 ∧ C_X9_send G B R h0 p0 p1 p2 u.1 u.2.1 ∧ u.2.2 = u.2.1.toInt64) ∨ (r = 1 ∧ u.1 = B ∧ X_X9_send G B R h0 p0 p1 p2 IAE) ∨ (r = 2 ∧ u.1 = B ∧ X_X9_send G B R h0 p0 p1 p2 ISE)) (fun u t => TX E G u.1 R t.heap ∧ ∃ fo : Nat → Int64, fo 0 = u.2.2 ∧ va_at (DG E) vwCl (o0, .inl (E.2.2 2, 1, .inr (.inl fo))) t.heap) (fun q : Nat => G q ∈ ([9, 11, 13] : List Nat) ∨ q = o0)) 2 12 (fun q : Nat => G q ∈ ([9, 11, 13] : List Nat) ∨ q = o0) := by
  refine va_MetW (cc := cL_send) (maxL := 6) (ret := (some .int)) (hh := [(0, 12, 15, 13), (0, 12, 19, 22)]) (by decide) rfl ?_
  intro p e s m args below meth c s₁ B9 hml hv
  obtain ⟨rfl, ⟨hT, fo, hro⟩, hK, hN⟩ := hv
  have hx := B9.exec
  have hb := B9.bytes
  have hr := B9.returns
  have hts : ∀ w ∈ TS, w.before ([.ref h0, .int p0, .int p1, .int p2, .ref o0] : List Value).toArray s = true := fun w hw => hK.2.1 w hw _
  have hown : s.vm.findClass RL = some m.cls := findClass_of_methodNamed B9.named
  have hlocks := B9.notSynchronized
  have hS : va_S (fun q : Nat => G q ∈ ([9, 11, 13] : List Nat) ∨ q = o0) s.heap s.heap [] := va_S.rf
  have hAz : ∀ q, (fun q : Nat => G q ∈ ([9, 11, 13] : List Nat) ∨ q = o0) q → z0 ≤ q := fun q h => h.elim (zL hGz (by decide) q) (fun e => by rw [e]; exact hoz)
  have htab := vx_table (x := yL_send) B9 (hts _ co_L_send)
  have hl := lv_entry ([.ref h0, .int p0, .int p1, .int p2, .ref o0]) (n := 6) (Nat.le_of_ble_eq_true rfl)
  rw [lg_entry_eq]
  generalize (lg_sl ([.ref h0, .int p0, .int p1, .int p2, .ref o0]) ++ List.replicate (6 - (lg_sl ([.ref h0, .int p0, .int p1, .int p2, .ref o0])).length) Slot.unset).toArray = ls at hl ⊢
  have hl : lv_has ls 6 [(0, .ref h0), (1, .int p0), (2, .int p1), (3, .int p2), (4, .ref o0)] := hl
  refine lv_aload hx hb dL_send_0 (lv_at hl 4 rfl) ?_
  refine lv_iconst (v := 0) hx hb dL_send_2 (by decide) ?_
  refine lv_aload_n hx hb dL_send_3 rfl (lv_at hl 0 rfl) ?_
  refine lv_iload_n hx hb dL_send_4 rfl (lv_at hl 1 rfl) ?_
  refine lv_iload_n hx hb dL_send_5 rfl (lv_at hl 2 rfl) ?_
  refine lv_iload_n hx hb dL_send_6 rfl (lv_at hl 3 rfl) ?_
  have hx9 := tx_1 hT hG
  refine vx_calli (rxV (fun H => TX E G B R H) (As := [.int p0, .int p1, .int p2]) (rest := [.int 0, .ref o0]) ⟨hx, hb, hml, hown, hts⟩ (x_X9_send l hst E z0 G hGz B R hW h0 p0 p1 p2 hG) (cwV 3 hts (gdV ml_L_24 im_X9_send se_X9_X9_send in_X9 co_X9_send rfl) rfl rfl rfl (by decide +kernel) ⟨Nat.le_of_ble_eq_true rfl, Nat.le_of_ble_eq_true rfl⟩) hT (fun U hU hW => hK.go hW hS hAz hU) (va_recv hK.1 (va_one hx9) (ci := 9) (q0 := 0) rfl rfl) rfl rfl hl.1 rfl (lv_room (Nat.le_of_ble_eq_true rfl)) dL_send_7 ⟨Nat.le_of_ble_eq_true rfl, Nat.le_of_ble_eq_true rfl⟩) hS (fun q _ h => Or.inl h) (fun q h => Or.inl h) (fun q _ h => Or.inl h) (fun En ce q9 _ t H locs ht hvm hw hB hz hk hS hc1 hc2 hc3 => ?_) (fun r u t H locs ht hvm hw hB hz hk hS => ?_)
  · clear hw
    rw [ht] at hB
    obtain ⟨hX, hT⟩ := hB
    have hro := hro.kept (hk _ hro.lt (fun h => zn (L := [9, 11, 13]) (by decide) h hGo))
    have hX2 := X_En_X9_send hX
    rcases hX2 with rfl | rfl
    · refine rr_catch (own := RL) (name := IAE) hown [] ⟨0, 12, 15, 13⟩ [⟨0, 12, 19, 22⟩] htab (fun z hz => nomatch hz) (by decide) (by decide) (hts _ cl_L_13) (hts _ ca_IllegalArgumentException_IllegalArgumentException) hc1 hc2 hc3 ?_
      refine lv_astore (lv' := [(5, .ref q9), (0, .ref h0), (1, .int p0), (2, .int p1), (3, .int p2), (4, .ref o0)]) hx hb dL_send_15 hl (by decide) rfl (fun ls hl => ?_)
      refine lv_iconst (v := 1) hx hb dL_send_17 (by decide) ?_
      refine W.widen (k := 2) (n := 12) (Nat.le_of_ble_eq_true rfl) (Nat.le_of_ble_eq_true rfl) ?_
      exact W.iret (v := 1) hx hb hr (fun t ht hW => ⟨⟨1, (B, 0, fo 0), rfl, Or.inr (Or.inl ⟨rfl, rfl, hX⟩), ⟨(by show TX E G B R t.heap; rw [ht]; exact hT), _, rfl, (by rw [ht]; exact hro)⟩⟩, hS.F ht⟩) hS.2.2 dL_send_18
    · refine rr_catch (own := RL) (name := ISE) hown [⟨0, 12, 15, 13⟩] ⟨0, 12, 19, 22⟩ [] htab (fun z hz => by rw [List.mem_singleton] at hz; subst hz; exact Or.inr ⟨by decide, IAE, hts _ cl_L_13, hN.1⟩) (by decide) (by decide) (hts _ cl_L_22) (hts _ ca_IllegalStateException_IllegalStateException) hc1 hc2 hc3 ?_
      refine lv_astore (lv' := [(5, .ref q9), (0, .ref h0), (1, .int p0), (2, .int p1), (3, .int p2), (4, .ref o0)]) hx hb dL_send_19 hl (by decide) rfl (fun ls hl => ?_)
      refine lv_iconst (v := 2) hx hb dL_send_21 (by decide) ?_
      refine W.widen (k := 2) (n := 12) (Nat.le_of_ble_eq_true rfl) (Nat.le_of_ble_eq_true rfl) ?_
      exact W.iret (v := 2) hx hb hr (fun t ht hW => ⟨⟨2, (B, 0, fo 0), rfl, Or.inr (Or.inr ⟨rfl, rfl, hX⟩), ⟨(by show TX E G B R t.heap; rw [ht]; exact hT), _, rfl, (by rw [ht]; exact hro)⟩⟩, hS.F ht⟩) hS.2.2 dL_send_22
  · rw [ht] at hB
    have hT : TX E G u R H := hB
    obtain ⟨hW2, hF2, hC⟩ := hw
    have hro := hro.kept (hk _ hro.lt (fun h => zn (L := [9, 11, 13]) (by decide) h hGo))
    refine lv_i2l hx hb dL_send_10 rfl ?_
    refine rr_last (D := DG E) hx hb hK.1 2 hro hS (Or.inr rfl) rfl (show vp_in (0) 1 from vp_in_iff.mpr ⟨by decide, by decide⟩) dL_send_11 (fun H locs hro ho hz hS => ?_)
    have hT : TX E G u R H := hT.offo hGo ho
    refine lv_goto (tgt := 23) hx hb dL_send_12 (by decide) ?_
    refine lv_iconst (v := 0) hx hb dL_send_23 (by decide) ?_
    refine W.widen (k := 2) (n := 12) (Nat.le_of_ble_eq_true rfl) (Nat.le_of_ble_eq_true rfl) ?_
    exact W.iret (v := 0) hx hb hr (fun t ht hW => ⟨⟨0, (u, r, r.toInt64), rfl, Or.inl ⟨rfl, hW2, hF2, hC, rfl⟩, ⟨(by show TX E G u R t.heap; rw [ht]; exact hT), _, vpu0, (by rw [ht]; exact hro)⟩⟩, hS.F ht⟩) hS.2.2 dL_send_24
theorem dL_move_0 : decode cL_move 0 = .ok (.aload 7, 2) := by decide +kernel
theorem dL_move_2 : decode cL_move 2 = .ok (.iconst 0, 1) := by decide +kernel
theorem dL_move_3 : decode cL_move 3 = .ok (.aload_n 0, 1) := by decide +kernel
theorem dL_move_4 : decode cL_move 4 = .ok (.iload_n 1, 1) := by decide +kernel
theorem dL_move_5 : decode cL_move 5 = .ok (.iload_n 2, 1) := by decide +kernel
theorem dL_move_6 : decode cL_move 6 = .ok (.iload_n 3, 1) := by decide +kernel
theorem dL_move_7 : decode cL_move 7 = .ok (.iload 4, 2) := by decide +kernel
theorem dL_move_9 : decode cL_move 9 = .ok (.iload 5, 2) := by decide +kernel
theorem dL_move_11 : decode cL_move 11 = .ok (.iload 6, 2) := by decide +kernel
theorem dL_move_13 : decode cL_move 13 = .ok (.invokevirtual 28, 3) := by decide +kernel
theorem dL_move_16 : decode cL_move 16 = .ok (.i2l, 1) := by decide +kernel
theorem dL_move_17 : decode cL_move 17 = .ok (.lastore, 1) := by decide +kernel
theorem dL_move_18 : decode cL_move 18 = .ok (.goto 11, 3) := by decide +kernel
theorem dL_move_21 : decode cL_move 21 = .ok (.astore 8, 2) := by decide +kernel
theorem dL_move_23 : decode cL_move 23 = .ok (.iconst 1, 1) := by decide +kernel
theorem dL_move_24 : decode cL_move 24 = .ok (.ireturn, 1) := by decide +kernel
theorem dL_move_25 : decode cL_move 25 = .ok (.astore 8, 2) := by decide +kernel
theorem dL_move_27 : decode cL_move 27 = .ok (.iconst 2, 1) := by decide +kernel
theorem dL_move_28 : decode cL_move 28 = .ok (.ireturn, 1) := by decide +kernel
theorem dL_move_29 : decode cL_move 29 = .ok (.iconst 0, 1) := by decide +kernel
theorem dL_move_30 : decode cL_move 30 = .ok (.ireturn, 1) := by decide +kernel
set_option maxHeartbeats 4000000 in
set_option maxRecDepth 100000 in
theorem w_L_move (l : Launch) (hst : l.stackTraces = false) (E : EE) (z0 : Nat) (G : Nat → Nat) (hGz : ∀ q, G q ≠ 0 → z0 ≤ q) (B : AA) (R : RR) (hW : TW G B R) (h0 : Nat) (p0 p1 p2 p3 p4 p5 : Int32) (o0 : Nat) (hG : G h0 = 1) (hGo : G o0 = 0) (hoz : z0 ≤ o0) : Met l yL_move [Cond.codeWith yL_move cL_move 9 (some .int) [(0, 18, 21, 13), (0, 18, 25, 22)]] ({ frames := 8, cells := 2, slots := 12, locals := 127 } : Room) (va_Pc [.ref h0, .int p0, .int p1, .int p2, .int p3, .int p4, .int p5, .ref o0] (fun U => (TX E G B R U.heap ∧ ∃ fo : Nat → Int64, va_at (DG E) vwCl (o0, .inl (E.2.2 2, 1, .inr (.inl fo))) U.heap) ∧ KS E z0 U ∧ NC U)) (va_Qi (fun (r : Int32) (u : AA × Int32 × Int64) => (r = 0 ∧ TW G u.1 R ∧ Fr G [9, 11, 13] B u.1 ∧ C_X9_move G B R h0 p0 p1 p2 p3 p4 p5 u.1 u.2.1 ∧ u.2.2 = u.2.1.toInt64) ∨ (r = 1 ∧ u.1 = B ∧ X_X9_move G B R h0 p0 p1 p2 p3 p4 p5 IAE) ∨ (r = 2 ∧ u.1 = B ∧ X_X9_move G B R h0 p0 p1 p2 p3 p4 p5 ISE)) (fun u t => TX E G u.1 R t.heap ∧ ∃ fo : Nat → Int64, fo 0 = u.2.2 ∧ va_at (DG E) vwCl (o0, .inl (E.2.2 2, 1, .inr (.inl fo))) t.heap) (fun q : Nat => G q ∈ ([9, 11, 13] : List Nat) ∨ q = o0)) 2 12 (fun q : Nat => G q ∈ ([9, 11, 13] : List Nat) ∨ q = o0) := by
  refine va_MetW (cc := cL_move) (maxL := 9) (ret := (some .int)) (hh := [(0, 18, 21, 13), (0, 18, 25, 22)]) (by decide) rfl ?_
  intro p e s m args below meth c s₁ B9 hml hv
  obtain ⟨rfl, ⟨hT, fo, hro⟩, hK, hN⟩ := hv
  have hx := B9.exec
  have hb := B9.bytes
  have hr := B9.returns
  have hts : ∀ w ∈ TS, w.before ([.ref h0, .int p0, .int p1, .int p2, .int p3, .int p4, .int p5, .ref o0] : List Value).toArray s = true := fun w hw => hK.2.1 w hw _
  have hown : s.vm.findClass RL = some m.cls := findClass_of_methodNamed B9.named
  have hlocks := B9.notSynchronized
  have hS : va_S (fun q : Nat => G q ∈ ([9, 11, 13] : List Nat) ∨ q = o0) s.heap s.heap [] := va_S.rf
  have hAz : ∀ q, (fun q : Nat => G q ∈ ([9, 11, 13] : List Nat) ∨ q = o0) q → z0 ≤ q := fun q h => h.elim (zL hGz (by decide) q) (fun e => by rw [e]; exact hoz)
  have htab := vx_table (x := yL_move) B9 (hts _ co_L_move)
  have hl := lv_entry ([.ref h0, .int p0, .int p1, .int p2, .int p3, .int p4, .int p5, .ref o0]) (n := 9) (Nat.le_of_ble_eq_true rfl)
  rw [lg_entry_eq]
  generalize (lg_sl ([.ref h0, .int p0, .int p1, .int p2, .int p3, .int p4, .int p5, .ref o0]) ++ List.replicate (9 - (lg_sl ([.ref h0, .int p0, .int p1, .int p2, .int p3, .int p4, .int p5, .ref o0])).length) Slot.unset).toArray = ls at hl ⊢
  have hl : lv_has ls 9 [(0, .ref h0), (1, .int p0), (2, .int p1), (3, .int p2), (4, .int p3), (5, .int p4), (6, .int p5), (7, .ref o0)] := hl
  refine lv_aload hx hb dL_move_0 (lv_at hl 7 rfl) ?_
  refine lv_iconst (v := 0) hx hb dL_move_2 (by decide) ?_
  refine lv_aload_n hx hb dL_move_3 rfl (lv_at hl 0 rfl) ?_
  refine lv_iload_n hx hb dL_move_4 rfl (lv_at hl 1 rfl) ?_
  refine lv_iload_n hx hb dL_move_5 rfl (lv_at hl 2 rfl) ?_
  refine lv_iload_n hx hb dL_move_6 rfl (lv_at hl 3 rfl) ?_
  refine lv_iload hx hb dL_move_7 (lv_at hl 4 rfl) ?_
  refine lv_iload hx hb dL_move_9 (lv_at hl 5 rfl) ?_
  refine lv_iload hx hb dL_move_11 (lv_at hl 6 rfl) ?_
  have hx9 := tx_1 hT hG
  refine vx_calli (rxV (fun H => TX E G B R H) (As := [.int p0, .int p1, .int p2, .int p3, .int p4, .int p5]) (rest := [.int 0, .ref o0]) ⟨hx, hb, hml, hown, hts⟩ (x_X9_move l hst E z0 G hGz B R hW h0 p0 p1 p2 p3 p4 p5 hG) (cwV 6 hts (gdV ml_L_28 im_X9_move se_X9_X9_move in_X9 co_X9_move rfl) rfl rfl rfl (by decide +kernel) ⟨Nat.le_of_ble_eq_true rfl, Nat.le_of_ble_eq_true rfl⟩) hT (fun U hU hW => hK.go hW hS hAz hU) (va_recv hK.1 (va_one hx9) (ci := 9) (q0 := 0) rfl rfl) rfl rfl hl.1 rfl (lv_room (Nat.le_of_ble_eq_true rfl)) dL_move_13 ⟨Nat.le_of_ble_eq_true rfl, Nat.le_of_ble_eq_true rfl⟩) hS (fun q _ h => Or.inl h) (fun q h => Or.inl h) (fun q _ h => Or.inl h) (fun En ce q9 _ t H locs ht hvm hw hB hz hk hS hc1 hc2 hc3 => ?_) (fun r u t H locs ht hvm hw hB hz hk hS => ?_)
  · clear hw
    rw [ht] at hB
    obtain ⟨hX, hT⟩ := hB
    have hro := hro.kept (hk _ hro.lt (fun h => zn (L := [9, 11, 13]) (by decide) h hGo))
    have hX2 := X_En_X9_move hX
    rcases hX2 with rfl | rfl
    · refine rr_catch (own := RL) (name := IAE) hown [] ⟨0, 18, 21, 13⟩ [⟨0, 18, 25, 22⟩] htab (fun z hz => nomatch hz) (by decide) (by decide) (hts _ cl_L_13) (hts _ ca_IllegalArgumentException_IllegalArgumentException) hc1 hc2 hc3 ?_
      refine lv_astore (lv' := [(8, .ref q9), (0, .ref h0), (1, .int p0), (2, .int p1), (3, .int p2), (4, .int p3), (5, .int p4), (6, .int p5), (7, .ref o0)]) hx hb dL_move_21 hl (by decide) rfl (fun ls hl => ?_)
      refine lv_iconst (v := 1) hx hb dL_move_23 (by decide) ?_
      refine W.widen (k := 2) (n := 12) (Nat.le_of_ble_eq_true rfl) (Nat.le_of_ble_eq_true rfl) ?_
      exact W.iret (v := 1) hx hb hr (fun t ht hW => ⟨⟨1, (B, 0, fo 0), rfl, Or.inr (Or.inl ⟨rfl, rfl, hX⟩), ⟨(by show TX E G B R t.heap; rw [ht]; exact hT), _, rfl, (by rw [ht]; exact hro)⟩⟩, hS.F ht⟩) hS.2.2 dL_move_24
    · refine rr_catch (own := RL) (name := ISE) hown [⟨0, 18, 21, 13⟩] ⟨0, 18, 25, 22⟩ [] htab (fun z hz => by rw [List.mem_singleton] at hz; subst hz; exact Or.inr ⟨by decide, IAE, hts _ cl_L_13, hN.1⟩) (by decide) (by decide) (hts _ cl_L_22) (hts _ ca_IllegalStateException_IllegalStateException) hc1 hc2 hc3 ?_
      refine lv_astore (lv' := [(8, .ref q9), (0, .ref h0), (1, .int p0), (2, .int p1), (3, .int p2), (4, .int p3), (5, .int p4), (6, .int p5), (7, .ref o0)]) hx hb dL_move_25 hl (by decide) rfl (fun ls hl => ?_)
      refine lv_iconst (v := 2) hx hb dL_move_27 (by decide) ?_
      refine W.widen (k := 2) (n := 12) (Nat.le_of_ble_eq_true rfl) (Nat.le_of_ble_eq_true rfl) ?_
      exact W.iret (v := 2) hx hb hr (fun t ht hW => ⟨⟨2, (B, 0, fo 0), rfl, Or.inr (Or.inr ⟨rfl, rfl, hX⟩), ⟨(by show TX E G B R t.heap; rw [ht]; exact hT), _, rfl, (by rw [ht]; exact hro)⟩⟩, hS.F ht⟩) hS.2.2 dL_move_28
  · rw [ht] at hB
    have hT : TX E G u R H := hB
    obtain ⟨hW2, hF2, hC⟩ := hw
    have hro := hro.kept (hk _ hro.lt (fun h => zn (L := [9, 11, 13]) (by decide) h hGo))
    refine lv_i2l hx hb dL_move_16 rfl ?_
    refine rr_last (D := DG E) hx hb hK.1 2 hro hS (Or.inr rfl) rfl (show vp_in (0) 1 from vp_in_iff.mpr ⟨by decide, by decide⟩) dL_move_17 (fun H locs hro ho hz hS => ?_)
    have hT : TX E G u R H := hT.offo hGo ho
    refine lv_goto (tgt := 29) hx hb dL_move_18 (by decide) ?_
    refine lv_iconst (v := 0) hx hb dL_move_29 (by decide) ?_
    refine W.widen (k := 2) (n := 12) (Nat.le_of_ble_eq_true rfl) (Nat.le_of_ble_eq_true rfl) ?_
    exact W.iret (v := 0) hx hb hr (fun t ht hW => ⟨⟨0, (u, r, r.toInt64), rfl, Or.inl ⟨rfl, hW2, hF2, hC, rfl⟩, ⟨(by show TX E G u R t.heap; rw [ht]; exact hT), _, vpu0, (by rw [ht]; exact hro)⟩⟩, hS.F ht⟩) hS.2.2 dL_move_30
theorem dL_add_0 : decode cL_add 0 = .ok (.aload 6, 2) := by decide +kernel
theorem dL_add_2 : decode cL_add 2 = .ok (.iconst 0, 1) := by decide +kernel
theorem dL_add_3 : decode cL_add 3 = .ok (.aload_n 0, 1) := by decide +kernel
theorem dL_add_4 : decode cL_add 4 = .ok (.iload_n 1, 1) := by decide +kernel
theorem dL_add_5 : decode cL_add 5 = .ok (.iload_n 2, 1) := by decide +kernel
theorem dL_add_6 : decode cL_add 6 = .ok (.iload_n 3, 1) := by decide +kernel
theorem dL_add_7 : decode cL_add 7 = .ok (.iload 4, 2) := by decide +kernel
theorem dL_add_9 : decode cL_add 9 = .ok (.iload 5, 2) := by decide +kernel
theorem dL_add_11 : decode cL_add 11 = .ok (.invokevirtual 32, 3) := by decide +kernel
theorem dL_add_14 : decode cL_add 14 = .ok (.i2l, 1) := by decide +kernel
theorem dL_add_15 : decode cL_add 15 = .ok (.lastore, 1) := by decide +kernel
theorem dL_add_16 : decode cL_add 16 = .ok (.goto 11, 3) := by decide +kernel
theorem dL_add_19 : decode cL_add 19 = .ok (.astore 7, 2) := by decide +kernel
theorem dL_add_21 : decode cL_add 21 = .ok (.iconst 1, 1) := by decide +kernel
theorem dL_add_22 : decode cL_add 22 = .ok (.ireturn, 1) := by decide +kernel
theorem dL_add_23 : decode cL_add 23 = .ok (.astore 7, 2) := by decide +kernel
theorem dL_add_25 : decode cL_add 25 = .ok (.iconst 2, 1) := by decide +kernel
theorem dL_add_26 : decode cL_add 26 = .ok (.ireturn, 1) := by decide +kernel
theorem dL_add_27 : decode cL_add 27 = .ok (.iconst 0, 1) := by decide +kernel
theorem dL_add_28 : decode cL_add 28 = .ok (.ireturn, 1) := by decide +kernel
set_option maxHeartbeats 4000000 in
set_option maxRecDepth 100000 in
theorem w_L_add (l : Launch) (hst : l.stackTraces = false) (E : EE) (z0 : Nat) (G : Nat → Nat) (hGz : ∀ q, G q ≠ 0 → z0 ≤ q) (B : AA) (R : RR) (hW : TW G B R) (h0 : Nat) (p0 p1 p2 p3 p4 : Int32) (o0 : Nat) (hG : G h0 = 1) (hGo : G o0 = 0) (hoz : z0 ≤ o0) : Met l yL_add [Cond.codeWith yL_add cL_add 8 (some .int) [(0, 16, 19, 13), (0, 16, 23, 22)]] ({ frames := 8, cells := 2, slots := 12, locals := 126 } : Room) (va_Pc [.ref h0, .int p0, .int p1, .int p2, .int p3, .int p4, .ref o0] (fun U => (TX E G B R U.heap ∧ ∃ fo : Nat → Int64, va_at (DG E) vwCl (o0, .inl (E.2.2 2, 1, .inr (.inl fo))) U.heap) ∧ KS E z0 U ∧ NC U)) (va_Qi (fun (r : Int32) (u : AA × Int32 × Int64) => (r = 0 ∧ TW G u.1 R ∧ Fr G [9, 11, 13] B u.1 ∧ C_X9_add G B R h0 p0 p1 p2 p3 p4 u.1 u.2.1 ∧ u.2.2 = u.2.1.toInt64) ∨ (r = 1 ∧ u.1 = B ∧ X_X9_add G B R h0 p0 p1 p2 p3 p4 IAE) ∨ (r = 2 ∧ u.1 = B ∧ X_X9_add G B R h0 p0 p1 p2 p3 p4 ISE)) (fun u t => TX E G u.1 R t.heap ∧ ∃ fo : Nat → Int64, fo 0 = u.2.2 ∧ va_at (DG E) vwCl (o0, .inl (E.2.2 2, 1, .inr (.inl fo))) t.heap) (fun q : Nat => G q ∈ ([9, 11, 13] : List Nat) ∨ q = o0)) 2 12 (fun q : Nat => G q ∈ ([9, 11, 13] : List Nat) ∨ q = o0) := by
  refine va_MetW (cc := cL_add) (maxL := 8) (ret := (some .int)) (hh := [(0, 16, 19, 13), (0, 16, 23, 22)]) (by decide) rfl ?_
  intro p e s m args below meth c s₁ B9 hml hv
  obtain ⟨rfl, ⟨hT, fo, hro⟩, hK, hN⟩ := hv
  have hx := B9.exec
  have hb := B9.bytes
  have hr := B9.returns
  have hts : ∀ w ∈ TS, w.before ([.ref h0, .int p0, .int p1, .int p2, .int p3, .int p4, .ref o0] : List Value).toArray s = true := fun w hw => hK.2.1 w hw _
  have hown : s.vm.findClass RL = some m.cls := findClass_of_methodNamed B9.named
  have hlocks := B9.notSynchronized
  have hS : va_S (fun q : Nat => G q ∈ ([9, 11, 13] : List Nat) ∨ q = o0) s.heap s.heap [] := va_S.rf
  have hAz : ∀ q, (fun q : Nat => G q ∈ ([9, 11, 13] : List Nat) ∨ q = o0) q → z0 ≤ q := fun q h => h.elim (zL hGz (by decide) q) (fun e => by rw [e]; exact hoz)
  have htab := vx_table (x := yL_add) B9 (hts _ co_L_add)
  have hl := lv_entry ([.ref h0, .int p0, .int p1, .int p2, .int p3, .int p4, .ref o0]) (n := 8) (Nat.le_of_ble_eq_true rfl)
  rw [lg_entry_eq]
  generalize (lg_sl ([.ref h0, .int p0, .int p1, .int p2, .int p3, .int p4, .ref o0]) ++ List.replicate (8 - (lg_sl ([.ref h0, .int p0, .int p1, .int p2, .int p3, .int p4, .ref o0])).length) Slot.unset).toArray = ls at hl ⊢
  have hl : lv_has ls 8 [(0, .ref h0), (1, .int p0), (2, .int p1), (3, .int p2), (4, .int p3), (5, .int p4), (6, .ref o0)] := hl
  refine lv_aload hx hb dL_add_0 (lv_at hl 6 rfl) ?_
  refine lv_iconst (v := 0) hx hb dL_add_2 (by decide) ?_
  refine lv_aload_n hx hb dL_add_3 rfl (lv_at hl 0 rfl) ?_
  refine lv_iload_n hx hb dL_add_4 rfl (lv_at hl 1 rfl) ?_
  refine lv_iload_n hx hb dL_add_5 rfl (lv_at hl 2 rfl) ?_
  refine lv_iload_n hx hb dL_add_6 rfl (lv_at hl 3 rfl) ?_
  refine lv_iload hx hb dL_add_7 (lv_at hl 4 rfl) ?_
  refine lv_iload hx hb dL_add_9 (lv_at hl 5 rfl) ?_
  have hx9 := tx_1 hT hG
  refine vx_calli (rxV (fun H => TX E G B R H) (As := [.int p0, .int p1, .int p2, .int p3, .int p4]) (rest := [.int 0, .ref o0]) ⟨hx, hb, hml, hown, hts⟩ (x_X9_add l hst E z0 G hGz B R hW h0 p0 p1 p2 p3 p4 hG) (cwV 5 hts (gdV ml_L_32 im_X9_add se_X9_X9_add in_X9 co_X9_add rfl) rfl rfl rfl (by decide +kernel) ⟨Nat.le_of_ble_eq_true rfl, Nat.le_of_ble_eq_true rfl⟩) hT (fun U hU hW => hK.go hW hS hAz hU) (va_recv hK.1 (va_one hx9) (ci := 9) (q0 := 0) rfl rfl) rfl rfl hl.1 rfl (lv_room (Nat.le_of_ble_eq_true rfl)) dL_add_11 ⟨Nat.le_of_ble_eq_true rfl, Nat.le_of_ble_eq_true rfl⟩) hS (fun q _ h => Or.inl h) (fun q h => Or.inl h) (fun q _ h => Or.inl h) (fun En ce q9 _ t H locs ht hvm hw hB hz hk hS hc1 hc2 hc3 => ?_) (fun r u t H locs ht hvm hw hB hz hk hS => ?_)
  · clear hw
    rw [ht] at hB
    obtain ⟨hX, hT⟩ := hB
    have hro := hro.kept (hk _ hro.lt (fun h => zn (L := [9, 11, 13]) (by decide) h hGo))
    have hX2 := X_En_X9_add hX
    rcases hX2 with rfl | rfl
    · refine rr_catch (own := RL) (name := IAE) hown [] ⟨0, 16, 19, 13⟩ [⟨0, 16, 23, 22⟩] htab (fun z hz => nomatch hz) (by decide) (by decide) (hts _ cl_L_13) (hts _ ca_IllegalArgumentException_IllegalArgumentException) hc1 hc2 hc3 ?_
      refine lv_astore (lv' := [(7, .ref q9), (0, .ref h0), (1, .int p0), (2, .int p1), (3, .int p2), (4, .int p3), (5, .int p4), (6, .ref o0)]) hx hb dL_add_19 hl (by decide) rfl (fun ls hl => ?_)
      refine lv_iconst (v := 1) hx hb dL_add_21 (by decide) ?_
      refine W.widen (k := 2) (n := 12) (Nat.le_of_ble_eq_true rfl) (Nat.le_of_ble_eq_true rfl) ?_
      exact W.iret (v := 1) hx hb hr (fun t ht hW => ⟨⟨1, (B, 0, fo 0), rfl, Or.inr (Or.inl ⟨rfl, rfl, hX⟩), ⟨(by show TX E G B R t.heap; rw [ht]; exact hT), _, rfl, (by rw [ht]; exact hro)⟩⟩, hS.F ht⟩) hS.2.2 dL_add_22
    · refine rr_catch (own := RL) (name := ISE) hown [⟨0, 16, 19, 13⟩] ⟨0, 16, 23, 22⟩ [] htab (fun z hz => by rw [List.mem_singleton] at hz; subst hz; exact Or.inr ⟨by decide, IAE, hts _ cl_L_13, hN.1⟩) (by decide) (by decide) (hts _ cl_L_22) (hts _ ca_IllegalStateException_IllegalStateException) hc1 hc2 hc3 ?_
      refine lv_astore (lv' := [(7, .ref q9), (0, .ref h0), (1, .int p0), (2, .int p1), (3, .int p2), (4, .int p3), (5, .int p4), (6, .ref o0)]) hx hb dL_add_23 hl (by decide) rfl (fun ls hl => ?_)
      refine lv_iconst (v := 2) hx hb dL_add_25 (by decide) ?_
      refine W.widen (k := 2) (n := 12) (Nat.le_of_ble_eq_true rfl) (Nat.le_of_ble_eq_true rfl) ?_
      exact W.iret (v := 2) hx hb hr (fun t ht hW => ⟨⟨2, (B, 0, fo 0), rfl, Or.inr (Or.inr ⟨rfl, rfl, hX⟩), ⟨(by show TX E G B R t.heap; rw [ht]; exact hT), _, rfl, (by rw [ht]; exact hro)⟩⟩, hS.F ht⟩) hS.2.2 dL_add_26
  · rw [ht] at hB
    have hT : TX E G u R H := hB
    obtain ⟨hW2, hF2, hC⟩ := hw
    have hro := hro.kept (hk _ hro.lt (fun h => zn (L := [9, 11, 13]) (by decide) h hGo))
    refine lv_i2l hx hb dL_add_14 rfl ?_
    refine rr_last (D := DG E) hx hb hK.1 2 hro hS (Or.inr rfl) rfl (show vp_in (0) 1 from vp_in_iff.mpr ⟨by decide, by decide⟩) dL_add_15 (fun H locs hro ho hz hS => ?_)
    have hT : TX E G u R H := hT.offo hGo ho
    refine lv_goto (tgt := 27) hx hb dL_add_16 (by decide) ?_
    refine lv_iconst (v := 0) hx hb dL_add_27 (by decide) ?_
    refine W.widen (k := 2) (n := 12) (Nat.le_of_ble_eq_true rfl) (Nat.le_of_ble_eq_true rfl) ?_
    exact W.iret (v := 0) hx hb hr (fun t ht hW => ⟨⟨0, (u, r, r.toInt64), rfl, Or.inl ⟨rfl, hW2, hF2, hC, rfl⟩, ⟨(by show TX E G u R t.heap; rw [ht]; exact hT), _, vpu0, (by rw [ht]; exact hro)⟩⟩, hS.F ht⟩) hS.2.2 dL_add_28
theorem dL_receive_0 : decode cL_receive 0 = .ok (.aload 4, 2) := by decide +kernel
theorem dL_receive_2 : decode cL_receive 2 = .ok (.iconst 0, 1) := by decide +kernel
theorem dL_receive_3 : decode cL_receive 3 = .ok (.aload_n 0, 1) := by decide +kernel
theorem dL_receive_4 : decode cL_receive 4 = .ok (.iload_n 1, 1) := by decide +kernel
theorem dL_receive_5 : decode cL_receive 5 = .ok (.iload_n 2, 1) := by decide +kernel
theorem dL_receive_6 : decode cL_receive 6 = .ok (.iload_n 3, 1) := by decide +kernel
theorem dL_receive_7 : decode cL_receive 7 = .ok (.invokevirtual 36, 3) := by decide +kernel
theorem dL_receive_10 : decode cL_receive 10 = .ok (.i2l, 1) := by decide +kernel
theorem dL_receive_11 : decode cL_receive 11 = .ok (.lastore, 1) := by decide +kernel
theorem dL_receive_12 : decode cL_receive 12 = .ok (.goto 11, 3) := by decide +kernel
theorem dL_receive_15 : decode cL_receive 15 = .ok (.astore 5, 2) := by decide +kernel
theorem dL_receive_17 : decode cL_receive 17 = .ok (.iconst 1, 1) := by decide +kernel
theorem dL_receive_18 : decode cL_receive 18 = .ok (.ireturn, 1) := by decide +kernel
theorem dL_receive_19 : decode cL_receive 19 = .ok (.astore 5, 2) := by decide +kernel
theorem dL_receive_21 : decode cL_receive 21 = .ok (.iconst 2, 1) := by decide +kernel
theorem dL_receive_22 : decode cL_receive 22 = .ok (.ireturn, 1) := by decide +kernel
theorem dL_receive_23 : decode cL_receive 23 = .ok (.iconst 0, 1) := by decide +kernel
theorem dL_receive_24 : decode cL_receive 24 = .ok (.ireturn, 1) := by decide +kernel
set_option maxHeartbeats 4000000 in
set_option maxRecDepth 100000 in
theorem w_L_receive (l : Launch) (hst : l.stackTraces = false) (E : EE) (z0 : Nat) (G : Nat → Nat) (hGz : ∀ q, G q ≠ 0 → z0 ≤ q) (B : AA) (R : RR) (hW : TW G B R) (h0 : Nat) (p0 p1 p2 : Int32) (o0 : Nat) (hG : G h0 = 1) (hGo : G o0 = 0) (hoz : z0 ≤ o0) : Met l yL_receive [Cond.codeWith yL_receive cL_receive 6 (some .int) [(0, 12, 15, 13), (0, 12, 19, 22)]] ({ frames := 8, cells := 2, slots := 12, locals := 124 } : Room) (va_Pc [.ref h0, .int p0, .int p1, .int p2, .ref o0] (fun U => (TX E G B R U.heap ∧ ∃ fo : Nat → Int64, va_at (DG E) vwCl (o0, .inl (E.2.2 2, 1, .inr (.inl fo))) U.heap) ∧ KS E z0 U ∧ NC U)) (va_Qi (fun (r : Int32) (u : AA × Int32 × Int64) => (r = 0 ∧ TW G u.1 R ∧ Fr G [11, 13] B u.1 ∧ C_X9_receive G B R h0 p0 p1 p2 u.1 u.2.1 ∧ u.2.2 = u.2.1.toInt64) ∨ (r = 1 ∧ u.1 = B ∧ X_X9_receive G B R h0 p0 p1 p2 IAE) ∨ (r = 2 ∧ u.1 = B ∧ X_X9_receive G B R h0 p0 p1 p2 ISE)) (fun u t => TX E G u.1 R t.heap ∧ ∃ fo : Nat → Int64, fo 0 = u.2.2 ∧ va_at (DG E) vwCl (o0, .inl (E.2.2 2, 1, .inr (.inl fo))) t.heap) (fun q : Nat => G q ∈ ([11, 13] : List Nat) ∨ q = o0)) 2 12 (fun q : Nat => G q ∈ ([11, 13] : List Nat) ∨ q = o0) := by
  refine va_MetW (cc := cL_receive) (maxL := 6) (ret := (some .int)) (hh := [(0, 12, 15, 13), (0, 12, 19, 22)]) (by decide) rfl ?_
  intro p e s m args below meth c s₁ B9 hml hv
  obtain ⟨rfl, ⟨hT, fo, hro⟩, hK, hN⟩ := hv
  have hx := B9.exec
  have hb := B9.bytes
  have hr := B9.returns
  have hts : ∀ w ∈ TS, w.before ([.ref h0, .int p0, .int p1, .int p2, .ref o0] : List Value).toArray s = true := fun w hw => hK.2.1 w hw _
  have hown : s.vm.findClass RL = some m.cls := findClass_of_methodNamed B9.named
  have hlocks := B9.notSynchronized
  have hS : va_S (fun q : Nat => G q ∈ ([11, 13] : List Nat) ∨ q = o0) s.heap s.heap [] := va_S.rf
  have hAz : ∀ q, (fun q : Nat => G q ∈ ([11, 13] : List Nat) ∨ q = o0) q → z0 ≤ q := fun q h => h.elim (zL hGz (by decide) q) (fun e => by rw [e]; exact hoz)
  have htab := vx_table (x := yL_receive) B9 (hts _ co_L_receive)
  have hl := lv_entry ([.ref h0, .int p0, .int p1, .int p2, .ref o0]) (n := 6) (Nat.le_of_ble_eq_true rfl)
  rw [lg_entry_eq]
  generalize (lg_sl ([.ref h0, .int p0, .int p1, .int p2, .ref o0]) ++ List.replicate (6 - (lg_sl ([.ref h0, .int p0, .int p1, .int p2, .ref o0])).length) Slot.unset).toArray = ls at hl ⊢
  have hl : lv_has ls 6 [(0, .ref h0), (1, .int p0), (2, .int p1), (3, .int p2), (4, .ref o0)] := hl
  refine lv_aload hx hb dL_receive_0 (lv_at hl 4 rfl) ?_
  refine lv_iconst (v := 0) hx hb dL_receive_2 (by decide) ?_
  refine lv_aload_n hx hb dL_receive_3 rfl (lv_at hl 0 rfl) ?_
  refine lv_iload_n hx hb dL_receive_4 rfl (lv_at hl 1 rfl) ?_
  refine lv_iload_n hx hb dL_receive_5 rfl (lv_at hl 2 rfl) ?_
  refine lv_iload_n hx hb dL_receive_6 rfl (lv_at hl 3 rfl) ?_
  have hx9 := tx_1 hT hG
  refine vx_calli (rxV (fun H => TX E G B R H) (As := [.int p0, .int p1, .int p2]) (rest := [.int 0, .ref o0]) ⟨hx, hb, hml, hown, hts⟩ (x_X9_receive l hst E z0 G hGz B R hW h0 p0 p1 p2 hG) (cwV 3 hts (gdV ml_L_36 im_X9_receive se_X9_X9_receive in_X9 co_X9_receive rfl) rfl rfl rfl (by decide +kernel) ⟨Nat.le_of_ble_eq_true rfl, Nat.le_of_ble_eq_true rfl⟩) hT (fun U hU hW => hK.go hW hS hAz hU) (va_recv hK.1 (va_one hx9) (ci := 9) (q0 := 0) rfl rfl) rfl rfl hl.1 rfl (lv_room (Nat.le_of_ble_eq_true rfl)) dL_receive_7 ⟨Nat.le_of_ble_eq_true rfl, Nat.le_of_ble_eq_true rfl⟩) hS (fun q _ h => Or.inl h) (fun q h => Or.inl h) (fun q _ h => Or.inl h) (fun En ce q9 _ t H locs ht hvm hw hB hz hk hS hc1 hc2 hc3 => ?_) (fun r u t H locs ht hvm hw hB hz hk hS => ?_)
  · clear hw
    rw [ht] at hB
    obtain ⟨hX, hT⟩ := hB
    have hro := hro.kept (hk _ hro.lt (fun h => zn (L := [11, 13]) (by decide) h hGo))
    have hX2 := X_En_X9_receive hX
    rcases hX2 with rfl | rfl
    · refine rr_catch (own := RL) (name := IAE) hown [] ⟨0, 12, 15, 13⟩ [⟨0, 12, 19, 22⟩] htab (fun z hz => nomatch hz) (by decide) (by decide) (hts _ cl_L_13) (hts _ ca_IllegalArgumentException_IllegalArgumentException) hc1 hc2 hc3 ?_
      refine lv_astore (lv' := [(5, .ref q9), (0, .ref h0), (1, .int p0), (2, .int p1), (3, .int p2), (4, .ref o0)]) hx hb dL_receive_15 hl (by decide) rfl (fun ls hl => ?_)
      refine lv_iconst (v := 1) hx hb dL_receive_17 (by decide) ?_
      refine W.widen (k := 2) (n := 12) (Nat.le_of_ble_eq_true rfl) (Nat.le_of_ble_eq_true rfl) ?_
      exact W.iret (v := 1) hx hb hr (fun t ht hW => ⟨⟨1, (B, 0, fo 0), rfl, Or.inr (Or.inl ⟨rfl, rfl, hX⟩), ⟨(by show TX E G B R t.heap; rw [ht]; exact hT), _, rfl, (by rw [ht]; exact hro)⟩⟩, hS.F ht⟩) hS.2.2 dL_receive_18
    · refine rr_catch (own := RL) (name := ISE) hown [⟨0, 12, 15, 13⟩] ⟨0, 12, 19, 22⟩ [] htab (fun z hz => by rw [List.mem_singleton] at hz; subst hz; exact Or.inr ⟨by decide, IAE, hts _ cl_L_13, hN.1⟩) (by decide) (by decide) (hts _ cl_L_22) (hts _ ca_IllegalStateException_IllegalStateException) hc1 hc2 hc3 ?_
      refine lv_astore (lv' := [(5, .ref q9), (0, .ref h0), (1, .int p0), (2, .int p1), (3, .int p2), (4, .ref o0)]) hx hb dL_receive_19 hl (by decide) rfl (fun ls hl => ?_)
      refine lv_iconst (v := 2) hx hb dL_receive_21 (by decide) ?_
      refine W.widen (k := 2) (n := 12) (Nat.le_of_ble_eq_true rfl) (Nat.le_of_ble_eq_true rfl) ?_
      exact W.iret (v := 2) hx hb hr (fun t ht hW => ⟨⟨2, (B, 0, fo 0), rfl, Or.inr (Or.inr ⟨rfl, rfl, hX⟩), ⟨(by show TX E G B R t.heap; rw [ht]; exact hT), _, rfl, (by rw [ht]; exact hro)⟩⟩, hS.F ht⟩) hS.2.2 dL_receive_22
  · rw [ht] at hB
    have hT : TX E G u R H := hB
    obtain ⟨hW2, hF2, hC⟩ := hw
    have hro := hro.kept (hk _ hro.lt (fun h => zn (L := [11, 13]) (by decide) h hGo))
    refine lv_i2l hx hb dL_receive_10 rfl ?_
    refine rr_last (D := DG E) hx hb hK.1 2 hro hS (Or.inr rfl) rfl (show vp_in (0) 1 from vp_in_iff.mpr ⟨by decide, by decide⟩) dL_receive_11 (fun H locs hro ho hz hS => ?_)
    have hT : TX E G u R H := hT.offo hGo ho
    refine lv_goto (tgt := 23) hx hb dL_receive_12 (by decide) ?_
    refine lv_iconst (v := 0) hx hb dL_receive_23 (by decide) ?_
    refine W.widen (k := 2) (n := 12) (Nat.le_of_ble_eq_true rfl) (Nat.le_of_ble_eq_true rfl) ?_
    exact W.iret (v := 0) hx hb hr (fun t ht hW => ⟨⟨0, (u, r, r.toInt64), rfl, Or.inl ⟨rfl, hW2, hF2, hC, rfl⟩, ⟨(by show TX E G u R t.heap; rw [ht]; exact hT), _, vpu0, (by rw [ht]; exact hro)⟩⟩, hS.F ht⟩) hS.2.2 dL_receive_24
theorem dL_poll_0 : decode cL_poll 0 = .ok (.aload_n 3, 1) := by decide +kernel
theorem dL_poll_1 : decode cL_poll 1 = .ok (.iconst 0, 1) := by decide +kernel
theorem dL_poll_2 : decode cL_poll 2 = .ok (.aload_n 0, 1) := by decide +kernel
theorem dL_poll_3 : decode cL_poll 3 = .ok (.iload_n 1, 1) := by decide +kernel
theorem dL_poll_4 : decode cL_poll 4 = .ok (.iload_n 2, 1) := by decide +kernel
theorem dL_poll_5 : decode cL_poll 5 = .ok (.invokevirtual 39, 3) := by decide +kernel
theorem dL_poll_8 : decode cL_poll 8 = .ok (.i2l, 1) := by decide +kernel
theorem dL_poll_9 : decode cL_poll 9 = .ok (.lastore, 1) := by decide +kernel
theorem dL_poll_10 : decode cL_poll 10 = .ok (.goto 11, 3) := by decide +kernel
theorem dL_poll_13 : decode cL_poll 13 = .ok (.astore 4, 2) := by decide +kernel
theorem dL_poll_15 : decode cL_poll 15 = .ok (.iconst 1, 1) := by decide +kernel
theorem dL_poll_16 : decode cL_poll 16 = .ok (.ireturn, 1) := by decide +kernel
theorem dL_poll_17 : decode cL_poll 17 = .ok (.astore 4, 2) := by decide +kernel
theorem dL_poll_19 : decode cL_poll 19 = .ok (.iconst 2, 1) := by decide +kernel
theorem dL_poll_20 : decode cL_poll 20 = .ok (.ireturn, 1) := by decide +kernel
theorem dL_poll_21 : decode cL_poll 21 = .ok (.iconst 0, 1) := by decide +kernel
theorem dL_poll_22 : decode cL_poll 22 = .ok (.ireturn, 1) := by decide +kernel
set_option maxHeartbeats 4000000 in
set_option maxRecDepth 100000 in
theorem w_L_poll (l : Launch) (hst : l.stackTraces = false) (E : EE) (z0 : Nat) (G : Nat → Nat) (hGz : ∀ q, G q ≠ 0 → z0 ≤ q) (B : AA) (R : RR) (hW : TW G B R) (h0 : Nat) (p0 p1 : Int32) (o0 : Nat) (hG : G h0 = 1) (hGo : G o0 = 0) (hoz : z0 ≤ o0) : Met l yL_poll [Cond.codeWith yL_poll cL_poll 5 (some .int) [(0, 10, 13, 13), (0, 10, 17, 43)]] ({ frames := 8, cells := 2, slots := 12, locals := 123 } : Room) (va_Pc [.ref h0, .int p0, .int p1, .ref o0] (fun U => (TX E G B R U.heap ∧ ∃ fo : Nat → Int64, va_at (DG E) vwCl (o0, .inl (E.2.2 2, 1, .inr (.inl fo))) U.heap) ∧ KS E z0 U ∧ NC U)) (va_Qi (fun (r : Int32) (u : AA × Int32 × Int64) => (r = 0 ∧ TW G u.1 R ∧ Fr G [5] B u.1 ∧ C_X9_poll G B R h0 p0 p1 u.1 u.2.1 ∧ u.2.2 = u.2.1.toInt64) ∨ (r = 1 ∧ u.1 = B ∧ X_X9_poll G B R h0 p0 p1 IAE) ∨ (r = 2 ∧ u.1 = B ∧ X_X9_poll G B R h0 p0 p1 NSE)) (fun u t => TX E G u.1 R t.heap ∧ ∃ fo : Nat → Int64, fo 0 = u.2.2 ∧ va_at (DG E) vwCl (o0, .inl (E.2.2 2, 1, .inr (.inl fo))) t.heap) (fun q : Nat => G q ∈ ([5] : List Nat) ∨ q = o0)) 2 12 (fun q : Nat => G q ∈ ([5] : List Nat) ∨ q = o0) := by
  refine va_MetW (cc := cL_poll) (maxL := 5) (ret := (some .int)) (hh := [(0, 10, 13, 13), (0, 10, 17, 43)]) (by decide) rfl ?_
  intro p e s m args below meth c s₁ B9 hml hv
  obtain ⟨rfl, ⟨hT, fo, hro⟩, hK, hN⟩ := hv
  have hx := B9.exec
  have hb := B9.bytes
  have hr := B9.returns
  have hts : ∀ w ∈ TS, w.before ([.ref h0, .int p0, .int p1, .ref o0] : List Value).toArray s = true := fun w hw => hK.2.1 w hw _
  have hown : s.vm.findClass RL = some m.cls := findClass_of_methodNamed B9.named
  have hlocks := B9.notSynchronized
  have hS : va_S (fun q : Nat => G q ∈ ([5] : List Nat) ∨ q = o0) s.heap s.heap [] := va_S.rf
  have hAz : ∀ q, (fun q : Nat => G q ∈ ([5] : List Nat) ∨ q = o0) q → z0 ≤ q := fun q h => h.elim (zL hGz (by decide) q) (fun e => by rw [e]; exact hoz)
  have htab := vx_table (x := yL_poll) B9 (hts _ co_L_poll)
  have hl := lv_entry ([.ref h0, .int p0, .int p1, .ref o0]) (n := 5) (Nat.le_of_ble_eq_true rfl)
  rw [lg_entry_eq]
  generalize (lg_sl ([.ref h0, .int p0, .int p1, .ref o0]) ++ List.replicate (5 - (lg_sl ([.ref h0, .int p0, .int p1, .ref o0])).length) Slot.unset).toArray = ls at hl ⊢
  have hl : lv_has ls 5 [(0, .ref h0), (1, .int p0), (2, .int p1), (3, .ref o0)] := hl
  refine lv_aload_n hx hb dL_poll_0 rfl (lv_at hl 3 rfl) ?_
  refine lv_iconst (v := 0) hx hb dL_poll_1 (by decide) ?_
  refine lv_aload_n hx hb dL_poll_2 rfl (lv_at hl 0 rfl) ?_
  refine lv_iload_n hx hb dL_poll_3 rfl (lv_at hl 1 rfl) ?_
  refine lv_iload_n hx hb dL_poll_4 rfl (lv_at hl 2 rfl) ?_
  have hx9 := tx_1 hT hG
  refine vx_calli (rxV (fun H => TX E G B R H) (As := [.int p0, .int p1]) (rest := [.int 0, .ref o0]) ⟨hx, hb, hml, hown, hts⟩ (x_X9_poll l hst E z0 G hGz B R hW h0 p0 p1 hG) (cwV 2 hts (gdV ml_L_39 im_X9_poll se_X9_X9_poll in_X9 co_X9_poll rfl) rfl rfl rfl (by decide +kernel) ⟨Nat.le_of_ble_eq_true rfl, Nat.le_of_ble_eq_true rfl⟩) hT (fun U hU hW => hK.go hW hS hAz hU) (va_recv hK.1 (va_one hx9) (ci := 9) (q0 := 0) rfl rfl) rfl rfl hl.1 rfl (lv_room (Nat.le_of_ble_eq_true rfl)) dL_poll_5 ⟨Nat.le_of_ble_eq_true rfl, Nat.le_of_ble_eq_true rfl⟩) hS (fun q _ h => Or.inl h) (fun q h => Or.inl h) (fun q _ h => Or.inl h) (fun En ce q9 _ t H locs ht hvm hw hB hz hk hS hc1 hc2 hc3 => ?_) (fun r u t H locs ht hvm hw hB hz hk hS => ?_)
  · clear hw
    rw [ht] at hB
    obtain ⟨hX, hT⟩ := hB
    have hro := hro.kept (hk _ hro.lt (fun h => zn (L := [5]) (by decide) h hGo))
    have hX2 := X_En_X9_poll hX
    rcases hX2 with rfl | rfl
    · refine rr_catch (own := RL) (name := IAE) hown [] ⟨0, 10, 13, 13⟩ [⟨0, 10, 17, 43⟩] htab (fun z hz => nomatch hz) (by decide) (by decide) (hts _ cl_L_13) (hts _ ca_IllegalArgumentException_IllegalArgumentException) hc1 hc2 hc3 ?_
      refine lv_astore (lv' := [(4, .ref q9), (0, .ref h0), (1, .int p0), (2, .int p1), (3, .ref o0)]) hx hb dL_poll_13 hl (by decide) rfl (fun ls hl => ?_)
      refine lv_iconst (v := 1) hx hb dL_poll_15 (by decide) ?_
      refine W.widen (k := 2) (n := 12) (Nat.le_of_ble_eq_true rfl) (Nat.le_of_ble_eq_true rfl) ?_
      exact W.iret (v := 1) hx hb hr (fun t ht hW => ⟨⟨1, (B, 0, fo 0), rfl, Or.inr (Or.inl ⟨rfl, rfl, hX⟩), ⟨(by show TX E G B R t.heap; rw [ht]; exact hT), _, rfl, (by rw [ht]; exact hro)⟩⟩, hS.F ht⟩) hS.2.2 dL_poll_16
    · refine rr_catch (own := RL) (name := NSE) hown [⟨0, 10, 13, 13⟩] ⟨0, 10, 17, 43⟩ [] htab (fun z hz => by rw [List.mem_singleton] at hz; subst hz; exact Or.inr ⟨by decide, IAE, hts _ cl_L_13, hN.2⟩) (by decide) (by decide) (hts _ cl_L_43) (hts _ ca_NoSuchElementException_NoSuchElementException) hc1 hc2 hc3 ?_
      refine lv_astore (lv' := [(4, .ref q9), (0, .ref h0), (1, .int p0), (2, .int p1), (3, .ref o0)]) hx hb dL_poll_17 hl (by decide) rfl (fun ls hl => ?_)
      refine lv_iconst (v := 2) hx hb dL_poll_19 (by decide) ?_
      refine W.widen (k := 2) (n := 12) (Nat.le_of_ble_eq_true rfl) (Nat.le_of_ble_eq_true rfl) ?_
      exact W.iret (v := 2) hx hb hr (fun t ht hW => ⟨⟨2, (B, 0, fo 0), rfl, Or.inr (Or.inr ⟨rfl, rfl, hX⟩), ⟨(by show TX E G B R t.heap; rw [ht]; exact hT), _, rfl, (by rw [ht]; exact hro)⟩⟩, hS.F ht⟩) hS.2.2 dL_poll_20
  · rw [ht] at hB
    have hT : TX E G u R H := hB
    obtain ⟨hW2, hF2, hC⟩ := hw
    have hro := hro.kept (hk _ hro.lt (fun h => zn (L := [5]) (by decide) h hGo))
    refine lv_i2l hx hb dL_poll_8 rfl ?_
    refine rr_last (D := DG E) hx hb hK.1 2 hro hS (Or.inr rfl) rfl (show vp_in (0) 1 from vp_in_iff.mpr ⟨by decide, by decide⟩) dL_poll_9 (fun H locs hro ho hz hS => ?_)
    have hT : TX E G u R H := hT.offo hGo ho
    refine lv_goto (tgt := 21) hx hb dL_poll_10 (by decide) ?_
    refine lv_iconst (v := 0) hx hb dL_poll_21 (by decide) ?_
    refine W.widen (k := 2) (n := 12) (Nat.le_of_ble_eq_true rfl) (Nat.le_of_ble_eq_true rfl) ?_
    exact W.iret (v := 0) hx hb hr (fun t ht hW => ⟨⟨0, (u, r, r.toInt64), rfl, Or.inl ⟨rfl, hW2, hF2, hC, rfl⟩, ⟨(by show TX E G u R t.heap; rw [ht]; exact hT), _, vpu0, (by rw [ht]; exact hro)⟩⟩, hS.F ht⟩) hS.2.2 dL_poll_22
