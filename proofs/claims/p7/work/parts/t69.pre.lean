theorem arrP {s : State} {A : Array Value} {ty : FieldType} (h : (Cond.arrayClass ty).before A s = true) : ∃ c : ClassId, ArrOfT s c ty ∧ s.vm.findClass ("[" ++ ty.toString) = some c := by
  obtain ⟨c, k, comp, h1, h2, h3⟩ := Cond.arrayClass_spec h
  exact ⟨c, fun n z => ⟨fun k h => (by cases h), k, h2, comp, h3⟩, h1⟩
theorem arrO {s : State} {A : Array Value} {C : String} (h : (Cond.arrayOver (.object C)).before A s = true) : ∃ c : ClassId, ArrOfT s c (.object C) ∧ va_RA s c (.object C) := by
  obtain ⟨comp, c, k, h1, -, h3, h4, h5⟩ := Cond.arrayOver_spec h
  exact ⟨c, fun n z => ⟨fun k h => (by cases h), k, h3, comp, h4⟩, k, comp, h3, h4, h1, h5⟩
set_option maxHeartbeats 4000000 in
theorem knowE {s : State} {A : Array Value} (hts : ∀ w ∈ TS, w.before A s = true) : ∃ E : EE, va_K (DG E) vwCl (TYS E) s := by
  obtain ⟨c0, i0, k0⟩ := u_known (C := RX0) (T := TX0) (N := 4) (n := 4) hts iw_X0 (hts _ ia_X0)
  obtain ⟨c1, i1, k1⟩ := u_known (C := RX1) (T := TX1) (N := 5) (n := 5) hts iw_X1 (hts _ ia_X1)
  obtain ⟨c2, i2, k2⟩ := u_known (C := RX2) (T := TX2) (N := 8) (n := 8) hts iw_X2 (hts _ ia_X2)
  obtain ⟨c3, i3, k3⟩ := u_known (C := RX3) (T := TX3) (N := 3) (n := 3) hts iw_X3 (hts _ ia_X3)
  obtain ⟨c4, i4, k4⟩ := u_known (C := RX4) (T := TX4) (N := 10) (n := 10) hts iw_X4 (hts _ ia_X4)
  obtain ⟨c5, i5, k5⟩ := u_known (C := RX5) (T := TX5) (N := 6) (n := 6) hts iw_X5 (hts _ ia_X5)
  obtain ⟨c6, i6, k6⟩ := u_known (C := RX6) (T := TX6) (N := 3) (n := 3) hts iw_X6 (hts _ ia_X6)
  obtain ⟨c7, i7, k7⟩ := u_known (C := RX7) (T := TX7) (N := 14) (n := 14) hts iw_X7 (hts _ ia_X7)
  obtain ⟨c8, i8, k8⟩ := u_known (C := RX8) (T := TX8) (N := 9) (n := 9) hts iw_X8 (hts _ ia_X8)
  obtain ⟨c9, i9, k9⟩ := u_known (C := RX9) (T := TX9) (N := 3) (n := 3) hts iw_X9 (hts _ ia_X9)
  obtain ⟨c10, i10, k10⟩ := u_known (C := RX10) (T := TX10) (N := 49) (n := 49) hts iw_X10 (hts _ ia_X10)
  obtain ⟨a0, r0, t0⟩ := arrP (hts _ ac_int)
  obtain ⟨a1, r1, t1⟩ := arrP (hts _ ac_boolean)
  obtain ⟨a2, r2, t2⟩ := arrP (hts _ ac_long)
  obtain ⟨a3, r3, t3⟩ := arrO (hts _ ao_X1)
  obtain ⟨a4, r4, t4⟩ := arrO (hts _ ao_X6)
  obtain ⟨a5, r5, t5⟩ := arrO (hts _ ao_X3)
  obtain ⟨a6, r6, t6⟩ := arrO (hts _ ao_X4)
  obtain ⟨a7, r7, t7⟩ := arrO (hts _ ao_X2)
  refine ⟨(fun k => if k = 0 then c0 else if k = 1 then c1 else if k = 2 then c2 else if k = 3 then c3 else if k = 4 then c4 else if k = 5 then c5 else if k = 6 then c6 else if k = 7 then c7 else if k = 8 then c8 else if k = 9 then c9 else c10, fun k => if k = 0 then i0 else if k = 1 then i1 else if k = 2 then i2 else if k = 3 then i3 else if k = 4 then i4 else if k = 5 then i5 else if k = 6 then i6 else if k = 7 then i7 else if k = 8 then i8 else if k = 9 then i9 else i10, fun k => if k = 0 then a0 else if k = 1 then a1 else if k = 2 then a2 else if k = 3 then a3 else if k = 4 then a4 else if k = 5 then a5 else if k = 6 then a6 else a7), ?_, ?_⟩
  · intro k q hq
    match k, hq with
    | 0, hq => cases hq; exact k0
    | 1, hq => cases hq; exact k1
    | 2, hq => cases hq; exact k2
    | 3, hq => cases hq; exact k3
    | 4, hq => cases hq; exact k4
    | 5, hq => cases hq; exact k5
    | 6, hq => cases hq; exact k6
    | 7, hq => cases hq; exact k7
    | 8, hq => cases hq; exact k8
    | 9, hq => cases hq; exact k9
    | 10, hq => cases hq; exact k10
    | k + 11, hq => simp [vwCl] at hq
  · intro k q hq
    match k, hq with
    | 0, hq => cases hq; exact ⟨r0, t0⟩
    | 1, hq => cases hq; exact ⟨r1, t1⟩
    | 2, hq => cases hq; exact ⟨r2, t2⟩
    | 3, hq => cases hq; exact ⟨r3, t3⟩
    | 4, hq => cases hq; exact ⟨r4, t4⟩
    | 5, hq => cases hq; exact ⟨r5, t5⟩
    | 6, hq => cases hq; exact ⟨r6, t6⟩
    | 7, hq => cases hq; exact ⟨r7, t7⟩
    | k + 8, hq => simp at hq
theorem ml_US : Cond.laysStatic Bundle.tN "UNASSIGNED_STACK" Bundle.steD ∈ lw_tbl := List.mem_of_getElem? (i := 753) (by decide +kernel)
theorem ml_SS : Cond.laysStatic Bundle.tN "SUPPRESSED_SENTINEL" Bundle.listD ∈ lw_tbl := List.mem_of_getElem? (i := 755) (by decide +kernel)
theorem startK {p : Program} {s : State} {m : MethodId} {meth : Method} {c : Code} {b L : Nat} {xs : Nat → Int32} (C0 : lw_At p s m meth c b L xs) : (∃ E : EE, KS E s.heap.size s) ∧ NC s := by
  obtain ⟨hx, hb, hr, hml, hown, hts0, hX, hbl, hlocks, hgv⟩ := C0
  have hts : ∀ w ∈ TS, w.before #[Value.ref b] s = true := fun w hw => hts0 w (List.mem_filter.mp hw).1
  have hs := flat_of_before _ hgv
  have hA : ∀ a : Nat, a < s.heap.size → ¬ AZ s.heap.size a := fun a h q => absurd h (Nat.not_lt.mpr q)
  obtain ⟨E, hE⟩ := knowE hts
  refine ⟨⟨E, hE, KK.of hts0, ?_, ?_⟩, ?_, ?_⟩
  · exact vx_Zqof (hts0 _ ml_US) (hts _ in_Throwable) (hs _ (by decide +kernel)) hA
  · exact vx_Zqof (hts0 _ ml_SS) (hts _ in_Throwable) (hs _ (by decide +kernel)) hA
  · exact va_Nc.of (hs _ (by decide +kernel))
  · exact va_Nc.of (hs _ (by decide +kernel))
theorem TX.keptAC {E : EE} {G : Nat → Nat} {B : AA} {R : RR} {H H1 : Heap} {h0 sz : Nat} (h : TX E G B R H) (hz : G h0 = 0) (hs : H.size ≤ sz) (hk : ∀ q, q < H.size → ¬ AC h0 sz q → H1[q]? = H[q]?) : TX E G B R H1 := fun a ha => by
  have hl : a < H.size := (h a ha).lt
  exact (h a ha).kept (hk a hl (fun q => q.elim (fun e => ha (by rw [e]; exact hz)) (fun e => by omega)))
theorem TH.zero {E : EE} {H : Heap} : TH E (T0 E) (fun _ => 0) [] H := fun a h _ => absurd rfl h
theorem TH.keptAC {E : EE} {ty : (Nat → Nat) → Nat → va_E → Prop} {G : Nat → Nat} {H H1 : Heap} {h0 sz : Nat} (h : TH E ty G [] H) (hz : G h0 = 0) (hs : H.size ≤ sz) (hk : ∀ q, q < H.size → ¬ AC h0 sz q → H1[q]? = H[q]?) : TH E ty G [] H1 := fun a ha hx => by
  obtain ⟨e, h1, h2⟩ := h a ha hx
  have hl : a < H.size := h2.lt
  exact ⟨e, h1, h2.kept (hk a hl (fun q => q.elim (fun e => ha (by rw [e]; exact hz)) (fun e => by omega)))⟩
theorem TH.lts {E : EE} {ty : (Nat → Nat) → Nat → va_E → Prop} {G : Nat → Nat} {H : Heap} (h : TH E ty G [] H) {a : Nat} (ha : G a ≠ 0) : a < H.size := by
  obtain ⟨e, -, h2⟩ := h a ha List.not_mem_nil
  exact h2.lt
