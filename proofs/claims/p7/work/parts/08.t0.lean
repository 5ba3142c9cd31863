def mlen (j : Nat) : Nat := ([0, 0, 0, 0, 64, 12, 12, 12, 2, 160, 4, 4, 4, 4, 4, 4, 4, 4, 4, 4, 4, 4, 16, 16, 16, 16, 16, 16, 16, 16, 4, 4, 16, 16, 16, 16, 4, 4, 8, 8, 0, 25, 25, 25, 25, 25, 25, 25, 100] : List Nat).getD j 0
def mkd (j : Nat) : Nat := if j = 18 ∨ j = 19 ∨ j = 36 then 1 else 0
abbrev mfs (t0 t1 t2 c : Int32) (r : Nat → Nat) (p : Int32) : List Value := [.int t0, .int t1, .int t2, .int c, .ref (r 4), .ref (r 5), .ref (r 6), .ref (r 7), .ref (r 8), .ref (r 9), .ref (r 10), .ref (r 11), .ref (r 12), .ref (r 13), .ref (r 14), .ref (r 15), .ref (r 16), .ref (r 17), .ref (r 18), .ref (r 19), .ref (r 20), .ref (r 21), .ref (r 22), .ref (r 23), .ref (r 24), .ref (r 25), .ref (r 26), .ref (r 27), .ref (r 28), .ref (r 29), .ref (r 30), .ref (r 31), .ref (r 32), .ref (r 33), .ref (r 34), .ref (r 35), .ref (r 36), .ref (r 37), .ref (r 38), .ref (r 39), .int p, .ref (r 41), .ref (r 42), .ref (r 43), .ref (r 44), .ref (r 45), .ref (r 46), .ref (r 47), .ref (r 48)]
/-- what lies in a new object of the class, and of the reference, by groups -/
def T0 (E : EE) (G : Nat → Nat) (g : Nat) (e : va_E) : Prop := match g with
  | 1 => ∃ n p f : Nat, e = .inr (9, [.ref n, .ref p, .ref f]) ∧ G n = 2 ∧ G p = 3 ∧ G f = 4
  | 2 => ∃ f : Nat → Option Nat, e = .inl (E.2.2 3, 2, .inr (.inr (.inr (.inr f)))) ∧ ∀ i, i < 2 → ∃ b, f i = some b ∧ G b = 5
  | 3 => ∃ f : Nat → Option Nat, e = .inl (E.2.2 5, 4, .inr (.inr (.inr (.inr f)))) ∧ ∀ i, i < 4 → ∃ b, f i = some b ∧ G b = 8
  | 4 => ∃ r t o : Nat, e = .inr (0, [.ref r, .int 0, .ref t, .ref o]) ∧ G r = 30 ∧ G t = 31 ∧ G o = 31
  | 5 => ∃ cs rg rn : Nat, e = .inr (1, [.ref cs, .ref rg, .ref rn, .int 0, .int 0]) ∧ G cs = 14 ∧ G rg = 6 ∧ G rn = 15
  | 6 => ∃ f : Nat → Option Nat, e = .inl (E.2.2 4, 6, .inr (.inr (.inr (.inr f)))) ∧ ∀ i, i < 6 → ∃ b, f i = some b ∧ G b = 7
  | 7 => e = .inr (6, [.int 0, .int 0, .int 0])
  | 8 => ∃ rq rs : Nat, e = .inr (3, [.ref rq, .ref rs, .int 0]) ∧ G rq = 9 ∧ G rs = 10
  | 9 => ∃ (pe : Int32) (nd fa : Nat) (to mt mr : Int32) (rq : Nat), e = .inr (7, [.int pe, .ref nd, .ref fa, .int to, .int mt, .int mr, .ref rq, .int 0, .int 0, .int 0, .int 0, .int 0, .int 0, .int 0]) ∧ G nd = 5 ∧ G fa = 4 ∧ G rq = 11 ∧ (0 ≤ pe.toInt ∧ pe.toInt ≤ 3)
  | 10 => ∃ (pe : Int32) (nd fa rc an ar : Nat), e = .inr (8, [.int pe, .ref nd, .ref fa, .ref rc, .int 0, .int 0, .int 0, .ref an, .ref ar]) ∧ G nd = 5 ∧ G fa = 4 ∧ G rc = 11 ∧ G an = 16 ∧ G ar = 17 ∧ (0 ≤ pe.toInt ∧ pe.toInt ≤ 3)
  | 11 => ∃ (pr : Int32) (nd rw : Nat), e = .inr (5, [.int pr, .ref nd, .ref rw, .int 0, .int 0, .int 0]) ∧ G nd = 5 ∧ G rw = 12
  | 12 => ∃ f : Nat → Option Nat, e = .inl (E.2.2 6, 4, .inr (.inr (.inr (.inr f)))) ∧ ∀ i, i < 4 → ∃ b, f i = some b ∧ G b = 13
  | 13 => e = .inr (4, [.int 0, .int 0, .int 0, .int 0, .int 0, .int 0, .int 0, .int 0, .int 0, .int 0])
  | 14 => e = .inl (E.2.2 0, 32, .inl (fun _ => 0))
  | 15 => e = .inl (E.2.2 0, 80, .inl (fun _ => 0))
  | 16 => ∃ f : Nat → Int32, e = .inl (E.2.2 0, 2, .inl f)
  | 17 => ∃ f : Nat → Int32, e = .inl (E.2.2 0, 2, .inl f)
  | 20 => ∃ (t0 t1 t2 : Int32) (r : Nat → Nat), e = .inr (10, mfs t0 t1 t2 0 r 0) ∧ ∀ j, 4 ≤ j → j < 49 → j ≠ 40 → G (r j) = 100 + j
  | 30 => ∃ f : Nat → Option Nat, e = .inl (E.2.2 7, 24, .inr (.inr (.inr (.inr f)))) ∧ ∀ i, i < 24 → ∃ b, f i = some b ∧ G b = 31
  | 31 => ∃ cs : Nat, e = .inr (2, [.int 0, .int 0, .int 0, .int 0, .int 0, .int 0, .int 0, .ref cs]) ∧ G cs = 32
  | 32 => e = .inl (E.2.2 0, 4, .inl (fun _ => 0))
  | g => 100 ≤ g ∧ e = .inl (E.2.2 (mkd (g - 100)), mlen (g - 100), .inl (fun _ => 0))
theorem tg_1 {E : EE} {G : Nat → Nat} {ex : List Nat} {H : Heap} {a : Nat} (h : TH E (T0 E) G ex H) (hg : G a = 1) (hx : a ∉ ex) : ∃ n p f : Nat, va_at (DG E) vwCl (a, .inr (9, [.ref n, .ref p, .ref f])) H ∧ G n = 2 ∧ G p = 3 ∧ G f = 4 := by
  obtain ⟨e, he, hat⟩ := h.atx hg (by decide) hx
  obtain ⟨n, p, f, rfl, hr⟩ := (show T0 E G 1 e from he)
  exact ⟨n, p, f, hat, hr⟩
theorem tg_2 {E : EE} {G : Nat → Nat} {ex : List Nat} {H : Heap} {a : Nat} (h : TH E (T0 E) G ex H) (hg : G a = 2) (hx : a ∉ ex) : ∃ f : Nat → Option Nat, va_at (DG E) vwCl (a, .inl (E.2.2 3, 2, .inr (.inr (.inr (.inr f))))) H ∧ ∀ i, i < 2 → ∃ b, f i = some b ∧ G b = 5 := by
  obtain ⟨e, he, hat⟩ := h.atx hg (by decide) hx
  obtain ⟨f, rfl, hr⟩ := (show T0 E G 2 e from he)
  exact ⟨f, hat, hr⟩
theorem tg_3 {E : EE} {G : Nat → Nat} {ex : List Nat} {H : Heap} {a : Nat} (h : TH E (T0 E) G ex H) (hg : G a = 3) (hx : a ∉ ex) : ∃ f : Nat → Option Nat, va_at (DG E) vwCl (a, .inl (E.2.2 5, 4, .inr (.inr (.inr (.inr f))))) H ∧ ∀ i, i < 4 → ∃ b, f i = some b ∧ G b = 8 := by
  obtain ⟨e, he, hat⟩ := h.atx hg (by decide) hx
  obtain ⟨f, rfl, hr⟩ := (show T0 E G 3 e from he)
  exact ⟨f, hat, hr⟩
theorem tg_4 {E : EE} {G : Nat → Nat} {ex : List Nat} {H : Heap} {a : Nat} (h : TH E (T0 E) G ex H) (hg : G a = 4) (hx : a ∉ ex) : ∃ r t o : Nat, va_at (DG E) vwCl (a, .inr (0, [.ref r, .int 0, .ref t, .ref o])) H ∧ G r = 30 ∧ G t = 31 ∧ G o = 31 := by
  obtain ⟨e, he, hat⟩ := h.atx hg (by decide) hx
  obtain ⟨r, t, o, rfl, hr⟩ := (show T0 E G 4 e from he)
  exact ⟨r, t, o, hat, hr⟩
theorem tg_5 {E : EE} {G : Nat → Nat} {ex : List Nat} {H : Heap} {a : Nat} (h : TH E (T0 E) G ex H) (hg : G a = 5) (hx : a ∉ ex) : ∃ cs rg rn : Nat, va_at (DG E) vwCl (a, .inr (1, [.ref cs, .ref rg, .ref rn, .int 0, .int 0])) H ∧ G cs = 14 ∧ G rg = 6 ∧ G rn = 15 := by
  obtain ⟨e, he, hat⟩ := h.atx hg (by decide) hx
  obtain ⟨cs, rg, rn, rfl, hr⟩ := (show T0 E G 5 e from he)
  exact ⟨cs, rg, rn, hat, hr⟩
theorem tg_6 {E : EE} {G : Nat → Nat} {ex : List Nat} {H : Heap} {a : Nat} (h : TH E (T0 E) G ex H) (hg : G a = 6) (hx : a ∉ ex) : ∃ f : Nat → Option Nat, va_at (DG E) vwCl (a, .inl (E.2.2 4, 6, .inr (.inr (.inr (.inr f))))) H ∧ ∀ i, i < 6 → ∃ b, f i = some b ∧ G b = 7 := by
  obtain ⟨e, he, hat⟩ := h.atx hg (by decide) hx
  obtain ⟨f, rfl, hr⟩ := (show T0 E G 6 e from he)
  exact ⟨f, hat, hr⟩
theorem tg_7 {E : EE} {G : Nat → Nat} {ex : List Nat} {H : Heap} {a : Nat} (h : TH E (T0 E) G ex H) (hg : G a = 7) (hx : a ∉ ex) : va_at (DG E) vwCl (a, .inr (6, [.int 0, .int 0, .int 0])) H := by
  obtain ⟨e, he, hat⟩ := h.atx hg (by decide) hx
  cases (show T0 E G 7 e from he)
  exact hat
theorem tg_8 {E : EE} {G : Nat → Nat} {ex : List Nat} {H : Heap} {a : Nat} (h : TH E (T0 E) G ex H) (hg : G a = 8) (hx : a ∉ ex) : ∃ rq rs : Nat, va_at (DG E) vwCl (a, .inr (3, [.ref rq, .ref rs, .int 0])) H ∧ G rq = 9 ∧ G rs = 10 := by
  obtain ⟨e, he, hat⟩ := h.atx hg (by decide) hx
  obtain ⟨rq, rs, rfl, hr⟩ := (show T0 E G 8 e from he)
  exact ⟨rq, rs, hat, hr⟩
theorem tg_9 {E : EE} {G : Nat → Nat} {ex : List Nat} {H : Heap} {a : Nat} (h : TH E (T0 E) G ex H) (hg : G a = 9) (hx : a ∉ ex) : ∃ (pe : Int32) (nd fa : Nat) (to mt mr : Int32) (rq : Nat), va_at (DG E) vwCl (a, .inr (7, [.int pe, .ref nd, .ref fa, .int to, .int mt, .int mr, .ref rq, .int 0, .int 0, .int 0, .int 0, .int 0, .int 0, .int 0])) H ∧ G nd = 5 ∧ G fa = 4 ∧ G rq = 11 ∧ (0 ≤ pe.toInt ∧ pe.toInt ≤ 3) := by
  obtain ⟨e, he, hat⟩ := h.atx hg (by decide) hx
  obtain ⟨pe, nd, fa, to, mt, mr, rq, rfl, hr⟩ := (show T0 E G 9 e from he)
  exact ⟨pe, nd, fa, to, mt, mr, rq, hat, hr⟩
theorem tg_10 {E : EE} {G : Nat → Nat} {ex : List Nat} {H : Heap} {a : Nat} (h : TH E (T0 E) G ex H) (hg : G a = 10) (hx : a ∉ ex) : ∃ (pe : Int32) (nd fa rc an ar : Nat), va_at (DG E) vwCl (a, .inr (8, [.int pe, .ref nd, .ref fa, .ref rc, .int 0, .int 0, .int 0, .ref an, .ref ar])) H ∧ G nd = 5 ∧ G fa = 4 ∧ G rc = 11 ∧ G an = 16 ∧ G ar = 17 ∧ (0 ≤ pe.toInt ∧ pe.toInt ≤ 3) := by
  obtain ⟨e, he, hat⟩ := h.atx hg (by decide) hx
  obtain ⟨pe, nd, fa, rc, an, ar, rfl, hr⟩ := (show T0 E G 10 e from he)
  exact ⟨pe, nd, fa, rc, an, ar, hat, hr⟩
theorem tg_11 {E : EE} {G : Nat → Nat} {ex : List Nat} {H : Heap} {a : Nat} (h : TH E (T0 E) G ex H) (hg : G a = 11) (hx : a ∉ ex) : ∃ (pr : Int32) (nd rw : Nat), va_at (DG E) vwCl (a, .inr (5, [.int pr, .ref nd, .ref rw, .int 0, .int 0, .int 0])) H ∧ G nd = 5 ∧ G rw = 12 := by
  obtain ⟨e, he, hat⟩ := h.atx hg (by decide) hx
  obtain ⟨pr, nd, rw, rfl, hr⟩ := (show T0 E G 11 e from he)
  exact ⟨pr, nd, rw, hat, hr⟩
theorem tg_12 {E : EE} {G : Nat → Nat} {ex : List Nat} {H : Heap} {a : Nat} (h : TH E (T0 E) G ex H) (hg : G a = 12) (hx : a ∉ ex) : ∃ f : Nat → Option Nat, va_at (DG E) vwCl (a, .inl (E.2.2 6, 4, .inr (.inr (.inr (.inr f))))) H ∧ ∀ i, i < 4 → ∃ b, f i = some b ∧ G b = 13 := by
  obtain ⟨e, he, hat⟩ := h.atx hg (by decide) hx
  obtain ⟨f, rfl, hr⟩ := (show T0 E G 12 e from he)
  exact ⟨f, hat, hr⟩
theorem tg_13 {E : EE} {G : Nat → Nat} {ex : List Nat} {H : Heap} {a : Nat} (h : TH E (T0 E) G ex H) (hg : G a = 13) (hx : a ∉ ex) : va_at (DG E) vwCl (a, .inr (4, [.int 0, .int 0, .int 0, .int 0, .int 0, .int 0, .int 0, .int 0, .int 0, .int 0])) H := by
  obtain ⟨e, he, hat⟩ := h.atx hg (by decide) hx
  cases (show T0 E G 13 e from he)
  exact hat
theorem tg_14 {E : EE} {G : Nat → Nat} {ex : List Nat} {H : Heap} {a : Nat} (h : TH E (T0 E) G ex H) (hg : G a = 14) (hx : a ∉ ex) : va_at (DG E) vwCl (a, .inl (E.2.2 0, 32, .inl (fun _ => 0))) H := by
  obtain ⟨e, he, hat⟩ := h.atx hg (by decide) hx
  cases (show T0 E G 14 e from he)
  exact hat
theorem tg_15 {E : EE} {G : Nat → Nat} {ex : List Nat} {H : Heap} {a : Nat} (h : TH E (T0 E) G ex H) (hg : G a = 15) (hx : a ∉ ex) : va_at (DG E) vwCl (a, .inl (E.2.2 0, 80, .inl (fun _ => 0))) H := by
  obtain ⟨e, he, hat⟩ := h.atx hg (by decide) hx
  cases (show T0 E G 15 e from he)
  exact hat
theorem tg_16 {E : EE} {G : Nat → Nat} {ex : List Nat} {H : Heap} {a : Nat} (h : TH E (T0 E) G ex H) (hg : G a = 16) (hx : a ∉ ex) : ∃ f : Nat → Int32, va_at (DG E) vwCl (a, .inl (E.2.2 0, 2, .inl f)) H := by
  obtain ⟨e, he, hat⟩ := h.atx hg (by decide) hx
  obtain ⟨f, rfl⟩ := (show T0 E G 16 e from he)
  exact ⟨f, hat⟩
theorem tg_17 {E : EE} {G : Nat → Nat} {ex : List Nat} {H : Heap} {a : Nat} (h : TH E (T0 E) G ex H) (hg : G a = 17) (hx : a ∉ ex) : ∃ f : Nat → Int32, va_at (DG E) vwCl (a, .inl (E.2.2 0, 2, .inl f)) H := by
  obtain ⟨e, he, hat⟩ := h.atx hg (by decide) hx
  obtain ⟨f, rfl⟩ := (show T0 E G 17 e from he)
  exact ⟨f, hat⟩
theorem tg_20 {E : EE} {G : Nat → Nat} {ex : List Nat} {H : Heap} {a : Nat} (h : TH E (T0 E) G ex H) (hg : G a = 20) (hx : a ∉ ex) : ∃ (t0 t1 t2 : Int32) (r : Nat → Nat), va_at (DG E) vwCl (a, .inr (10, mfs t0 t1 t2 0 r 0)) H ∧ ∀ j, 4 ≤ j → j < 49 → j ≠ 40 → G (r j) = 100 + j := by
  obtain ⟨e, he, hat⟩ := h.atx hg (by decide) hx
  obtain ⟨t0, t1, t2, r, rfl, hr⟩ := (show T0 E G 20 e from he)
  exact ⟨t0, t1, t2, r, hat, hr⟩
theorem tg_30 {E : EE} {G : Nat → Nat} {ex : List Nat} {H : Heap} {a : Nat} (h : TH E (T0 E) G ex H) (hg : G a = 30) (hx : a ∉ ex) : ∃ f : Nat → Option Nat, va_at (DG E) vwCl (a, .inl (E.2.2 7, 24, .inr (.inr (.inr (.inr f))))) H ∧ ∀ i, i < 24 → ∃ b, f i = some b ∧ G b = 31 := by
  obtain ⟨e, he, hat⟩ := h.atx hg (by decide) hx
  obtain ⟨f, rfl, hr⟩ := (show T0 E G 30 e from he)
  exact ⟨f, hat, hr⟩
theorem tg_31 {E : EE} {G : Nat → Nat} {ex : List Nat} {H : Heap} {a : Nat} (h : TH E (T0 E) G ex H) (hg : G a = 31) (hx : a ∉ ex) : ∃ cs : Nat, va_at (DG E) vwCl (a, .inr (2, [.int 0, .int 0, .int 0, .int 0, .int 0, .int 0, .int 0, .ref cs])) H ∧ G cs = 32 := by
  obtain ⟨e, he, hat⟩ := h.atx hg (by decide) hx
  obtain ⟨cs, rfl, hr⟩ := (show T0 E G 31 e from he)
  exact ⟨cs, hat, hr⟩
theorem tg_32 {E : EE} {G : Nat → Nat} {ex : List Nat} {H : Heap} {a : Nat} (h : TH E (T0 E) G ex H) (hg : G a = 32) (hx : a ∉ ex) : va_at (DG E) vwCl (a, .inl (E.2.2 0, 4, .inl (fun _ => 0))) H := by
  obtain ⟨e, he, hat⟩ := h.atx hg (by decide) hx
  cases (show T0 E G 32 e from he)
  exact hat
theorem tg_arr {E : EE} {G : Nat → Nat} {ex : List Nat} {H : Heap} {a j : Nat} (h : TH E (T0 E) G ex H) (hg : G a = 100 + j) (hx : a ∉ ex) : va_at (DG E) vwCl (a, .inl (E.2.2 (mkd j), mlen j, .inl (fun _ => 0))) H := by
  obtain ⟨e, he, hat⟩ := h.atx hg (by omega) hx
  have h2 : 100 ≤ 100 + j ∧ e = .inl (E.2.2 (mkd (100 + j - 100)), mlen (100 + j - 100), .inl (fun _ => 0)) := by
    unfold T0 at he
    split at he <;> first | omega | exact he
  rw [show 100 + j - 100 = j by omega] at h2
  rw [h2.2] at hat
  exact hat
theorem ne_G {G : Nat → Nat} {a b g g' : Nat} (h1 : G a = g) (h2 : G b = g') (h : g ≠ g') : a ≠ b := fun q => h (by rw [← h1, ← h2, q])
theorem nx_0 {a : Nat} : a ∉ ([] : List Nat) := List.not_mem_nil
theorem nx_1 {a b : Nat} (h : a ≠ b) {l : List Nat} (hl : a ∉ l) : a ∉ b :: l := fun q => (List.mem_cons.mp q).elim h hl
section RN
variable {p : Program} {l : Launch} {e : Env} {R : Room} {s : State} {m : MethodId} {args : Array Value} {below : List Frame} {meth : Method} {c : Code} {H : Heap} {locs : List Loc} {cells slots : Nat}
variable {y : MethodName} {bytes cc : ByteArray} {maxL nL mc ms n index : Nat} {ret : Option FieldType} {ws : List Cond} {rm : Room} {Qc : Array Value → State → Outcome → State → Prop} {XC : String → State → State → Prop} {free : Addr → Prop} {Ts : List Cond} {own C host : String} {b : Addr} {As rest : List Value} {g : JFrame} {E : EE} {z0 : Nat}
theorem rnV (P : Heap → Prop) (S : CallFix p m c cc nL s args Ts own) (hM : Met l y ws rm (va_Pc (.ref b :: As) (fun U => P U.heap ∧ KS E z0 U)) Qc mc ms free) (cw : CallW R s args own C index y bytes maxL ret ws rm mc ms n) (hP : P H) (hKg : ∀ U : State, U.heap = H → s.WarmedH U.vm → KS E z0 U) (hrc : ∃ cellB : Cell, H[b]? = some cellB ∧ cellB.vm.isStatics = false ∧ s.vm.findClass C = some cellB.cls)
    (hg : g.method = m) (hn : As.length = n) (hsize : g.locals.size = nL) (hstack : g.stack = As.reverse ++ .ref b :: rest) (hW : 2 * g.monitorRoom + (rest.map fun v => v.category).sum ≤ 8) (hdg : decode cc g.pc = .ok (.invokevirtual index, 3)) (hf : cells + mc ≤ R.cells ∧ slots + ms ≤ R.slots) :
    va_Run p l e R s m args below meth c H locs cells slots mc ms g rest (Qc (Value.ref b :: As).toArray) free :=
  va_runV S hM cw ⟨fun a U g mk q => ⟨q.1, q.2.1, KS.calling q.2.2⟩, hrc, fun U hU hW => ⟨rfl, by rw [hU]; exact hP, hKg U hU hW⟩⟩ hg hn hsize hstack hW hdg hf
theorem rnS (P : Heap → Prop) (S : CallFix p m c cc nL s args Ts own) (hM : Met l y ws rm (va_Pc As (fun U => P U.heap ∧ KS E z0 U)) Qc mc ms free) (cw : CallB R s args own index y bytes maxL ret ws rm mc ms n ∧ (Cond.static y).before args s = true) (hP : P H) (hKg : ∀ U : State, U.heap = H → s.WarmedH U.vm → KS E z0 U)
    (hg : g.method = m) (hn : As.length = n) (hsize : g.locals.size = nL) (hstack : g.stack = As.reverse ++ rest) (hW : 2 * g.monitorRoom + (rest.map fun v => v.category).sum ≤ 8) (hdg : decode cc g.pc = .ok (.invokestatic index, 3)) (hf : cells + mc ≤ R.cells ∧ slots + ms ≤ R.slots) :
    va_Run p l e R s m args below meth c H locs cells slots mc ms g rest (Qc As.toArray) free :=
  va_runS S hM cw ⟨fun a U g mk q => ⟨q.1, q.2.1, KS.calling q.2.2⟩, fun U hU hW => ⟨rfl, by rw [hU]; exact hP, hKg U hU hW⟩⟩ hg hn hsize hstack hW hdg hf
theorem rnI (P : Heap → Prop) (S : CallFix p m c cc nL s args Ts own) (hM : Met l y ws rm (va_Pc (.ref b :: As) (fun U => P U.heap ∧ KS E z0 U)) Qc mc ms free) (cw : CallB R s args own index y bytes maxL none ws rm mc ms n ∧ y.name = "<init>" ∧ (Cond.instanceMethod y).before args s = true) (hP : P H) (hKg : ∀ U : State, U.heap = H → s.WarmedH U.vm → KS E z0 U)
    (hg : g.method = m) (hn : As.length = n) (hsize : g.locals.size = nL) (hstack : g.stack = As.reverse ++ .ref b :: rest) (hW : 2 * g.monitorRoom + (rest.map fun v => v.category).sum ≤ 8) (hdg : decode cc g.pc = .ok (.invokespecial index, 3)) (hf : cells + mc ≤ R.cells ∧ slots + ms ≤ R.slots) :
    va_Run p l e R s m args below meth c H locs cells slots mc ms g rest (Qc (Value.ref b :: As).toArray) free :=
  va_runI S hM cw ⟨fun a U g mk q => ⟨q.1, q.2.1, KS.calling q.2.2⟩, fun U hU hW => ⟨rfl, by rw [hU]; exact hP, hKg U hU hW⟩⟩ hg hn hsize hstack hW hdg hf
theorem rnIN (P : Heap → Prop) (S : CallFix p m c cc nL s args Ts own) (hM : Met l y ws rm (va_Pc (.ref b :: As) (fun U => P U.heap ∧ KS E z0 U)) Qc mc ms free) (cw : va_CN R s args own index y host bytes maxL none ws rm mc ms n ∧ y.name = "<init>" ∧ (Cond.instanceMethod y).before args s = true) (hP : P H) (hKg : ∀ U : State, U.heap = H → s.WarmedH U.vm → KS E z0 U)
    (hg : g.method = m) (hn : As.length = n) (hsize : g.locals.size = nL) (hstack : g.stack = As.reverse ++ .ref b :: rest) (hW : 2 * g.monitorRoom + (rest.map fun v => v.category).sum ≤ 8) (hdg : decode cc g.pc = .ok (.invokespecial index, 3)) (hf : cells + mc ≤ R.cells ∧ slots + ms ≤ R.slots) :
    va_Run p l e R s m args below meth c H locs cells slots mc ms g rest (Qc (Value.ref b :: As).toArray) free :=
  va_runIN S hM cw ⟨fun a U g mk q => ⟨q.1, q.2.1, KS.calling q.2.2⟩, fun U hU hW => ⟨rfl, by rw [hU]; exact hP, hKg U hU hW⟩⟩ hg hn hsize hstack hW hdg hf
theorem rxV (P : Heap → Prop) (S : CallFix p m c cc nL s args Ts own) (hM : vx_Met l y ws rm (va_Pc (.ref b :: As) (fun U => P U.heap ∧ KS E z0 U)) Qc XC mc ms free) (cw : CallW R s args own C index y bytes maxL ret ws rm mc ms n) (hP : P H) (hKg : ∀ U : State, U.heap = H → s.WarmedH U.vm → KS E z0 U) (hrc : ∃ cellB : Cell, H[b]? = some cellB ∧ cellB.vm.isStatics = false ∧ s.vm.findClass C = some cellB.cls)
    (hg : g.method = m) (hn : As.length = n) (hsize : g.locals.size = nL) (hstack : g.stack = As.reverse ++ .ref b :: rest) (hW : 2 * g.monitorRoom + (rest.map fun v => v.category).sum ≤ 8) (hdg : decode cc g.pc = .ok (.invokevirtual index, 3)) (hf : cells + mc ≤ R.cells ∧ slots + ms ≤ R.slots) :
    vx_Run p l e R s m args below meth c H locs cells slots mc ms g rest (Qc (Value.ref b :: As).toArray) XC free :=
  vx_runV S hM cw ⟨fun a U g mk q => ⟨q.1, q.2.1, KS.calling q.2.2⟩, hrc, fun U hU hW => ⟨rfl, by rw [hU]; exact hP, hKg U hU hW⟩⟩ hg hn hsize hstack hW hdg hf
theorem rxS (P : Heap → Prop) (S : CallFix p m c cc nL s args Ts own) (hM : vx_Met l y ws rm (va_Pc As (fun U => P U.heap ∧ KS E z0 U)) Qc XC mc ms free) (cw : CallB R s args own index y bytes maxL ret ws rm mc ms n ∧ (Cond.static y).before args s = true) (hP : P H) (hKg : ∀ U : State, U.heap = H → s.WarmedH U.vm → KS E z0 U)
    (hg : g.method = m) (hn : As.length = n) (hsize : g.locals.size = nL) (hstack : g.stack = As.reverse ++ rest) (hW : 2 * g.monitorRoom + (rest.map fun v => v.category).sum ≤ 8) (hdg : decode cc g.pc = .ok (.invokestatic index, 3)) (hf : cells + mc ≤ R.cells ∧ slots + ms ≤ R.slots) :
    vx_Run p l e R s m args below meth c H locs cells slots mc ms g rest (Qc As.toArray) XC free :=
  vx_runS S hM cw ⟨fun a U g mk q => ⟨q.1, q.2.1, KS.calling q.2.2⟩, fun U hU hW => ⟨rfl, by rw [hU]; exact hP, hKg U hU hW⟩⟩ hg hn hsize hstack hW hdg hf
/-- a pure static method of a nest mate -/
theorem rnSN {r : Int32} (S : CallFix p m c cc nL s args Ts own) (hM : Met l y ws rm (fun v _ => v = As.toArray) (QcRead r) 0 0 (fun _ => False)) (cw : va_CN R s args own index y host bytes maxL ret ws rm 0 0 n ∧ (Cond.static y).before args s = true ∧ True)
    (hg : g.method = m) (hn : As.length = n) (hsize : g.locals.size = nL) (hstack : g.stack = As.reverse ++ rest) (hW : 2 * g.monitorRoom + (rest.map fun v => v.category).sum ≤ 8) (hdg : decode cc g.pc = .ok (.invokestatic index, 3)) (hf : cells + 0 ≤ R.cells ∧ slots + 0 ≤ R.slots) {Q : State → Prop}
    (kk : W p l e R s m args below meth c H locs cells slots Q { g with pc := g.pc + 3, stack := .int r :: rest }) : W p l e R s m args below meth c H locs cells slots Q g := by
  intro T hT X
  obtain ⟨v, st₀, t, T', L, h0, X', hL, e1, e2, ⟨hv, hh⟩, st⟩ := va_runSN S hM cw preEq hg hn hsize hstack hW hdg hf T hT X
  cases hv
  obtain ⟨t2, a1, b1⟩ := kk T' (by rw [e1, hh, h0]) (Stand.forget X' (fun q h => (hL q h).elim))
  exact ⟨t2, st t2 a1, b1⟩
end RN
theorem i_0 : (0 : Int32).toInt = 0 := by decide
theorem i_1 : (1 : Int32).toInt = 1 := by decide
theorem i_2 : (2 : Int32).toInt = 2 := by decide
theorem i_3 : (3 : Int32).toInt = 3 := by decide
theorem i_4 : (4 : Int32).toInt = 4 := by decide
theorem i_5 : (5 : Int32).toInt = 5 := by decide
theorem i_6 : (6 : Int32).toInt = 6 := by decide
theorem i_7 : (7 : Int32).toInt = 7 := by decide
theorem i_8 : (8 : Int32).toInt = 8 := by decide
theorem i_10 : (10 : Int32).toInt = 10 := by decide
theorem i_12 : (12 : Int32).toInt = 12 := by decide
theorem i_16 : (16 : Int32).toInt = 16 := by decide
theorem i_20 : (20 : Int32).toInt = 20 := by decide
theorem i_23 : (23 : Int32).toInt = 23 := by decide
theorem i_24 : (24 : Int32).toInt = 24 := by decide
theorem i_31 : (31 : Int32).toInt = 31 := by decide
theorem i_32 : (32 : Int32).toInt = 32 := by decide
theorem i_63 : (63 : Int32).toInt = 63 := by decide
theorem i_64 : (64 : Int32).toInt = 64 := by decide
theorem i_m1 : (-1 : Int32).toInt = -1 := by decide
