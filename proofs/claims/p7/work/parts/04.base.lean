/-- the words that stay true while the machine runs -/
def mv (w : Cond) : Bool := match w with
  | .methodLinkNest _ _ _ _ => true
  | .arrayOver (.object _) => true
  | .castable _ _ => true
  | .declares _ => true
  | w => goodWord w
def TS : List Cond := lw_tbl.filter mv
def KK (U : State) : Prop := ∀ w ∈ TS, ∀ A : Array Value, w.before A U = true
theorem mv_go {w : Cond} (h : mv w = true) {s U : State} (hW : s.WarmedH U.vm) {A A' : Array Value} (hb : w.before A s = true) : w.before A' U = true := by
  cases w with
  | methodLinkNest a i x h => exact va_Nw.use rfl (va_Nw.warmM hW (va_Nw.of rfl hb))
  | castable C T => exact va_Nw.use rfl (va_Nw.warmC hW (va_Nw.of rfl hb))
  | declares x => exact va_Nw.use rfl (va_Nw.warmD hW (va_Nw.of rfl hb))
  | arrayOver t =>
    cases t with
    | object C => exact va_AO.use (va_AO.moved hW.alike (va_AO.of hb))
    | _ => exact word_at hW (good_of_word h) hb
  | _ => exact word_at hW (good_of_word h) hb
theorem KK.go {s U : State} (h : KK s) (hW : s.WarmedH U.vm) : KK U := fun w hw A => mv_go (List.mem_filter.mp hw).2 hW (h w hw #[])
theorem KK.of {s : State} {A : Array Value} (h : ∀ w ∈ lw_tbl, w.before A s = true) : KK s := fun w hw A' => mv_go (List.mem_filter.mp hw).2 (State.WarmedH.refl s) (h w (List.mem_filter.mp hw).1)
theorem KK.vm {s U : State} (h : KK s) (hvm : s.vm = U.vm) : KK U := h.go (by rw [← hvm]; exact State.WarmedH.refl s)
abbrev EE : Type := (Nat → ClassId) × (Nat → Nat → Nat) × (Nat → ClassId)
abbrev DG (E : EE) : va_G := (E.1, E.2.1)
abbrev TYS (E : EE) : List (ClassId × FieldType) := [(E.2.2 0, .int), (E.2.2 1, .boolean), (E.2.2 2, .long), (E.2.2 3, .object RX1), (E.2.2 4, .object RX6), (E.2.2 5, .object RX3), (E.2.2 6, .object RX4), (E.2.2 7, .object RX2)]
def AZ (z0 : Nat) : Nat → Prop := fun q => z0 ≤ q
def ZZ (z0 : Nat) (U : State) (H : Heap) : Prop := vx_Zq Bundle.tN "UNASSIGNED_STACK" Bundle.steD (AZ z0) U H ∧ vx_Zq Bundle.tN "SUPPRESSED_SENTINEL" Bundle.listD (AZ z0) U H
def KS (E : EE) (z0 : Nat) (U : State) : Prop := va_K (DG E) vwCl (TYS E) U ∧ KK U ∧ ZZ z0 U U.heap
theorem KS.go {E : EE} {z0 : Nat} {s U : State} {A : Nat → Prop} {H : Heap} {locs : List Loc} (h : KS E z0 s) (hW : s.WarmedH U.vm) (hS : va_S A s.heap H locs) (hA : ∀ q, A q → z0 ≤ q) (hU : U.heap = H) : KS E z0 U := by
  refine ⟨va_K.moved hW.alike h.1, h.2.1.go hW, ?_⟩
  have hk : ∀ a : Nat, a < s.heap.size → ¬ AZ z0 a → U.heap[a]? = s.heap[a]? := fun a h1 h2 => by rw [hU]; exact hS.2.1 a h1 (fun q => h2 (hA a q))
  exact ⟨vx_Zq.moved hW.alike (h.2.2.1.kept hk), vx_Zq.moved hW.alike (h.2.2.2.kept hk)⟩
theorem KS.calling {E : EE} {z0 : Nat} {U : State} {g : JFrame} {mk : MethodId} {a : Array Value} (h : KS E z0 U) : KS E z0 (U.calling g mk a) :=
  ⟨va_K.moved (u := U) (U := U.calling g mk a) (Vm.Alike.refl U.vm) h.1, KK.vm h.2.1 rfl, vx_Zq.moved (u := U) (U := U.calling g mk a) (Vm.Alike.refl U.vm) h.2.2.1, vx_Zq.moved (u := U) (U := U.calling g mk a) (Vm.Alike.refl U.vm) h.2.2.2⟩
theorem va_one {D : va_G} {cl : List vw_C} {q : Nat × va_E} {H : Heap} (h : va_at D cl q H) : va_P D cl [q] H := fun k x hx => by
  match k, hx with
  | 0, hx => cases hx; exact h
  | k + 1, hx => simp at hx
theorem va_done {A : Nat → Prop} {q : Nat × va_E} (h : A q.1) : va_D A [q] := ⟨fun i j p r hp hr _ => by
  match i, j, hp, hr with
  | 0, 0, _, _ => rfl
  | i + 1, _, hp, _ => simp at hp
  | 0, j + 1, _, hr => simp at hr, fun k x hx => by
  match k, hx with
  | 0, hx => cases hx; exact h
  | k + 1, hx => simp at hx⟩
/-- the typed heap: what lies at the addresses that G names (a group each), but at those of ex -/
def TH (E : EE) (ty : (Nat → Nat) → Nat → va_E → Prop) (G : Nat → Nat) (ex : List Nat) (H : Heap) : Prop := ∀ a, G a ≠ 0 → a ∉ ex → ∃ e, ty G (G a) e ∧ va_at (DG E) vwCl (a, e) H
theorem TH.kept {E : EE} {ty : (Nat → Nat) → Nat → va_E → Prop} {G : Nat → Nat} {ex : List Nat} {H H1 : Heap} (h : TH E ty G ex H) (hk : ∀ q, q < H.size → H1[q]? = H[q]?) : TH E ty G ex H1 := fun a ha hx => by
  obtain ⟨e, h1, h2⟩ := h a ha hx
  exact ⟨e, h1, h2.kept (hk a h2.lt)⟩
theorem TH.keptx {E : EE} {ty : (Nat → Nat) → Nat → va_E → Prop} {G : Nat → Nat} {ex ex' : List Nat} {H H1 : Heap} (h : TH E ty G ex H) (hx : ∀ q, q ∈ ex → q ∈ ex') (hk : ∀ q, q < H.size → q ∉ ex' → H1[q]? = H[q]?) : TH E ty G ex' H1 := fun a ha hn => by
  obtain ⟨e, h1, h2⟩ := h a ha (fun q => hn (hx a q))
  exact ⟨e, h1, h2.kept (hk a h2.lt hn)⟩
theorem TH.at {E : EE} {ty : (Nat → Nat) → Nat → va_E → Prop} {G : Nat → Nat} {H : Heap} (h : TH E ty G [] H) {a g : Nat} (hg : G a = g) (h0 : g ≠ 0) : ∃ e, ty G g e ∧ va_at (DG E) vwCl (a, e) H := by
  subst hg
  exact h a h0 (List.not_mem_nil)
theorem TH.atx {E : EE} {ty : (Nat → Nat) → Nat → va_E → Prop} {G : Nat → Nat} {ex : List Nat} {H : Heap} (h : TH E ty G ex H) {a g : Nat} (hg : G a = g) (h0 : g ≠ 0) (hx : a ∉ ex) : ∃ e, ty G g e ∧ va_at (DG E) vwCl (a, e) H := by
  subst hg
  exact h a h0 hx
def bI (P : Prop) [Decidable P] : Int32 := if P then 1 else 0
theorem bI_t {P : Prop} [Decidable P] (h : P) : bI P = 1 := if_pos h
theorem bI_f {P : Prop} [Decidable P] (h : ¬ P) : bI P = 0 := if_neg h
theorem bI_0 {P : Prop} [Decidable P] (h : bI P = 0) : ¬ P := fun q => by rw [bI_t q] at h; exact absurd h (by decide)
theorem bI_n {P : Prop} [Decidable P] (h : ¬ bI P = 0) : P := Decidable.byContradiction fun q => h (bI_f q)
theorem lt_I {x y : Int32} : x < y ↔ x.toInt < y.toInt := Int32.lt_iff_toInt_lt
theorem le_I {x y : Int32} : x ≤ y ↔ x.toInt ≤ y.toInt := Int32.le_iff_toInt_le
theorem eq_I {x y : Int32} : x = y ↔ x.toInt = y.toInt := Int32.toInt_inj.symm
theorem gdS {own : String} {idx : Nat} {y : MethodName} {w0 : Cond} (h1 : Cond.methodLink own idx y ∈ TS) (h2 : Cond.static y ∈ TS) (h3 : Cond.initialized own ∈ TS) (h4 : w0 ∈ TS) (hg : goodWord w0 = true) : GoodIn TS (wsS own idx y [w0]) := by
  intro w hw
  simp only [wsS, List.cons_append, List.nil_append, List.mem_cons, List.not_mem_nil, or_false] at hw
  rcases hw with rfl | rfl | rfl | rfl
  · exact ⟨h1, good_of_word rfl⟩
  · exact ⟨h2, good_of_word rfl⟩
  · exact ⟨h3, good_of_word rfl⟩
  · exact ⟨h4, good_of_word hg⟩
theorem gdV {own C : String} {idx : Nat} {y : MethodName} {w0 : Cond} (h1 : Cond.methodLink own idx y ∈ TS) (h2 : Cond.instanceMethod y ∈ TS) (h3 : Cond.selects C y y ∈ TS) (h4 : Cond.initialized C ∈ TS) (h5 : w0 ∈ TS) (hg : goodWord w0 = true) : GoodIn TS (wsV own idx C y [w0]) := by
  intro w hw
  simp only [wsV, List.cons_append, List.nil_append, List.mem_cons, List.not_mem_nil, or_false] at hw
  rcases hw with rfl | rfl | rfl | rfl | rfl
  · exact ⟨h1, good_of_word rfl⟩
  · exact ⟨h2, good_of_word rfl⟩
  · exact ⟨h3, good_of_word rfl⟩
  · exact ⟨h4, good_of_word rfl⟩
  · exact ⟨h5, good_of_word hg⟩
theorem gd1 {w0 : Cond} (h : w0 ∈ TS) (hg : goodWord w0 = true) : GoodIn TS [w0] := by
  intro w hw
  rw [List.mem_singleton] at hw
  subst hw
  exact ⟨h, good_of_word hg⟩
