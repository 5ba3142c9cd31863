theorem s_add {x y : Int32} (h1 : -2147483648 ≤ x.toInt + y.toInt) (h2 : x.toInt + y.toInt < 2147483648) : (x + y).toInt = x.toInt + y.toInt := by
  simp only [Int32.toInt_add, Int.bmod]; omega
theorem s_sub {x y : Int32} (h1 : -2147483648 ≤ x.toInt - y.toInt) (h2 : x.toInt - y.toInt < 2147483648) : (x - y).toInt = x.toInt - y.toInt := by
  simp only [Int32.toInt_sub, Int.bmod]; omega
theorem s_mulK {k y : Int32} {K : Int} (hk : k.toInt = K) (h1 : -2147483648 ≤ K * y.toInt) (h2 : K * y.toInt < 2147483648) : (k * y).toInt = K * y.toInt := by
  subst hk
  simp only [Int32.toInt_mul, Int.bmod]
  generalize k.toInt * y.toInt = z at *
  omega
theorem s_bd (x : Int32) : -2147483648 ≤ x.toInt ∧ x.toInt < 2147483648 := ⟨Int32.le_toInt x, Int32.toInt_lt x⟩
theorem TH.set {E : EE} {ty : (Nat → Nat) → Nat → va_E → Prop} {G : Nat → Nat} {H H1 : Heap} (h : TH E ty G [] H) {a g : Nat} {e' : va_E} (hg : G a = g) (he : ty G g e') (hat : va_at (DG E) vwCl (a, e') H1) (ho : ∀ q, q ≠ a → H1[q]? = H[q]?) : TH E ty G [] H1 := fun b hb hx => by
  by_cases hq : b = a
  · subst hq
    rw [hg]
    exact ⟨e', he, hat⟩
  · obtain ⟨e2, h1, h2⟩ := h b hb hx
    exact ⟨e2, h1, h2.kept (ho b hq)⟩
def IAE : String := "java/lang/IllegalArgumentException"
def ISE : String := "java/lang/IllegalStateException"
def NSE : String := "java/util/NoSuchElementException"
def upn : List String := ["java/lang/RuntimeException", "java/lang/Exception"]
