theorem and63 (x : Int32) : (x &&& 63).toInt = x.toInt % 64 := by
  rw [pk_and x 6 (by decide)]
  have h := Nat.mod_lt x.toBitVec.toNat (show 0 < 2 ^ 6 by decide)
  rw [nI_toInt (by omega)]
  have h1 : x.toInt = x.toBitVec.toInt := rfl
  rw [h1, BitVec.toInt_eq_toNat_cond]
  have h2 := x.toBitVec.isLt
  split <;> omega
theorem add_m64 (a b : Int32) : (a + b).toInt % 64 = (a.toInt + b.toInt) % 64 := by
  simp only [Int32.toInt_add, Int.bmod]
  generalize a.toInt + b.toInt = z
  omega
theorem sub_m64 (a b : Int32) : (a - b).toInt % 64 = (a.toInt - b.toInt) % 64 := by
  simp only [Int32.toInt_sub, Int.bmod]
  generalize a.toInt - b.toInt = z
  omega
theorem aft (a b : Int32) : ((a + b) &&& 63).toInt = (a.toInt + b.toInt) % 64 := by rw [and63, add_m64]
theorem dst (a b : Int32) : ((b - a) &&& 63).toInt = (b.toInt - a.toInt) % 64 := by rw [and63, sub_m64]
theorem i32_eq {a b : Int32} (h : a.toInt = b.toInt) : a = b := by rw [eq_I]; exact h
theorem i32_ne {a b : Int32} (h : ¬ a = b) : a.toInt ≠ b.toInt := fun e => h (i32_eq e)
theorem add_t {a b : Int32} (h1 : -2147483648 ≤ a.toInt + b.toInt) (h2 : a.toInt + b.toInt < 2147483648) : (a + b).toInt = a.toInt + b.toInt := s_add (by omega) (by omega)
