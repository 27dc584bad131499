/-! ===== numbers: Int32, Int64 as whole numbers ===== -/
theorem n_add {a b : Int32} (h1 : -2147483648 ≤ a.toInt + b.toInt) (h2 : a.toInt + b.toInt < 2147483648) : (a + b).toInt = a.toInt + b.toInt := by
  rw [Int32.toInt_add]; exact Int.bmod_eq_of_le (by omega) (by omega)
theorem n_sub {a b : Int32} (h1 : -2147483648 ≤ a.toInt - b.toInt) (h2 : a.toInt - b.toInt < 2147483648) : (a - b).toInt = a.toInt - b.toInt := by
  rw [Int32.toInt_sub]; exact Int.bmod_eq_of_le (by omega) (by omega)
theorem n_mul {a b : Int32} (h1 : -2147483648 ≤ a.toInt * b.toInt) (h2 : a.toInt * b.toInt < 2147483648) : (a * b).toInt = a.toInt * b.toInt := by
  rw [Int32.toInt_mul]; exact Int.bmod_eq_of_le (by omega) (by omega)
theorem n_neg {a : Int32} (h1 : -2147483648 < a.toInt) : (-a).toInt = -a.toInt := by
  have := a.toInt_lt
  rw [Int32.toInt_neg]; exact Int.bmod_eq_of_le (by omega) (by omega)
theorem m_add {a b : Int64} (h1 : -9223372036854775808 ≤ a.toInt + b.toInt) (h2 : a.toInt + b.toInt < 9223372036854775808) : (a + b).toInt = a.toInt + b.toInt := by
  rw [Int64.toInt_add]; exact Int.bmod_eq_of_le (by omega) (by omega)
theorem m_sub {a b : Int64} (h1 : -9223372036854775808 ≤ a.toInt - b.toInt) (h2 : a.toInt - b.toInt < 9223372036854775808) : (a - b).toInt = a.toInt - b.toInt := by
  rw [Int64.toInt_sub]; exact Int.bmod_eq_of_le (by omega) (by omega)
theorem m_mul {a b : Int64} (h1 : -9223372036854775808 ≤ a.toInt * b.toInt) (h2 : a.toInt * b.toInt < 9223372036854775808) : (a * b).toInt = a.toInt * b.toInt := by
  rw [Int64.toInt_mul]; exact Int.bmod_eq_of_le (by omega) (by omega)
theorem m_shr40 (x : Int64) : (x >>> ((40 : Int32).toInt64 &&& 63)).toInt = x.toInt / 1099511627776 := by
  have e : ((40 : Int32).toInt64 &&& 63) = (40 : Int64) := by decide
  rw [e]
  have h : (x >>> (40 : Int64)).toBitVec = x.toBitVec.sshiftRight 40 := by
    rw [Int64.toBitVec_shiftRight]
    rfl
  show (x >>> (40 : Int64)).toBitVec.toInt = _
  rw [h, BitVec.toInt_sshiftRight, Int.shiftRight_eq_div_pow]
  rfl
theorem m_mask40 (x : Int64) : (x &&& 1099511627775).toInt = x.toInt % 1099511627776 := by
  have h1 : (x &&& 1099511627775).toBitVec.toNat = x.toBitVec.toNat % 1099511627776 := by
    rw [Int64.toBitVec_and, BitVec.toNat_and]
    exact Nat.and_two_pow_sub_one_eq_mod x.toBitVec.toNat 40
  have h2 : (x &&& 1099511627775).toInt = ((x &&& 1099511627775).toBitVec.toNat : Int) := by
    show (x &&& 1099511627775).toBitVec.toInt = _
    rw [BitVec.toInt_eq_toNat_cond, if_pos (by omega)]
  have h3 : x.toInt % 1099511627776 = (x.toBitVec.toNat : Int) % 1099511627776 := by
    show x.toBitVec.toInt % 1099511627776 = _
    rw [BitVec.toInt_eq_toNat_cond]
    split <;> omega
  rw [h2, h1, h3]
  omega
theorem n_lt (a b : Int32) : a < b ↔ a.toInt < b.toInt := Int32.lt_iff_toInt_lt
theorem n_le (a b : Int32) : a ≤ b ↔ a.toInt ≤ b.toInt := Int32.le_iff_toInt_le
theorem m_lt (a b : Int64) : a < b ↔ a.toInt < b.toInt := Int64.lt_iff_toInt_lt
theorem m_le (a b : Int64) : a ≤ b ↔ a.toInt ≤ b.toInt := Int64.le_iff_toInt_le
theorem n_eq {a b : Int32} : a = b ↔ a.toInt = b.toInt := Int32.toInt_inj.symm
theorem m_eq {a b : Int64} : a = b ↔ a.toInt = b.toInt := Int64.toInt_inj.symm
theorem lg_lt0 (x y : Int64) : (0 ≤ lg_cmp x y) ↔ y ≤ x := lg_cmp_ge x y
theorem lg_cases (x y : Int64) : (lg_cmp x y = 1 ∧ y.toInt < x.toInt) ∨ (lg_cmp x y = 0 ∧ x = y) ∨ (lg_cmp x y = -1 ∧ x.toInt < y.toInt) := by
  unfold lg_cmp
  by_cases h1 : x > y
  · rw [if_pos h1]; exact Or.inl ⟨rfl, (m_lt y x).mp h1⟩
  · rw [if_neg h1]
    by_cases h2 : x = y
    · rw [if_pos h2]; exact Or.inr (Or.inl ⟨rfl, h2⟩)
    · rw [if_neg h2]
      refine Or.inr (Or.inr ⟨rfl, ?_⟩)
      have h3 : ¬ y.toInt < x.toInt := fun q => h1 ((m_lt y x).mpr q)
      have h4 : ¬ x.toInt = y.toInt := fun q => h2 (m_eq.mpr q)
      omega
/-! ===== notes as six whole numbers; their size ===== -/
abbrev xZ : Type := Nat → Int
def LG : Nat → Int := fun k => (xLogs (3 * k)).toInt * 1208925819614629174706176 + (xLogs (3 * k + 1)).toInt * 1099511627776 + (xLogs (3 * k + 2)).toInt
theorem LG0 : LG 0 = 1329227995784915872903807060280344576 := by decide +kernel
theorem LG1 : LG 1 = 2106776528227830709928956833162496941 := by decide +kernel
theorem LG2 : LG 2 = 3086371827923816621916544979950813037 := by decide +kernel
theorem LG3 : LG 3 = 3731614756503547821436497015887619496 := by decide +kernel
theorem LG4 : LG 4 = 4598373356996222052770605011930797270 := by decide +kernel
theorem LG5 : LG 5 = 4918728070067582930967106804316210001 := by decide +kernel
def sz (x : xZ) : Int := x 0 * LG 0 + x 1 * LG 1 + x 2 * LG 2 + x 3 * LG 3 + x 4 * LG 4 + x 5 * LG 5
def bd (x : xZ) (B : Int) : Prop := ∀ k, k < 6 → -B ≤ x k ∧ x k ≤ B
def zadd (x y : xZ) (t : Int) : xZ := fun k => x k + t * y k
theorem sz_zadd (x y : xZ) (t : Int) : sz (zadd x y t) = sz x + t * sz y := by
  simp only [sz, zadd, Int.add_mul, Int.mul_add, Int.mul_assoc]
  omega
