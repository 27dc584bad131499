abbrev xNt (b : Nat) (h m l : Int64) : xE := xOb 1 [.ref b, .long h, .long m, .long l]
theorem mulb {a b A B : Int} (h1 : -A ≤ a) (h2 : a ≤ A) (h3 : -B ≤ b) (h4 : b ≤ B) : -(A * B) ≤ a * b ∧ a * b ≤ A * B := by
  have hA : (a.natAbs : Int) ≤ A := by omega
  have hB : (b.natAbs : Int) ≤ B := by omega
  have h : ((a * b).natAbs : Int) ≤ A * B := by
    rw [Int.natAbs_mul, Int.natCast_mul]
    exact Int.mul_le_mul hA hB (by omega) (by omega)
  omega
/-- a note at a, its exponents at b: they are x, and its size is theirs -/
def Nt (f : xH) (a b : Nat) (x : xZ) : Prop := a ≠ b ∧ ∃ (e : Nat → Int32) (h m l : Int64), f a = some (xNt b h m l) ∧ f b = some (xI 6 e) ∧ (∀ k, k < 6 → (e k).toInt = x k) ∧ h.toInt * 1208925819614629174706176 + m.toInt * 1099511627776 + l.toInt = sz x ∧ 0 ≤ m.toInt ∧ m.toInt < 1099511627776 ∧ 0 ≤ l.toInt ∧ l.toInt < 1099511627776
theorem Nt.ne {f : xH} {a b : Nat} {x : xZ} (h : Nt f a b x) : a ≠ b := h.1
theorem Nt.kept {f f' : xH} {a b : Nat} {x : xZ} (h : Nt f a b x) (ha : f' a = f a) (hb : f' b = f b) : Nt f' a b x := by
  obtain ⟨h0, e, hh, m, l, h1, h2, h3⟩ := h
  exact ⟨h0, e, hh, m, l, ha.trans h1, hb.trans h2, h3⟩
theorem Nt.ext {f : xH} {a b : Nat} {x y : xZ} (h : Nt f a b x) (hxy : ∀ k, k < 6 → x k = y k) : Nt f a b y := by
  obtain ⟨h0, e, hh, m, l, h1, h2, h3, h4, h5⟩ := h
  refine ⟨h0, e, hh, m, l, h1, h2, fun k hk => (h3 k hk).trans (hxy k hk), ?_, h5⟩
  rw [h4]
  simp only [sz, hxy 0 (by omega), hxy 1 (by omega), hxy 2 (by omega), hxy 3 (by omega), hxy 4 (by omega), hxy 5 (by omega)]
theorem or64_0 (a b : Int64) : a ||| b = 0 ↔ a = 0 ∧ b = 0 := by
  constructor
  · intro h
    have h1 : a.toBitVec ||| b.toBitVec = 0#64 := by
      have := congrArg Int64.toBitVec h
      rwa [Int64.toBitVec_or] at this
    obtain ⟨h2, h3⟩ := BitVec.or_eq_zero_iff.mp h1
    exact ⟨Int64.toBitVec_inj.mp h2, Int64.toBitVec_inj.mp h3⟩
  · rintro ⟨rfl, rfl⟩
    rfl
theorem m_0 : (0 : Int64).toInt = 0 := rfl
theorem n_0 : (0 : Int32).toInt = 0 := rfl
theorem n_1 : (1 : Int32).toInt = 1 := rfl
theorem below_eq {h m l h' m' l' : Int64} {t : Int32} {S S' : Int} (e : h.toInt * 1208925819614629174706176 + m.toInt * 1099511627776 + l.toInt = S) (e' : h'.toInt * 1208925819614629174706176 + m'.toInt * 1099511627776 + l'.toInt = S')
    (hm : 0 ≤ m.toInt ∧ m.toInt < 1099511627776 ∧ 0 ≤ l.toInt ∧ l.toInt < 1099511627776) (hm' : 0 ≤ m'.toInt ∧ m'.toInt < 1099511627776 ∧ 0 ≤ l'.toInt ∧ l'.toInt < 1099511627776) (ht : -1100 ≤ t.toInt ∧ t.toInt ≤ 1100)
    (hS : -1393796574908163946345982392040522594123776 ≤ S ∧ S ≤ 1393796574908163946345982392040522594123776) (hS' : -8362779449448983678075894352243135564742656 ≤ t.toInt * S' ∧ t.toInt * S' ≤ 8362779449448983678075894352243135564742656) :
    (h - t.toInt64 * h' + ((m - t.toInt64 * m' + ((l - t.toInt64 * l') >>> ((40 : Int32).toInt64 &&& 63))) >>> ((40 : Int32).toInt64 &&& 63))).toInt = (S - t.toInt * S') / 1208925819614629174706176 := by
  obtain ⟨hm1, hm2, hl1, hl2⟩ := hm
  obtain ⟨hm3, hm4, hl3, hl4⟩ := hm'
  have ht64 : t.toInt64.toInt = t.toInt := Int32.toInt_toInt64 t
  have b1 := mulb (B := 1099511627776) ht.1 ht.2 (by omega : -1099511627776 ≤ l'.toInt) (by omega)
  have b2 := mulb (B := 1099511627776) ht.1 ht.2 (by omega : -1099511627776 ≤ m'.toInt) (by omega)
  have hexp : t.toInt * S' = (t.toInt * h'.toInt) * 1208925819614629174706176 + (t.toInt * m'.toInt) * 1099511627776 + t.toInt * l'.toInt := by
    rw [← e']
    simp only [Int.mul_add, Int.mul_assoc]
  generalize hth : t.toInt * h'.toInt = th at hexp
  generalize htm : t.toInt * m'.toInt = tm at hexp b2
  generalize htl : t.toInt * l'.toInt = tl at hexp b1
  have q1 : (t.toInt64 * l').toInt = tl := by rw [← htl, ← ht64]; exact m_mul (by rw [ht64, htl]; omega) (by rw [ht64, htl]; omega)
  have q2 : (l - t.toInt64 * l').toInt = l.toInt - tl := by rw [← q1]; exact m_sub (by rw [q1]; omega) (by rw [q1]; omega)
  have q3 : ((l - t.toInt64 * l') >>> ((40 : Int32).toInt64 &&& 63)).toInt = (l.toInt - tl) / 1099511627776 := by rw [m_shr40, q2]
  have q4 : (t.toInt64 * m').toInt = tm := by rw [← htm, ← ht64]; exact m_mul (by rw [ht64, htm]; omega) (by rw [ht64, htm]; omega)
  have q5 : (m - t.toInt64 * m').toInt = m.toInt - tm := by rw [← q4]; exact m_sub (by rw [q4]; omega) (by rw [q4]; omega)
  have q6 : (m - t.toInt64 * m' + ((l - t.toInt64 * l') >>> ((40 : Int32).toInt64 &&& 63))).toInt = m.toInt - tm + (l.toInt - tl) / 1099511627776 := by
    rw [m_add (by rw [q5, q3]; omega) (by rw [q5, q3]; omega), q5, q3]
  have q7 : ((m - t.toInt64 * m' + ((l - t.toInt64 * l') >>> ((40 : Int32).toInt64 &&& 63))) >>> ((40 : Int32).toInt64 &&& 63)).toInt = (m.toInt - tm + (l.toInt - tl) / 1099511627776) / 1099511627776 := by rw [m_shr40, q6]
  have q8 : (t.toInt64 * h').toInt = th := by rw [← hth, ← ht64]; exact m_mul (by rw [ht64, hth]; omega) (by rw [ht64, hth]; omega)
  have q9 : (h - t.toInt64 * h').toInt = h.toInt - th := by rw [← q8]; exact m_sub (by rw [q8]; omega) (by rw [q8]; omega)
  rw [m_add (by rw [q9, q7]; omega) (by rw [q9, q7]; omega), q9, q7]
  omega
