/-! ===== Note.addTimes, addPrime, isWide ===== -/
theorem dX1_addPrime_0 : decode cX1_addPrime 0 = .ok (.aload_n 0, 1) := by decide +kernel
theorem dX1_addPrime_1 : decode cX1_addPrime 1 = .ok (.getfield 9, 3) := by decide +kernel
theorem dX1_addPrime_4 : decode cX1_addPrime 4 = .ok (.iload_n 1, 1) := by decide +kernel
theorem dX1_addPrime_5 : decode cX1_addPrime 5 = .ok (.dup2, 1) := by decide +kernel
theorem dX1_addPrime_6 : decode cX1_addPrime 6 = .ok (.iaload, 1) := by decide +kernel
theorem dX1_addPrime_7 : decode cX1_addPrime 7 = .ok (.iload_n 2, 1) := by decide +kernel
theorem dX1_addPrime_8 : decode cX1_addPrime 8 = .ok (.iadd, 1) := by decide +kernel
theorem dX1_addPrime_9 : decode cX1_addPrime 9 = .ok (.iastore, 1) := by decide +kernel
theorem dX1_addPrime_10 : decode cX1_addPrime 10 = .ok (.aload_n 0, 1) := by decide +kernel
theorem dX1_addPrime_11 : decode cX1_addPrime 11 = .ok (.dup, 1) := by decide +kernel
theorem dX1_addPrime_12 : decode cX1_addPrime 12 = .ok (.getfield 21, 3) := by decide +kernel
theorem dX1_addPrime_15 : decode cX1_addPrime 15 = .ok (.iload_n 2, 1) := by decide +kernel
theorem dX1_addPrime_16 : decode cX1_addPrime 16 = .ok (.i2l, 1) := by decide +kernel
theorem dX1_addPrime_17 : decode cX1_addPrime 17 = .ok (.getstatic 37, 3) := by decide +kernel
theorem dX1_addPrime_20 : decode cX1_addPrime 20 = .ok (.iconst 3, 1) := by decide +kernel
theorem dX1_addPrime_21 : decode cX1_addPrime 21 = .ok (.iload_n 1, 1) := by decide +kernel
theorem dX1_addPrime_22 : decode cX1_addPrime 22 = .ok (.imul, 1) := by decide +kernel
theorem dX1_addPrime_23 : decode cX1_addPrime 23 = .ok (.laload, 1) := by decide +kernel
theorem dX1_addPrime_24 : decode cX1_addPrime 24 = .ok (.lmul, 1) := by decide +kernel
theorem dX1_addPrime_25 : decode cX1_addPrime 25 = .ok (.ladd, 1) := by decide +kernel
theorem dX1_addPrime_26 : decode cX1_addPrime 26 = .ok (.putfield 21, 3) := by decide +kernel
theorem dX1_addPrime_29 : decode cX1_addPrime 29 = .ok (.aload_n 0, 1) := by decide +kernel
theorem dX1_addPrime_30 : decode cX1_addPrime 30 = .ok (.dup, 1) := by decide +kernel
theorem dX1_addPrime_31 : decode cX1_addPrime 31 = .ok (.getfield 25, 3) := by decide +kernel
theorem dX1_addPrime_34 : decode cX1_addPrime 34 = .ok (.iload_n 2, 1) := by decide +kernel
theorem dX1_addPrime_35 : decode cX1_addPrime 35 = .ok (.i2l, 1) := by decide +kernel
theorem dX1_addPrime_36 : decode cX1_addPrime 36 = .ok (.getstatic 37, 3) := by decide +kernel
theorem dX1_addPrime_39 : decode cX1_addPrime 39 = .ok (.iconst 3, 1) := by decide +kernel
theorem dX1_addPrime_40 : decode cX1_addPrime 40 = .ok (.iload_n 1, 1) := by decide +kernel
theorem dX1_addPrime_41 : decode cX1_addPrime 41 = .ok (.imul, 1) := by decide +kernel
theorem dX1_addPrime_42 : decode cX1_addPrime 42 = .ok (.iconst 1, 1) := by decide +kernel
theorem dX1_addPrime_43 : decode cX1_addPrime 43 = .ok (.iadd, 1) := by decide +kernel
theorem dX1_addPrime_44 : decode cX1_addPrime 44 = .ok (.laload, 1) := by decide +kernel
theorem dX1_addPrime_45 : decode cX1_addPrime 45 = .ok (.lmul, 1) := by decide +kernel
theorem dX1_addPrime_46 : decode cX1_addPrime 46 = .ok (.ladd, 1) := by decide +kernel
theorem dX1_addPrime_47 : decode cX1_addPrime 47 = .ok (.putfield 25, 3) := by decide +kernel
theorem dX1_addPrime_50 : decode cX1_addPrime 50 = .ok (.aload_n 0, 1) := by decide +kernel
theorem dX1_addPrime_51 : decode cX1_addPrime 51 = .ok (.dup, 1) := by decide +kernel
theorem dX1_addPrime_52 : decode cX1_addPrime 52 = .ok (.getfield 28, 3) := by decide +kernel
theorem dX1_addPrime_55 : decode cX1_addPrime 55 = .ok (.iload_n 2, 1) := by decide +kernel
theorem dX1_addPrime_56 : decode cX1_addPrime 56 = .ok (.i2l, 1) := by decide +kernel
theorem dX1_addPrime_57 : decode cX1_addPrime 57 = .ok (.getstatic 37, 3) := by decide +kernel
theorem dX1_addPrime_60 : decode cX1_addPrime 60 = .ok (.iconst 3, 1) := by decide +kernel
theorem dX1_addPrime_61 : decode cX1_addPrime 61 = .ok (.iload_n 1, 1) := by decide +kernel
theorem dX1_addPrime_62 : decode cX1_addPrime 62 = .ok (.imul, 1) := by decide +kernel
theorem dX1_addPrime_63 : decode cX1_addPrime 63 = .ok (.iconst 2, 1) := by decide +kernel
theorem dX1_addPrime_64 : decode cX1_addPrime 64 = .ok (.iadd, 1) := by decide +kernel
theorem dX1_addPrime_65 : decode cX1_addPrime 65 = .ok (.laload, 1) := by decide +kernel
theorem dX1_addPrime_66 : decode cX1_addPrime 66 = .ok (.lmul, 1) := by decide +kernel
theorem dX1_addPrime_67 : decode cX1_addPrime 67 = .ok (.ladd, 1) := by decide +kernel
theorem dX1_addPrime_68 : decode cX1_addPrime 68 = .ok (.putfield 28, 3) := by decide +kernel
theorem dX1_addPrime_71 : decode cX1_addPrime 71 = .ok (.aload_n 0, 1) := by decide +kernel
theorem dX1_addPrime_72 : decode cX1_addPrime 72 = .ok (.invokevirtual 41, 3) := by decide +kernel
theorem dX1_addPrime_75 : decode cX1_addPrime 75 = .ok (.return_, 1) := by decide +kernel
theorem dX1_addTimes_0 : decode cX1_addTimes 0 = .ok (.iconst 0, 1) := by decide +kernel
theorem dX1_addTimes_1 : decode cX1_addTimes 1 = .ok (.istore_n 3, 1) := by decide +kernel
theorem dX1_addTimes_2 : decode cX1_addTimes 2 = .ok (.iload_n 3, 1) := by decide +kernel
theorem dX1_addTimes_3 : decode cX1_addTimes 3 = .ok (.bipush 6, 2) := by decide +kernel
theorem dX1_addTimes_5 : decode cX1_addTimes 5 = .ok (.if_icmp .ge 26, 3) := by decide +kernel
theorem dX1_addTimes_8 : decode cX1_addTimes 8 = .ok (.aload_n 0, 1) := by decide +kernel
theorem dX1_addTimes_9 : decode cX1_addTimes 9 = .ok (.getfield 9, 3) := by decide +kernel
theorem dX1_addTimes_12 : decode cX1_addTimes 12 = .ok (.iload_n 3, 1) := by decide +kernel
theorem dX1_addTimes_13 : decode cX1_addTimes 13 = .ok (.dup2, 1) := by decide +kernel
theorem dX1_addTimes_14 : decode cX1_addTimes 14 = .ok (.iaload, 1) := by decide +kernel
theorem dX1_addTimes_15 : decode cX1_addTimes 15 = .ok (.iload_n 2, 1) := by decide +kernel
theorem dX1_addTimes_16 : decode cX1_addTimes 16 = .ok (.aload_n 1, 1) := by decide +kernel
theorem dX1_addTimes_17 : decode cX1_addTimes 17 = .ok (.getfield 9, 3) := by decide +kernel
theorem dX1_addTimes_20 : decode cX1_addTimes 20 = .ok (.iload_n 3, 1) := by decide +kernel
theorem dX1_addTimes_21 : decode cX1_addTimes 21 = .ok (.iaload, 1) := by decide +kernel
theorem dX1_addTimes_22 : decode cX1_addTimes 22 = .ok (.imul, 1) := by decide +kernel
theorem dX1_addTimes_23 : decode cX1_addTimes 23 = .ok (.iadd, 1) := by decide +kernel
theorem dX1_addTimes_24 : decode cX1_addTimes 24 = .ok (.iastore, 1) := by decide +kernel
theorem dX1_addTimes_25 : decode cX1_addTimes 25 = .ok (.iinc 3 1, 3) := by decide +kernel
theorem dX1_addTimes_28 : decode cX1_addTimes 28 = .ok (.goto (-26), 3) := by decide +kernel
theorem dX1_addTimes_31 : decode cX1_addTimes 31 = .ok (.aload_n 0, 1) := by decide +kernel
theorem dX1_addTimes_32 : decode cX1_addTimes 32 = .ok (.dup, 1) := by decide +kernel
theorem dX1_addTimes_33 : decode cX1_addTimes 33 = .ok (.getfield 21, 3) := by decide +kernel
theorem dX1_addTimes_36 : decode cX1_addTimes 36 = .ok (.iload_n 2, 1) := by decide +kernel
theorem dX1_addTimes_37 : decode cX1_addTimes 37 = .ok (.i2l, 1) := by decide +kernel
theorem dX1_addTimes_38 : decode cX1_addTimes 38 = .ok (.aload_n 1, 1) := by decide +kernel
theorem dX1_addTimes_39 : decode cX1_addTimes 39 = .ok (.getfield 21, 3) := by decide +kernel
theorem dX1_addTimes_42 : decode cX1_addTimes 42 = .ok (.lmul, 1) := by decide +kernel
theorem dX1_addTimes_43 : decode cX1_addTimes 43 = .ok (.ladd, 1) := by decide +kernel
theorem dX1_addTimes_44 : decode cX1_addTimes 44 = .ok (.putfield 21, 3) := by decide +kernel
theorem dX1_addTimes_47 : decode cX1_addTimes 47 = .ok (.aload_n 0, 1) := by decide +kernel
theorem dX1_addTimes_48 : decode cX1_addTimes 48 = .ok (.dup, 1) := by decide +kernel
theorem dX1_addTimes_49 : decode cX1_addTimes 49 = .ok (.getfield 25, 3) := by decide +kernel
theorem dX1_addTimes_52 : decode cX1_addTimes 52 = .ok (.iload_n 2, 1) := by decide +kernel
theorem dX1_addTimes_53 : decode cX1_addTimes 53 = .ok (.i2l, 1) := by decide +kernel
theorem dX1_addTimes_54 : decode cX1_addTimes 54 = .ok (.aload_n 1, 1) := by decide +kernel
theorem dX1_addTimes_55 : decode cX1_addTimes 55 = .ok (.getfield 25, 3) := by decide +kernel
theorem dX1_addTimes_58 : decode cX1_addTimes 58 = .ok (.lmul, 1) := by decide +kernel
theorem dX1_addTimes_59 : decode cX1_addTimes 59 = .ok (.ladd, 1) := by decide +kernel
theorem dX1_addTimes_60 : decode cX1_addTimes 60 = .ok (.putfield 25, 3) := by decide +kernel
theorem dX1_addTimes_63 : decode cX1_addTimes 63 = .ok (.aload_n 0, 1) := by decide +kernel
theorem dX1_addTimes_64 : decode cX1_addTimes 64 = .ok (.dup, 1) := by decide +kernel
theorem dX1_addTimes_65 : decode cX1_addTimes 65 = .ok (.getfield 28, 3) := by decide +kernel
theorem dX1_addTimes_68 : decode cX1_addTimes 68 = .ok (.iload_n 2, 1) := by decide +kernel
theorem dX1_addTimes_69 : decode cX1_addTimes 69 = .ok (.i2l, 1) := by decide +kernel
theorem dX1_addTimes_70 : decode cX1_addTimes 70 = .ok (.aload_n 1, 1) := by decide +kernel
theorem dX1_addTimes_71 : decode cX1_addTimes 71 = .ok (.getfield 28, 3) := by decide +kernel
theorem dX1_addTimes_74 : decode cX1_addTimes 74 = .ok (.lmul, 1) := by decide +kernel
theorem dX1_addTimes_75 : decode cX1_addTimes 75 = .ok (.ladd, 1) := by decide +kernel
theorem dX1_addTimes_76 : decode cX1_addTimes 76 = .ok (.putfield 28, 3) := by decide +kernel
theorem dX1_addTimes_79 : decode cX1_addTimes 79 = .ok (.aload_n 0, 1) := by decide +kernel
theorem dX1_addTimes_80 : decode cX1_addTimes 80 = .ok (.invokevirtual 41, 3) := by decide +kernel
theorem dX1_addTimes_83 : decode cX1_addTimes 83 = .ok (.return_, 1) := by decide +kernel
theorem dX1_isWide_0 : decode cX1_isWide 0 = .ok (.iconst 0, 1) := by decide +kernel
theorem dX1_isWide_1 : decode cX1_isWide 1 = .ok (.istore_n 1, 1) := by decide +kernel
theorem dX1_isWide_2 : decode cX1_isWide 2 = .ok (.iload_n 1, 1) := by decide +kernel
theorem dX1_isWide_3 : decode cX1_isWide 3 = .ok (.bipush 6, 2) := by decide +kernel
theorem dX1_isWide_5 : decode cX1_isWide 5 = .ok (.if_icmp .ge 35, 3) := by decide +kernel
theorem dX1_isWide_8 : decode cX1_isWide 8 = .ok (.aload_n 0, 1) := by decide +kernel
theorem dX1_isWide_9 : decode cX1_isWide 9 = .ok (.getfield 9, 3) := by decide +kernel
theorem dX1_isWide_12 : decode cX1_isWide 12 = .ok (.iload_n 1, 1) := by decide +kernel
theorem dX1_isWide_13 : decode cX1_isWide 13 = .ok (.iaload, 1) := by decide +kernel
theorem dX1_isWide_14 : decode cX1_isWide 14 = .ok (.sipush 400, 3) := by decide +kernel
theorem dX1_isWide_17 : decode cX1_isWide 17 = .ok (.if_icmp .gt 15, 3) := by decide +kernel
theorem dX1_isWide_20 : decode cX1_isWide 20 = .ok (.aload_n 0, 1) := by decide +kernel
theorem dX1_isWide_21 : decode cX1_isWide 21 = .ok (.getfield 9, 3) := by decide +kernel
theorem dX1_isWide_24 : decode cX1_isWide 24 = .ok (.iload_n 1, 1) := by decide +kernel
theorem dX1_isWide_25 : decode cX1_isWide 25 = .ok (.iaload, 1) := by decide +kernel
theorem dX1_isWide_26 : decode cX1_isWide 26 = .ok (.sipush (-400), 3) := by decide +kernel
theorem dX1_isWide_29 : decode cX1_isWide 29 = .ok (.if_icmp .ge 5, 3) := by decide +kernel
theorem dX1_isWide_32 : decode cX1_isWide 32 = .ok (.iconst 1, 1) := by decide +kernel
theorem dX1_isWide_33 : decode cX1_isWide 33 = .ok (.ireturn, 1) := by decide +kernel
theorem dX1_isWide_34 : decode cX1_isWide 34 = .ok (.iinc 1 1, 3) := by decide +kernel
theorem dX1_isWide_37 : decode cX1_isWide 37 = .ok (.goto (-35), 3) := by decide +kernel
theorem dX1_isWide_40 : decode cX1_isWide 40 = .ok (.iconst 0, 1) := by decide +kernel
theorem dX1_isWide_41 : decode cX1_isWide 41 = .ok (.ireturn, 1) := by decide +kernel
theorem upd_e (g : Nat → Int32) (k : Nat) (x : Int32) (j : Nat) : upd g k x j = if j = k then x else g j := rfl
theorem carry_ok {h m l : Int64} {S : Int} (e : h.toInt * 1208925819614629174706176 + m.toInt * 1099511627776 + l.toInt = S) (hm : -36028797018963968 ≤ m.toInt ∧ m.toInt ≤ 36028797018963968) (hl : -36028797018963968 ≤ l.toInt ∧ l.toInt ≤ 36028797018963968) (hS : -9756576024357147624421876744283658158866432 ≤ S ∧ S ≤ 9756576024357147624421876744283658158866432) :
    (h + ((m + (l >>> ((40 : Int32).toInt64 &&& 63))) >>> ((40 : Int32).toInt64 &&& 63))).toInt * 1208925819614629174706176 + ((m + (l >>> ((40 : Int32).toInt64 &&& 63))) &&& 1099511627775).toInt * 1099511627776 + (l &&& 1099511627775).toInt = S ∧ 0 ≤ ((m + (l >>> ((40 : Int32).toInt64 &&& 63))) &&& 1099511627775).toInt ∧ ((m + (l >>> ((40 : Int32).toInt64 &&& 63))) &&& 1099511627775).toInt < 1099511627776 ∧ 0 ≤ (l &&& 1099511627775).toInt ∧ (l &&& 1099511627775).toInt < 1099511627776 := by
  have q1 : (l >>> ((40 : Int32).toInt64 &&& 63)).toInt = l.toInt / 1099511627776 := m_shr40 l
  have q2 : (m + (l >>> ((40 : Int32).toInt64 &&& 63))).toInt = m.toInt + l.toInt / 1099511627776 := by
    rw [m_add (by rw [q1]; omega) (by rw [q1]; omega), q1]
  have q3 : ((m + (l >>> ((40 : Int32).toInt64 &&& 63))) >>> ((40 : Int32).toInt64 &&& 63)).toInt = (m.toInt + l.toInt / 1099511627776) / 1099511627776 := by rw [m_shr40, q2]
  have q4 : (h + ((m + (l >>> ((40 : Int32).toInt64 &&& 63))) >>> ((40 : Int32).toInt64 &&& 63))).toInt = h.toInt + (m.toInt + l.toInt / 1099511627776) / 1099511627776 := by
    rw [m_add (by rw [q3]; omega) (by rw [q3]; omega), q3]
  rw [q4, m_mask40, m_mask40, q2]
  omega
theorem times_ok {h h' m m' l l' : Int64} {t : Int32} {S S' : Int} (e : h.toInt * 1208925819614629174706176 + m.toInt * 1099511627776 + l.toInt = S) (e' : h'.toInt * 1208925819614629174706176 + m'.toInt * 1099511627776 + l'.toInt = S')
    (hm : 0 ≤ m.toInt ∧ m.toInt < 1099511627776 ∧ 0 ≤ l.toInt ∧ l.toInt < 1099511627776) (hm' : 0 ≤ m'.toInt ∧ m'.toInt < 4398046511104 ∧ 0 ≤ l'.toInt ∧ l'.toInt < 4398046511104) (ht : -1100 ≤ t.toInt ∧ t.toInt ≤ 1100)
    (hS : -1393796574908163946345982392040522594123776 ≤ S ∧ S ≤ 1393796574908163946345982392040522594123776) (hS' : -8362779449448983678075894352243135564742656 ≤ t.toInt * S' ∧ t.toInt * S' ≤ 8362779449448983678075894352243135564742656) :
    (h + t.toInt64 * h').toInt * 1208925819614629174706176 + (m + t.toInt64 * m').toInt * 1099511627776 + (l + t.toInt64 * l').toInt = S + t.toInt * S' ∧ (-36028797018963968 ≤ (m + t.toInt64 * m').toInt ∧ (m + t.toInt64 * m').toInt ≤ 36028797018963968) ∧ -36028797018963968 ≤ (l + t.toInt64 * l').toInt ∧ (l + t.toInt64 * l').toInt ≤ 36028797018963968 := by
  obtain ⟨hm1, hm2, hl1, hl2⟩ := hm
  obtain ⟨hm3, hm4, hl3, hl4⟩ := hm'
  have ht64 : t.toInt64.toInt = t.toInt := Int32.toInt_toInt64 t
  have b1 := mulb (B := 4398046511104) ht.1 ht.2 (by omega : -4398046511104 ≤ l'.toInt) (by omega)
  have b2 := mulb (B := 4398046511104) ht.1 ht.2 (by omega : -4398046511104 ≤ m'.toInt) (by omega)
  have hexp : t.toInt * S' = (t.toInt * h'.toInt) * 1208925819614629174706176 + (t.toInt * m'.toInt) * 1099511627776 + t.toInt * l'.toInt := by
    rw [← e']
    simp only [Int.mul_add, Int.mul_assoc]
  generalize hth : t.toInt * h'.toInt = th at hexp
  generalize htm : t.toInt * m'.toInt = tm at hexp b2
  generalize htl : t.toInt * l'.toInt = tl at hexp b1
  have q1 : (t.toInt64 * l').toInt = tl := by rw [← htl, ← ht64]; exact m_mul (by rw [ht64, htl]; omega) (by rw [ht64, htl]; omega)
  have q2 : (l + t.toInt64 * l').toInt = l.toInt + tl := by rw [← q1]; exact m_add (by rw [q1]; omega) (by rw [q1]; omega)
  have q4 : (t.toInt64 * m').toInt = tm := by rw [← htm, ← ht64]; exact m_mul (by rw [ht64, htm]; omega) (by rw [ht64, htm]; omega)
  have q5 : (m + t.toInt64 * m').toInt = m.toInt + tm := by rw [← q4]; exact m_add (by rw [q4]; omega) (by rw [q4]; omega)
  have q8 : (t.toInt64 * h').toInt = th := by rw [← hth, ← ht64]; exact m_mul (by rw [ht64, hth]; omega) (by rw [ht64, hth]; omega)
  have q9 : (h + t.toInt64 * h').toInt = h.toInt + th := by rw [← q8]; exact m_add (by rw [q8]; omega) (by rw [q8]; omega)
  rw [q9, q5, q2]
  omega
/-- the exponents' own sum, in 32 bits -/
theorem ex_ok {e e' : Int32} {t : Int32} {x x' : Int} (h : e.toInt = x) (h' : e'.toInt = x') (hx : -1000000000 ≤ x ∧ x ≤ 1000000000) (hx' : -1000000000 ≤ t.toInt * x' ∧ t.toInt * x' ≤ 1000000000) : (e + t * e').toInt = x + t.toInt * x' := by
  have q : (t * e').toInt = t.toInt * x' := by rw [← h']; exact n_mul (by rw [h']; omega) (by rw [h']; omega)
  rw [n_add (by rw [q, h]; omega) (by rw [q, h]; omega), q, h]
set_option maxRecDepth 100000 in
set_option maxHeartbeats 4000000 in
theorem c_addTimes (V : xV) {a b a' b' z : Nat} {f : xH} {x x' : xZ} {t : Int32} {post : Option Value → xH → Nat → Prop} (hn : Nt f a b x) (hn' : Nt f a' b' x') (n1 : a' ≠ a) (n2 : a' ≠ b) (n3 : b' ≠ a) (n4 : b' ≠ b) (ht : -1100 ≤ t.toInt ∧ t.toInt ≤ 1100)
    (hS : -1393796574908163946345982392040522594123776 ≤ sz x ∧ sz x ≤ 1393796574908163946345982392040522594123776) (hS' : -8362779449448983678075894352243135564742656 ≤ t.toInt * sz x' ∧ t.toInt * sz x' ≤ 8362779449448983678075894352243135564742656)
    (hb1 : bd x 1000000) (hb2 : bd x' 900000) (hp : ∀ f', (∀ q, q ≠ a → q ≠ b → f' q = f q) → Nt f' a b (zadd x x' t.toInt) → post none f' z) :
    xMet V yX1_addTimes cX1_addTimes 4 none 2 0 0 [.ref a, .ref a', .int t] f z post := by
  refine xMet_of false (by decide) (Nat.le_of_ble_eq_true rfl) (fun h => by cases h) (fun X hX O Rt => ?_)
  have O : xO X cX1_addTimes 4 RX1 2 0 0 false := O
  show xG X 0 [some (.ref a), some (.ref a'), some (.int t), none] [] f (z, 0, 0)
  obtain ⟨h0, e, h, m, l, hf, hf2, hn3, hn4, h5, h6, h7, h8⟩ := hn
  obtain ⟨g0, e', h', m', l', gf, gf2, g3, g4, g5, g6, g7, g8⟩ := hn'
  have u1 : ∀ (f2 : xH) e2, xu f2 b e2 a = f2 a := fun f2 e2 => xu_n h0
  have u2 : ∀ (f2 : xH) e2, xu f2 b e2 a' = f2 a' := fun f2 e2 => xu_n n2
  have u3 : ∀ (f2 : xH) e2, xu f2 b e2 b' = f2 b' := fun f2 e2 => xu_n n4
  have u4 : ∀ (f2 : xH) e2, xu f2 a e2 a' = f2 a' := fun f2 e2 => xu_n n1
  refine xgo O Rt xplX1_q xclX1_q [] 200 ?_
  simp (maxSteps := 10000000) (disch := omega) only [↓reduceIte, ↓xrun_s, ↓xck_e, xdo_e, xlg_0, xlg_c, xst1_0, xst1_1, xst1_c, xst2_0, xst2_1, xst2_c, xk2_n, xk2_i, xk2_a, xk2_l, xct_i, xct_a, xct_l, xf4_0, xf4_1, xf4_2, xf4_3, List.contains_cons, List.contains_nil, Bool.or_false, Bool.false_or, Bool.or_self, Bool.true_or, Bool.or_true, cond_true, cond_false, List.set_cons_zero, List.set_cons_succ, List.length_cons, List.length_nil, true_and, and_true, xu_s, xu_u, xeqs, Nat.le_refl, not_true_eq_false, xq_10, xq_01, Int32.reduceAdd, Int32.reduceMul, Int32.reduceSub, Int32.reduceLE, Int32.reduceLT, Int32.reduceToNatClampNeg, Nat.reduceAdd, Nat.reduceMul, Nat.reduceBEq, Nat.reduceLT, Nat.reduceLeDiff, Nat.reduceEqDiff, Nat.zero_add, Bool.false_eq_true, reduceCtorEq, if_false, if_true, not_false_eq_true, true_imp_iff, false_imp_iff, imp_self, ↓xil_e, ↓xll_e, ↓xal_e, ↓xs1i_e, ↓xs2i_e, ↓xs1l_e, ↓xs2l_e, ↓xsil_e, ↓xs1_e, ↓xs2_e, ↓xs1a_e, ↓xsia_e, ↓xsiia_e, ↓xslia_e, ↓xsaia_e, ↓xsva_e, ↓xse1i_e, ↓xse1l_e, ↓xse1a_e, ↓xse0_e, ↓xfv_0, ↓xfv_c, ↓xgf_e, ↓xpf_e, ↓xia_e, ↓xia_n, ↓xba_e, ↓xba_n, ↓xla_e, ↓xla_n, ↓xob_e, ↓xra_e, ↓xno_e, ↓xle_e, ↓xnr_i, ↓xnr_b0, ↓xnr_b1, ↓xnr_n, ↓xdo_e, ↓xkl_0, ↓xe_iconst, ↓xe_bipush, ↓xe_iadd, ↓xe_imul, ↓xe_ladd, ↓xe_lmul, ↓xe_i2l, ↓xe_dup, ↓xe_dup2, ↓xe_iload_n, ↓xe_aload_n, ↓xe_istore_n, ↓xe_iinc, ↓xe_goto, ↓xe_getfield, ↓xe_putfield, ↓xe_iaload, ↓xe_iastore, ↓xe_return_, ↓xe_icmp_ge, ↓xe_invokevirtual, dX1_addTimes_0, dX1_addTimes_1, dX1_addTimes_2, dX1_addTimes_3, dX1_addTimes_5, dX1_addTimes_8, dX1_addTimes_9, dX1_addTimes_12, dX1_addTimes_13, dX1_addTimes_14, dX1_addTimes_15, dX1_addTimes_16, dX1_addTimes_17, dX1_addTimes_20, dX1_addTimes_21, dX1_addTimes_22, dX1_addTimes_23, dX1_addTimes_24, dX1_addTimes_25, dX1_addTimes_28, dX1_addTimes_31, dX1_addTimes_32, dX1_addTimes_33, dX1_addTimes_36, dX1_addTimes_37, dX1_addTimes_38, dX1_addTimes_39, dX1_addTimes_42, dX1_addTimes_43, dX1_addTimes_44, dX1_addTimes_47, dX1_addTimes_48, dX1_addTimes_49, dX1_addTimes_52, dX1_addTimes_53, dX1_addTimes_54, dX1_addTimes_55, dX1_addTimes_58, dX1_addTimes_59, dX1_addTimes_60, dX1_addTimes_63, dX1_addTimes_64, dX1_addTimes_65, dX1_addTimes_68, dX1_addTimes_69, dX1_addTimes_70, dX1_addTimes_71, dX1_addTimes_74, dX1_addTimes_75, dX1_addTimes_76, dX1_addTimes_79, dX1_addTimes_80, dX1_addTimes_83, xpX1_9, xpX1_21, xpX1_25, xpX1_28, xkb_6, xki_0, xki_1, hf, hf2, gf, gf2, u1, u2, u3, u4, upd_e, vin6_0, vin6_1, vin6_2, vin6_3, vin6_4, vin6_5, xft_1_1, xft_1_2, xft_1_3, xt_5_26, xtc_5_26, xt_28_m26, xtc_28_m26]
  have key := times_ok hn4 g4 ⟨h5, h6, h7, h8⟩ ⟨g5, by omega, g7, by omega⟩ ht hS hS'
  have key2 := carry_ok key.1 key.2.1 key.2.2 ⟨by omega, by omega⟩
  refine xg_callVv (Qp := fun f' => f' = _) O dX1_addTimes_80 xl_X1_41 xk_X1_carry (c_carry _ (xu_s _ _ _) ⟨rfl, rfl, rfl⟩) (xu_s _ _ _) rfl rfl rfl (Nat.le_of_ble_eq_true rfl) rfl (Nat.le_of_ble_eq_true rfl) (Nat.le_of_ble_eq_true rfl) (Nat.le_of_ble_eq_true rfl) (fun f1 hq => ?_)
  subst hq
  refine xgo O Rt xplX1_q xclX1_q [] 200 ?_
  simp (maxSteps := 10000000) (disch := omega) only [↓reduceIte, ↓xrun_s, ↓xck_e, xdo_e, xlg_0, xlg_c, xst1_0, xst1_1, xst1_c, xst2_0, xst2_1, xst2_c, xk2_n, xk2_i, xk2_a, xk2_l, xct_i, xct_a, xct_l, xf4_0, xf4_1, xf4_2, xf4_3, List.contains_cons, List.contains_nil, Bool.or_false, Bool.false_or, Bool.or_self, Bool.true_or, Bool.or_true, cond_true, cond_false, List.set_cons_zero, List.set_cons_succ, List.length_cons, List.length_nil, true_and, and_true, xu_s, xu_u, xeqs, Nat.le_refl, not_true_eq_false, xq_10, xq_01, Int32.reduceAdd, Int32.reduceMul, Int32.reduceSub, Int32.reduceLE, Int32.reduceLT, Int32.reduceToNatClampNeg, Nat.reduceAdd, Nat.reduceMul, Nat.reduceBEq, Nat.reduceLT, Nat.reduceLeDiff, Nat.reduceEqDiff, Nat.zero_add, Bool.false_eq_true, reduceCtorEq, if_false, if_true, not_false_eq_true, true_imp_iff, false_imp_iff, imp_self, ↓xil_e, ↓xll_e, ↓xal_e, ↓xs1i_e, ↓xs2i_e, ↓xs1l_e, ↓xs2l_e, ↓xsil_e, ↓xs1_e, ↓xs2_e, ↓xs1a_e, ↓xsia_e, ↓xsiia_e, ↓xslia_e, ↓xsaia_e, ↓xsva_e, ↓xse1i_e, ↓xse1l_e, ↓xse1a_e, ↓xse0_e, ↓xfv_0, ↓xfv_c, ↓xgf_e, ↓xpf_e, ↓xia_e, ↓xia_n, ↓xba_e, ↓xba_n, ↓xla_e, ↓xla_n, ↓xob_e, ↓xra_e, ↓xno_e, ↓xle_e, ↓xnr_i, ↓xnr_b0, ↓xnr_b1, ↓xnr_n, ↓xdo_e, ↓xkl_0, ↓xe_iconst, ↓xe_bipush, ↓xe_iadd, ↓xe_imul, ↓xe_ladd, ↓xe_lmul, ↓xe_i2l, ↓xe_dup, ↓xe_dup2, ↓xe_iload_n, ↓xe_aload_n, ↓xe_istore_n, ↓xe_iinc, ↓xe_goto, ↓xe_getfield, ↓xe_putfield, ↓xe_iaload, ↓xe_iastore, ↓xe_return_, ↓xe_icmp_ge, ↓xe_invokevirtual, dX1_addTimes_0, dX1_addTimes_1, dX1_addTimes_2, dX1_addTimes_3, dX1_addTimes_5, dX1_addTimes_8, dX1_addTimes_9, dX1_addTimes_12, dX1_addTimes_13, dX1_addTimes_14, dX1_addTimes_15, dX1_addTimes_16, dX1_addTimes_17, dX1_addTimes_20, dX1_addTimes_21, dX1_addTimes_22, dX1_addTimes_23, dX1_addTimes_24, dX1_addTimes_25, dX1_addTimes_28, dX1_addTimes_31, dX1_addTimes_32, dX1_addTimes_33, dX1_addTimes_36, dX1_addTimes_37, dX1_addTimes_38, dX1_addTimes_39, dX1_addTimes_42, dX1_addTimes_43, dX1_addTimes_44, dX1_addTimes_47, dX1_addTimes_48, dX1_addTimes_49, dX1_addTimes_52, dX1_addTimes_53, dX1_addTimes_54, dX1_addTimes_55, dX1_addTimes_58, dX1_addTimes_59, dX1_addTimes_60, dX1_addTimes_63, dX1_addTimes_64, dX1_addTimes_65, dX1_addTimes_68, dX1_addTimes_69, dX1_addTimes_70, dX1_addTimes_71, dX1_addTimes_74, dX1_addTimes_75, dX1_addTimes_76, dX1_addTimes_79, dX1_addTimes_80, dX1_addTimes_83, xpX1_9, xpX1_21, xpX1_25, xpX1_28, xkb_6, xki_0, xki_1, xft_1_1, xft_1_2, xft_1_3, xt_5_26, xtc_5_26, xt_28_m26, xtc_28_m26]
  refine hp _ (fun q q1 q2 => by rw [xu_n q1, xu_n q2]) ⟨h0, _, _, _, _, xu_s _ _ _, by rw [xu_n (Ne.symm h0), xu_s], fun k hk => ?_, by rw [sz_zadd]; exact key2.1, key2.2⟩
  have hbk := hb1 k hk
  have hbk' := hb2 k hk
  have hm := mulb ht.1 ht.2 hbk'.1 hbk'.2
  have hx := ex_ok (t := t) (hn3 k hk) (g3 k hk) ⟨by omega, by omega⟩ ⟨by omega, by omega⟩
  rcases (by omega : k = 0 ∨ k = 1 ∨ k = 2 ∨ k = 3 ∨ k = 4 ∨ k = 5) with rfl | rfl | rfl | rfl | rfl | rfl <;> simpa [upd, zadd] using hx
def wide (x : xZ) : Prop := ∃ k, k < 6 ∧ (400 < x k ∨ x k < -400)
set_option maxRecDepth 100000 in
set_option maxHeartbeats 4000000 in
theorem c_isWide (V : xV) {a b z : Nat} {f : xH} {x : xZ} {post : Option Value → xH → Nat → Prop} (hn : Nt f a b x) (hp1 : wide x → post (some (.int 1)) f z) (hp0 : ¬ wide x → post (some (.int 0)) f z) :
    xMet V yX1_isWide cX1_isWide 2 (some .boolean) 1 0 0 [.ref a] f z post := by
  refine xMet_of false (by decide) (Nat.le_of_ble_eq_true rfl) (fun h => by cases h) (fun X hX O Rt => ?_)
  have O : xO X cX1_isWide 2 RX1 1 0 0 false := O
  show xG X 0 [some (.ref a), none] [] f (z, 0, 0)
  obtain ⟨h0, e, h, m, l, hf, hf2, hn3, hn4, h5, h6, h7, h8⟩ := hn
  refine xgo O Rt xplX1_q xclX1_q [] 200 ?_
  simp (maxSteps := 10000000) (disch := omega) only [↓reduceIte, ↓xrun_s, ↓xck_e, xdo_e, xlg_0, xlg_c, xst1_0, xst1_1, xst1_c, xst2_0, xst2_1, xst2_c, xk2_n, xk2_i, xk2_a, xk2_l, xct_i, xct_a, xct_l, xf4_0, xf4_1, xf4_2, xf4_3, List.contains_cons, List.contains_nil, Bool.or_false, Bool.false_or, Bool.or_self, Bool.true_or, Bool.or_true, cond_true, cond_false, List.set_cons_zero, List.set_cons_succ, List.length_cons, List.length_nil, true_and, and_true, xu_s, xu_u, xeqs, Nat.le_refl, not_true_eq_false, xq_10, xq_01, Int32.reduceAdd, Int32.reduceMul, Int32.reduceSub, Int32.reduceLE, Int32.reduceLT, Int32.reduceToNatClampNeg, Nat.reduceAdd, Nat.reduceMul, Nat.reduceBEq, Nat.reduceLT, Nat.reduceLeDiff, Nat.reduceEqDiff, Nat.zero_add, Bool.false_eq_true, reduceCtorEq, if_false, if_true, not_false_eq_true, true_imp_iff, false_imp_iff, imp_self, ↓xil_e, ↓xll_e, ↓xal_e, ↓xs1i_e, ↓xs2i_e, ↓xs1l_e, ↓xs2l_e, ↓xsil_e, ↓xs1_e, ↓xs2_e, ↓xs1a_e, ↓xsia_e, ↓xsiia_e, ↓xslia_e, ↓xsaia_e, ↓xsva_e, ↓xse1i_e, ↓xse1l_e, ↓xse1a_e, ↓xse0_e, ↓xfv_0, ↓xfv_c, ↓xgf_e, ↓xpf_e, ↓xia_e, ↓xia_n, ↓xba_e, ↓xba_n, ↓xla_e, ↓xla_n, ↓xob_e, ↓xra_e, ↓xno_e, ↓xle_e, ↓xnr_i, ↓xnr_b0, ↓xnr_b1, ↓xnr_n, ↓xdo_e, ↓xkl_0, ↓xe_iconst, ↓xe_bipush, ↓xe_sipush, ↓xe_iload_n, ↓xe_aload_n, ↓xe_istore_n, ↓xe_iinc, ↓xe_goto, ↓xe_getfield, ↓xe_iaload, ↓xe_ireturn, ↓xe_icmp_ge, ↓xe_icmp_gt, dX1_isWide_0, dX1_isWide_1, dX1_isWide_2, dX1_isWide_3, dX1_isWide_5, dX1_isWide_8, dX1_isWide_9, dX1_isWide_12, dX1_isWide_13, dX1_isWide_14, dX1_isWide_17, dX1_isWide_20, dX1_isWide_21, dX1_isWide_24, dX1_isWide_25, dX1_isWide_26, dX1_isWide_29, dX1_isWide_32, dX1_isWide_33, dX1_isWide_34, dX1_isWide_37, dX1_isWide_40, dX1_isWide_41, xpX1_9, xkb_6, xki_0, xki_1, xks_400, xks_m400, hf, hf2, vin6_0, vin6_1, vin6_2, vin6_3, vin6_4, vin6_5, xt_5_35, xtc_5_35, xt_17_15, xtc_17_15, xt_29_5, xtc_29_5, xt_37_m35, xtc_37_m35]
  have c400 : (400 : Int32).toInt = 400 := rfl
  have cm400 : (-400 : Int32).toInt = -400 := rfl
  simp only [n_lt, n_le, c400, cm400, hn3 0 (by omega), hn3 1 (by omega), hn3 2 (by omega), hn3 3 (by omega), hn3 4 (by omega), hn3 5 (by omega)]
  refine ⟨fun q => hp1 ⟨0, by omega, Or.inl q⟩, fun q0 => ⟨fun q1 => ?_, fun q => hp1 ⟨0, by omega, Or.inr (by omega)⟩⟩⟩
  refine ⟨fun q => hp1 ⟨1, by omega, Or.inl q⟩, fun q2 => ⟨fun q3 => ?_, fun q => hp1 ⟨1, by omega, Or.inr (by omega)⟩⟩⟩
  refine ⟨fun q => hp1 ⟨2, by omega, Or.inl q⟩, fun q4 => ⟨fun q5 => ?_, fun q => hp1 ⟨2, by omega, Or.inr (by omega)⟩⟩⟩
  refine ⟨fun q => hp1 ⟨3, by omega, Or.inl q⟩, fun q6 => ⟨fun q7 => ?_, fun q => hp1 ⟨3, by omega, Or.inr (by omega)⟩⟩⟩
  refine ⟨fun q => hp1 ⟨4, by omega, Or.inl q⟩, fun q8 => ⟨fun q9 => ?_, fun q => hp1 ⟨4, by omega, Or.inr (by omega)⟩⟩⟩
  refine ⟨fun q => hp1 ⟨5, by omega, Or.inl q⟩, fun q10 => ⟨fun q11 => ?_, fun q => hp1 ⟨5, by omega, Or.inr (by omega)⟩⟩⟩
  refine hp0 ?_
  rintro ⟨k, hk, hw⟩
  rcases (by omega : k = 0 ∨ k = 1 ∨ k = 2 ∨ k = 3 ∨ k = 4 ∨ k = 5) with rfl | rfl | rfl | rfl | rfl | rfl <;> omega
