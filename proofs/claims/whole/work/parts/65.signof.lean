/-! ===== TuningTablesModel: signOf, take, periodsIn ===== -/
theorem dX6_take_0 : decode cX6_take 0 = .ok (.iconst 0, 1) := by decide +kernel
theorem dX6_take_1 : decode cX6_take 1 = .ok (.istore_n 3, 1) := by decide +kernel
theorem dX6_take_2 : decode cX6_take 2 = .ok (.iload_n 3, 1) := by decide +kernel
theorem dX6_take_3 : decode cX6_take 3 = .ok (.bipush 6, 2) := by decide +kernel
theorem dX6_take_5 : decode cX6_take 5 = .ok (.if_icmp .ge 40, 3) := by decide +kernel
theorem dX6_take_8 : decode cX6_take 8 = .ok (.aload_n 2, 1) := by decide +kernel
theorem dX6_take_9 : decode cX6_take 9 = .ok (.iload_n 3, 1) := by decide +kernel
theorem dX6_take_10 : decode cX6_take 10 = .ok (.iload_n 1, 1) := by decide +kernel
theorem dX6_take_11 : decode cX6_take 11 = .ok (.aload_n 0, 1) := by decide +kernel
theorem dX6_take_12 : decode cX6_take 12 = .ok (.getfield 30, 3) := by decide +kernel
theorem dX6_take_15 : decode cX6_take 15 = .ok (.if_icmp .ne 12, 3) := by decide +kernel
theorem dX6_take_18 : decode cX6_take 18 = .ok (.aload_n 0, 1) := by decide +kernel
theorem dX6_take_19 : decode cX6_take 19 = .ok (.getfield 36, 3) := by decide +kernel
theorem dX6_take_22 : decode cX6_take 22 = .ok (.iload_n 3, 1) := by decide +kernel
theorem dX6_take_23 : decode cX6_take 23 = .ok (.iaload, 1) := by decide +kernel
theorem dX6_take_24 : decode cX6_take 24 = .ok (.goto 14, 3) := by decide +kernel
theorem dX6_take_27 : decode cX6_take 27 = .ok (.aload_n 0, 1) := by decide +kernel
theorem dX6_take_28 : decode cX6_take 28 = .ok (.getfield 33, 3) := by decide +kernel
theorem dX6_take_31 : decode cX6_take 31 = .ok (.bipush 6, 2) := by decide +kernel
theorem dX6_take_33 : decode cX6_take 33 = .ok (.iload_n 1, 1) := by decide +kernel
theorem dX6_take_34 : decode cX6_take 34 = .ok (.imul, 1) := by decide +kernel
theorem dX6_take_35 : decode cX6_take 35 = .ok (.iload_n 3, 1) := by decide +kernel
theorem dX6_take_36 : decode cX6_take 36 = .ok (.iadd, 1) := by decide +kernel
theorem dX6_take_37 : decode cX6_take 37 = .ok (.iaload, 1) := by decide +kernel
theorem dX6_take_38 : decode cX6_take 38 = .ok (.iastore, 1) := by decide +kernel
theorem dX6_take_39 : decode cX6_take 39 = .ok (.iinc 3 1, 3) := by decide +kernel
theorem dX6_take_42 : decode cX6_take 42 = .ok (.goto (-40), 3) := by decide +kernel
theorem dX6_take_45 : decode cX6_take 45 = .ok (.return_, 1) := by decide +kernel
theorem dX6_periodsIn_0 : decode cX6_periodsIn 0 = .ok (.aload_n 0, 1) := by decide +kernel
theorem dX6_periodsIn_1 : decode cX6_periodsIn 1 = .ok (.aload_n 1, 1) := by decide +kernel
theorem dX6_periodsIn_2 : decode cX6_periodsIn 2 = .ok (.invokevirtual 81, 3) := by decide +kernel
theorem dX6_periodsIn_5 : decode cX6_periodsIn 5 = .ok (.aload_n 0, 1) := by decide +kernel
theorem dX6_periodsIn_6 : decode cX6_periodsIn 6 = .ok (.aload_n 0, 1) := by decide +kernel
theorem dX6_periodsIn_7 : decode cX6_periodsIn 7 = .ok (.getfield 36, 3) := by decide +kernel
theorem dX6_periodsIn_10 : decode cX6_periodsIn 10 = .ok (.invokevirtual 81, 3) := by decide +kernel
theorem dX6_periodsIn_13 : decode cX6_periodsIn 13 = .ok (.ldiv, 1) := by decide +kernel
theorem dX6_periodsIn_14 : decode cX6_periodsIn 14 = .ok (.l2i, 1) := by decide +kernel
theorem dX6_periodsIn_15 : decode cX6_periodsIn 15 = .ok (.iconst 1, 1) := by decide +kernel
theorem dX6_periodsIn_16 : decode cX6_periodsIn 16 = .ok (.iadd, 1) := by decide +kernel
theorem dX6_periodsIn_17 : decode cX6_periodsIn 17 = .ok (.istore_n 2, 1) := by decide +kernel
theorem dX6_periodsIn_18 : decode cX6_periodsIn 18 = .ok (.aload_n 0, 1) := by decide +kernel
theorem dX6_periodsIn_19 : decode cX6_periodsIn 19 = .ok (.aload_n 1, 1) := by decide +kernel
theorem dX6_periodsIn_20 : decode cX6_periodsIn 20 = .ok (.iconst 1, 1) := by decide +kernel
theorem dX6_periodsIn_21 : decode cX6_periodsIn 21 = .ok (.aload_n 0, 1) := by decide +kernel
theorem dX6_periodsIn_22 : decode cX6_periodsIn 22 = .ok (.getfield 36, 3) := by decide +kernel
theorem dX6_periodsIn_25 : decode cX6_periodsIn 25 = .ok (.iload_n 2, 1) := by decide +kernel
theorem dX6_periodsIn_26 : decode cX6_periodsIn 26 = .ok (.invokevirtual 97, 3) := by decide +kernel
theorem dX6_periodsIn_29 : decode cX6_periodsIn 29 = .ok (.ifCond .ge 9, 3) := by decide +kernel
theorem dX6_periodsIn_32 : decode cX6_periodsIn 32 = .ok (.iinc 2 (-1), 3) := by decide +kernel
theorem dX6_periodsIn_35 : decode cX6_periodsIn 35 = .ok (.goto (-17), 3) := by decide +kernel
theorem dX6_periodsIn_38 : decode cX6_periodsIn 38 = .ok (.aload_n 0, 1) := by decide +kernel
theorem dX6_periodsIn_39 : decode cX6_periodsIn 39 = .ok (.aload_n 1, 1) := by decide +kernel
theorem dX6_periodsIn_40 : decode cX6_periodsIn 40 = .ok (.iconst 1, 1) := by decide +kernel
theorem dX6_periodsIn_41 : decode cX6_periodsIn 41 = .ok (.aload_n 0, 1) := by decide +kernel
theorem dX6_periodsIn_42 : decode cX6_periodsIn 42 = .ok (.getfield 36, 3) := by decide +kernel
theorem dX6_periodsIn_45 : decode cX6_periodsIn 45 = .ok (.iload_n 2, 1) := by decide +kernel
theorem dX6_periodsIn_46 : decode cX6_periodsIn 46 = .ok (.iconst 1, 1) := by decide +kernel
theorem dX6_periodsIn_47 : decode cX6_periodsIn 47 = .ok (.iadd, 1) := by decide +kernel
theorem dX6_periodsIn_48 : decode cX6_periodsIn 48 = .ok (.invokevirtual 97, 3) := by decide +kernel
theorem dX6_periodsIn_51 : decode cX6_periodsIn 51 = .ok (.ifCond .lt 9, 3) := by decide +kernel
theorem dX6_periodsIn_54 : decode cX6_periodsIn 54 = .ok (.iinc 2 1, 3) := by decide +kernel
theorem dX6_periodsIn_57 : decode cX6_periodsIn 57 = .ok (.goto (-19), 3) := by decide +kernel
theorem dX6_periodsIn_60 : decode cX6_periodsIn 60 = .ok (.iload_n 2, 1) := by decide +kernel
theorem dX6_periodsIn_61 : decode cX6_periodsIn 61 = .ok (.ireturn, 1) := by decide +kernel
theorem dX6_reduced_0 : decode cX6_reduced 0 = .ok (.aload_n 0, 1) := by decide +kernel
theorem dX6_reduced_1 : decode cX6_reduced 1 = .ok (.iload_n 1, 1) := by decide +kernel
theorem dX6_reduced_2 : decode cX6_reduced 2 = .ok (.aload_n 2, 1) := by decide +kernel
theorem dX6_reduced_3 : decode cX6_reduced 3 = .ok (.invokevirtual 101, 3) := by decide +kernel
theorem dX6_reduced_6 : decode cX6_reduced 6 = .ok (.aload_n 0, 1) := by decide +kernel
theorem dX6_reduced_7 : decode cX6_reduced 7 = .ok (.aload_n 2, 1) := by decide +kernel
theorem dX6_reduced_8 : decode cX6_reduced 8 = .ok (.invokevirtual 105, 3) := by decide +kernel
theorem dX6_reduced_11 : decode cX6_reduced 11 = .ok (.istore_n 3, 1) := by decide +kernel
theorem dX6_reduced_12 : decode cX6_reduced 12 = .ok (.iconst 0, 1) := by decide +kernel
theorem dX6_reduced_13 : decode cX6_reduced 13 = .ok (.istore 4, 2) := by decide +kernel
theorem dX6_reduced_15 : decode cX6_reduced 15 = .ok (.iload 4, 2) := by decide +kernel
theorem dX6_reduced_17 : decode cX6_reduced 17 = .ok (.bipush 6, 2) := by decide +kernel
theorem dX6_reduced_19 : decode cX6_reduced 19 = .ok (.if_icmp .ge 25, 3) := by decide +kernel
theorem dX6_reduced_22 : decode cX6_reduced 22 = .ok (.aload_n 2, 1) := by decide +kernel
theorem dX6_reduced_23 : decode cX6_reduced 23 = .ok (.iload 4, 2) := by decide +kernel
theorem dX6_reduced_25 : decode cX6_reduced 25 = .ok (.dup2, 1) := by decide +kernel
theorem dX6_reduced_26 : decode cX6_reduced 26 = .ok (.iaload, 1) := by decide +kernel
theorem dX6_reduced_27 : decode cX6_reduced 27 = .ok (.iload_n 3, 1) := by decide +kernel
theorem dX6_reduced_28 : decode cX6_reduced 28 = .ok (.aload_n 0, 1) := by decide +kernel
theorem dX6_reduced_29 : decode cX6_reduced 29 = .ok (.getfield 36, 3) := by decide +kernel
theorem dX6_reduced_32 : decode cX6_reduced 32 = .ok (.iload 4, 2) := by decide +kernel
theorem dX6_reduced_34 : decode cX6_reduced 34 = .ok (.iaload, 1) := by decide +kernel
theorem dX6_reduced_35 : decode cX6_reduced 35 = .ok (.imul, 1) := by decide +kernel
theorem dX6_reduced_36 : decode cX6_reduced 36 = .ok (.isub, 1) := by decide +kernel
theorem dX6_reduced_37 : decode cX6_reduced 37 = .ok (.iastore, 1) := by decide +kernel
theorem dX6_reduced_38 : decode cX6_reduced 38 = .ok (.iinc 4 1, 3) := by decide +kernel
theorem dX6_reduced_41 : decode cX6_reduced 41 = .ok (.goto (-26), 3) := by decide +kernel
theorem dX6_reduced_44 : decode cX6_reduced 44 = .ok (.return_, 1) := by decide +kernel
theorem dX6_degreeOf_0 : decode cX6_degreeOf 0 = .ok (.iload_n 2, 1) := by decide +kernel
theorem dX6_degreeOf_1 : decode cX6_degreeOf 1 = .ok (.i2l, 1) := by decide +kernel
theorem dX6_degreeOf_2 : decode cX6_degreeOf 2 = .ok (.aload_n 0, 1) := by decide +kernel
theorem dX6_degreeOf_3 : decode cX6_degreeOf 3 = .ok (.aload_n 1, 1) := by decide +kernel
theorem dX6_degreeOf_4 : decode cX6_degreeOf 4 = .ok (.invokevirtual 81, 3) := by decide +kernel
theorem dX6_degreeOf_7 : decode cX6_degreeOf 7 = .ok (.lmul, 1) := by decide +kernel
theorem dX6_degreeOf_8 : decode cX6_degreeOf 8 = .ok (.aload_n 0, 1) := by decide +kernel
theorem dX6_degreeOf_9 : decode cX6_degreeOf 9 = .ok (.aload_n 0, 1) := by decide +kernel
theorem dX6_degreeOf_10 : decode cX6_degreeOf 10 = .ok (.getfield 36, 3) := by decide +kernel
theorem dX6_degreeOf_13 : decode cX6_degreeOf 13 = .ok (.invokevirtual 81, 3) := by decide +kernel
theorem dX6_degreeOf_16 : decode cX6_degreeOf 16 = .ok (.ldiv, 1) := by decide +kernel
theorem dX6_degreeOf_17 : decode cX6_degreeOf 17 = .ok (.l2i, 1) := by decide +kernel
theorem dX6_degreeOf_18 : decode cX6_degreeOf 18 = .ok (.istore_n 3, 1) := by decide +kernel
theorem dX6_degreeOf_19 : decode cX6_degreeOf 19 = .ok (.aload_n 0, 1) := by decide +kernel
theorem dX6_degreeOf_20 : decode cX6_degreeOf 20 = .ok (.aload_n 1, 1) := by decide +kernel
theorem dX6_degreeOf_21 : decode cX6_degreeOf 21 = .ok (.iconst 2, 1) := by decide +kernel
theorem dX6_degreeOf_22 : decode cX6_degreeOf 22 = .ok (.iload_n 2, 1) := by decide +kernel
theorem dX6_degreeOf_23 : decode cX6_degreeOf 23 = .ok (.imul, 1) := by decide +kernel
theorem dX6_degreeOf_24 : decode cX6_degreeOf 24 = .ok (.aload_n 0, 1) := by decide +kernel
theorem dX6_degreeOf_25 : decode cX6_degreeOf 25 = .ok (.getfield 36, 3) := by decide +kernel
theorem dX6_degreeOf_28 : decode cX6_degreeOf 28 = .ok (.iconst 2, 1) := by decide +kernel
theorem dX6_degreeOf_29 : decode cX6_degreeOf 29 = .ok (.iload_n 3, 1) := by decide +kernel
theorem dX6_degreeOf_30 : decode cX6_degreeOf 30 = .ok (.imul, 1) := by decide +kernel
theorem dX6_degreeOf_31 : decode cX6_degreeOf 31 = .ok (.iconst 1, 1) := by decide +kernel
theorem dX6_degreeOf_32 : decode cX6_degreeOf 32 = .ok (.iadd, 1) := by decide +kernel
theorem dX6_degreeOf_33 : decode cX6_degreeOf 33 = .ok (.invokevirtual 97, 3) := by decide +kernel
theorem dX6_degreeOf_36 : decode cX6_degreeOf 36 = .ok (.ifCond .le 9, 3) := by decide +kernel
theorem dX6_degreeOf_39 : decode cX6_degreeOf 39 = .ok (.iinc 3 1, 3) := by decide +kernel
theorem dX6_degreeOf_42 : decode cX6_degreeOf 42 = .ok (.goto (-23), 3) := by decide +kernel
theorem dX6_degreeOf_45 : decode cX6_degreeOf 45 = .ok (.aload_n 0, 1) := by decide +kernel
theorem dX6_degreeOf_46 : decode cX6_degreeOf 46 = .ok (.aload_n 1, 1) := by decide +kernel
theorem dX6_degreeOf_47 : decode cX6_degreeOf 47 = .ok (.iconst 2, 1) := by decide +kernel
theorem dX6_degreeOf_48 : decode cX6_degreeOf 48 = .ok (.iload_n 2, 1) := by decide +kernel
theorem dX6_degreeOf_49 : decode cX6_degreeOf 49 = .ok (.imul, 1) := by decide +kernel
theorem dX6_degreeOf_50 : decode cX6_degreeOf 50 = .ok (.aload_n 0, 1) := by decide +kernel
theorem dX6_degreeOf_51 : decode cX6_degreeOf 51 = .ok (.getfield 36, 3) := by decide +kernel
theorem dX6_degreeOf_54 : decode cX6_degreeOf 54 = .ok (.iconst 2, 1) := by decide +kernel
theorem dX6_degreeOf_55 : decode cX6_degreeOf 55 = .ok (.iload_n 3, 1) := by decide +kernel
theorem dX6_degreeOf_56 : decode cX6_degreeOf 56 = .ok (.imul, 1) := by decide +kernel
theorem dX6_degreeOf_57 : decode cX6_degreeOf 57 = .ok (.iconst 1, 1) := by decide +kernel
theorem dX6_degreeOf_58 : decode cX6_degreeOf 58 = .ok (.isub, 1) := by decide +kernel
theorem dX6_degreeOf_59 : decode cX6_degreeOf 59 = .ok (.invokevirtual 97, 3) := by decide +kernel
theorem dX6_degreeOf_62 : decode cX6_degreeOf 62 = .ok (.ifCond .gt 9, 3) := by decide +kernel
theorem dX6_degreeOf_65 : decode cX6_degreeOf 65 = .ok (.iinc 3 (-1), 3) := by decide +kernel
theorem dX6_degreeOf_68 : decode cX6_degreeOf 68 = .ok (.goto (-23), 3) := by decide +kernel
theorem dX6_degreeOf_71 : decode cX6_degreeOf 71 = .ok (.iload_n 3, 1) := by decide +kernel
theorem dX6_degreeOf_72 : decode cX6_degreeOf 72 = .ok (.ireturn, 1) := by decide +kernel
def wt : Nat → Nat := fun k => match k with
  | 0 => 100 | 1 => 159 | 2 => 233 | 3 => 281 | 4 => 346 | _ => 371
def wP (e : xZ) : Nat → Nat
  | 0 => 0
  | k + 1 => wP e k + (e k).toNat * wt k
theorem wt_ok {k : Nat} (hk : k < 6) : prm k ^ 100 ≤ 2 ^ wt k := by
  rcases (by omega : k = 0 ∨ k = 1 ∨ k = 2 ∨ k = 3 ∨ k = 4 ∨ k = 5) with rfl | rfl | rfl | rfl | rfl | rfl <;> decide +kernel
theorem pA_w (e : xZ) : ∀ k, k ≤ 6 → pA e k ^ 100 ≤ 2 ^ wP e k
  | 0, _ => by simp [pA, wP]
  | k + 1, hk => by
    have h1 := pA_w e k (by omega)
    have h2 := wt_ok (k := k) (by omega)
    show (pA e k * prm k ^ (e k).toNat) ^ 100 ≤ 2 ^ (wP e k + (e k).toNat * wt k)
    have e1 : (pA e k * prm k ^ (e k).toNat) ^ 100 = pA e k ^ 100 * (prm k ^ 100) ^ (e k).toNat := by rw [Nat.mul_pow, ← Nat.pow_mul, ← Nat.pow_mul, Nat.mul_comm 100]
    rw [e1, Nat.pow_add, Nat.mul_comm (e k).toNat, Nat.pow_mul]
    exact Nat.mul_le_mul h1 (Nat.pow_le_pow_left h2 _)
theorem BB_big {n : Nat} (hn : n ≤ 58000) : 2 ^ n < BB 1999 := by
  have h1 : 2 ^ 298 ≤ 1000000000 ^ 10 := by decide +kernel
  have h2 : (2 ^ 298) ^ 199 ≤ (1000000000 ^ 10) ^ 199 := Nat.pow_le_pow_left h1 199
  rw [← Nat.pow_mul, ← Nat.pow_mul] at h2
  have h3 : (2 : Nat) ^ n < 2 ^ (298 * 199) := Nat.pow_lt_pow_right (by omega) (by omega)
  have h4 : BB (10 * 199) ≤ BB 1999 := BB_le (by omega)
  exact Nat.lt_of_lt_of_le h3 (Nat.le_trans h2 h4)
def Cap (e : xZ) : Prop := pA e 6 < BB 1999 ∧ pA (zneg e) 6 < BB 1999
theorem cap1 {e : xZ} (h : wP e 6 ≤ 5800000) : pA e 6 < BB 1999 := by
  have h1 := pA_w e 6 (by omega)
  have h2 : pA e 6 ^ 100 ≤ (2 ^ 58000) ^ 100 := by
    rw [← Nat.pow_mul]
    exact Nat.le_trans h1 (Nat.pow_le_pow_right (by omega) (by omega))
  have h3 : pA e 6 ≤ 2 ^ 58000 := by
    rcases Nat.lt_or_ge (2 ^ 58000) (pA e 6) with q | q
    · have := Nat.pow_lt_pow_left q (show 100 ≠ 0 by omega)
      omega
    · exact q
  exact Nat.lt_of_le_of_lt h3 (BB_big (by omega))
theorem cap_of {e : xZ} (h1 : wP e 6 ≤ 5800000) (h2 : wP (zneg e) 6 ≤ 5800000) : Cap e := ⟨cap1 h1, cap1 h2⟩
theorem cap_small {e : xZ} (h : bd e 3800) : Cap e := by
  have h0 := h 0 (by omega)
  have h1 := h 1 (by omega)
  have h2 := h 2 (by omega)
  have h3 := h 3 (by omega)
  have h4 := h 4 (by omega)
  have h5 := h 5 (by omega)
  refine cap_of ?_ ?_
  · simp only [wP, wt]; omega
  · simp only [wP, wt, zneg]; omega
def zlin (t : Int) (e : xZ) (l : Int) (p : xZ) : xZ := fun k => t * e k - l * p k
theorem sz_zlin (t : Int) (e : xZ) (l : Int) (p : xZ) : sz (zlin t e l p) = t * sz e - l * sz p := by
  simp only [sz, zlin, Int.sub_mul, Int.mul_add, Int.mul_assoc]
  omega
def I6 (f : xH) (a n : Nat) : Prop := ∃ g : Nat → Int32, f a = some (xI n g)
theorem I6.kept {f f' : xH} {a n : Nat} (h : I6 f a n) (k : f' a = f a) : I6 f' a n := by
  obtain ⟨g, h⟩ := h
  exact ⟨g, k.trans h⟩
theorem E6.i {f : xH} {a : Nat} {e : xZ} (h : E6 f a e) : I6 f a 6 := by
  obtain ⟨g, h, _⟩ := h
  exact ⟨g, h⟩
def Scr (f : xH) (v : Nat) : Prop := RowOK f (v + 6) ∧ RowOK f (v + 7) ∧ I6 f (v + 8) 6
theorem RowOK.kept {f f' : xH} {a : Nat} (h : RowOK f a) (k : f' a = f a) : RowOK f' a := by
  obtain ⟨g, h⟩ := h
  exact ⟨g, k.trans h⟩
theorem Scr.kept {f f' : xH} {v : Nat} (h : Scr f v) (k : ∀ q, v + 6 ≤ q → q < v + 9 → f' q = f q) : Scr f' v := ⟨h.1.kept (k _ (by omega) (by omega)), h.2.1.kept (k _ (by omega) (by omega)), h.2.2.kept (k _ (by omega) (by omega))⟩
theorem sg_lt (S : Int) : sg S < 0 ↔ S < 0 := by unfold sg; split <;> (try split) <;> omega
theorem sg_gt (S : Int) : 0 < sg S ↔ 0 < S := by unfold sg; split <;> (try split) <;> omega
set_option maxRecDepth 100000 in
set_option maxHeartbeats 8000000 in
theorem c6_signOf (V : xV) {v z ea pa : Nat} {f : xH} {i3 i4 i5 i14 i15 i16 i17 i18 i19 i21 i22 t l : Int32} {e p : xZ} {post : Option Value → xH → Nat → Prop} (h6 : f v = some (x6 v i3 i4 i5 i14 i15 i16 i17 i18 i19 i21 i22)) (hC : RfC f v) (hS : Scr f v) (he : E6 f ea e) (hpa : E6 f pa p) (n1 : ea < v + 6 ∨ v + 9 ≤ ea) (n2 : pa < v + 6 ∨ v + 9 ≤ pa) (b1 : ∀ k, k < 6 → -1000000 ≤ t.toInt * e k ∧ t.toInt * e k ≤ 1000000) (b2 : ∀ k, k < 6 → -1000000 ≤ l.toInt * p k ∧ l.toInt * p k ≤ 1000000) (hb : bd (zlin t.toInt e l.toInt p) 80000) (hcap : Cap (zlin t.toInt e l.toInt p))
    (hp : ∀ (r : Int32) f', r.toInt = sg (t.toInt * sz e - l.toInt * sz p) → (∀ q, q < v + 6 ∨ v + 9 ≤ q → f' q = f q) → Scr f' v → post (some (.int r)) f' z) :
    xMet V yX6_signOf cX6_signOf 6 (some .int) 4 0 0 [.ref v, .ref ea, .int t, .ref pa, .int l] f z post := by
  refine xMet_of false (by decide) (Nat.le_of_ble_eq_true rfl) (fun h => by cases h) (fun X hX O Rt => ?_)
  have O : xO X cX6_signOf 6 RX6 4 0 0 false := O
  show xG X 0 [some (.ref v), some (.ref ea), some (.int t), some (.ref pa), some (.int l), none] [] f (z, 0, 0)
  obtain ⟨ev, he1, he2⟩ := he
  obtain ⟨pv, hp1, hp2⟩ := hpa
  obtain ⟨hs1, hs2, g0, hs3⟩ := hS
  have six : (6 : Int32).toInt = 6 := rfl
  have loop : ∀ n k : Nat, k + n = 6 → ∀ g, (∀ j, j < k → (g j).toInt = zlin t.toInt e l.toInt p j) → xG X 3 [some (.ref v), some (.ref ea), some (.int t), some (.ref pa), some (.int l), some (.int (nI k))] [] (xu f (v + 8) (xI 6 g)) (z, 0, 0) := by
    intro n
    induction n with
    | zero =>
      intro k hk g hg
      have : k = 6 := by omega
      subst this
      have hti : (nI 6).toInt = 6 := rfl
      have hu : xu f (v + 8) (xI 6 g) v = some (x6 v i3 i4 i5 i14 i15 i16 i17 i18 i19 i21 i22) := by rw [xu_n (by omega)]; exact h6
      have cT : ((6 : Int) ≤ 6) = True := eq_true (Int.le_refl _)
      refine xgo O Rt xplX6_q xclX6_q [3] 30 ?_
      simp (maxSteps := 10000000) (disch := omega) only [↓reduceIte, ↓xrun_s, ↓xck_e, xdo_e, xlg_0, xlg_c, xst1_0, xst1_1, xst1_c, xst2_0, xst2_1, xst2_c, xk2_n, xk2_i, xk2_a, xk2_l, xct_i, xct_a, xct_l, xf4_0, xf4_1, xf4_2, xf4_3, List.contains_cons, List.contains_nil, Bool.or_false, Bool.false_or, Bool.or_self, Bool.true_or, Bool.or_true, cond_true, cond_false, List.set_cons_zero, List.set_cons_succ, List.length_cons, List.length_nil, true_and, and_true, xu_s, xu_u, xeqs, Nat.le_refl, not_true_eq_false, xq_10, xq_01, Int32.reduceAdd, Int32.reduceMul, Int32.reduceSub, Int32.reduceLE, Int32.reduceLT, Int32.reduceToNatClampNeg, Nat.reduceAdd, Nat.reduceMul, Nat.reduceBEq, Nat.reduceLT, Nat.reduceLeDiff, Nat.reduceEqDiff, Nat.zero_add, Bool.false_eq_true, reduceCtorEq, if_false, if_true, not_false_eq_true, true_imp_iff, false_imp_iff, imp_self, ↓xil_e, ↓xll_e, ↓xal_e, ↓xs1i_e, ↓xs2i_e, ↓xs1l_e, ↓xs2l_e, ↓xsil_e, ↓xs1_e, ↓xs2_e, ↓xs1a_e, ↓xsia_e, ↓xsiia_e, ↓xslia_e, ↓xsaia_e, ↓xsva_e, ↓xse1i_e, ↓xse1l_e, ↓xse1a_e, ↓xse0_e, ↓xfv_0, ↓xfv_c, ↓xgf_e, ↓xpf_e, ↓xia_e, ↓xia_n, ↓xba_e, ↓xba_n, ↓xla_e, ↓xla_n, ↓xob_e, ↓xra_e, ↓xno_e, ↓xle_e, ↓xnr_i, ↓xnr_b0, ↓xnr_b1, ↓xnr_n, ↓xdo_e, ↓xkl_0, ↓xe_iconst, ↓xe_bipush, ↓xe_isub, ↓xe_imul, ↓xe_iload, ↓xe_iload_n, ↓xe_aload_n, ↓xe_istore, ↓xe_iinc, ↓xe_goto, ↓xe_getfield, ↓xe_iaload, ↓xe_iastore, ↓xe_ireturn, ↓xe_icmp_ge, ↓xe_invokevirtual, dX6_signOf_0, dX6_signOf_1, dX6_signOf_3, dX6_signOf_5, dX6_signOf_7, dX6_signOf_10, dX6_signOf_11, dX6_signOf_14, dX6_signOf_16, dX6_signOf_17, dX6_signOf_18, dX6_signOf_20, dX6_signOf_21, dX6_signOf_22, dX6_signOf_24, dX6_signOf_25, dX6_signOf_27, dX6_signOf_28, dX6_signOf_29, dX6_signOf_30, dX6_signOf_31, dX6_signOf_34, dX6_signOf_37, dX6_signOf_38, dX6_signOf_39, dX6_signOf_42, dX6_signOf_45, xpX6_46, xkb_6, xki_0, xki_1, n_le, six, hti, hu, cT, xt_7_30, xtc_7_30, xt_34_m31, xtc_34_m31]
      refine xg_callVi (Qp := fun r f' => r.toInt = sg (sz (zlin t.toInt e l.toInt p)) ∧ (∀ q, q ≠ v + 6 → q ≠ v + 7 → f' q = xu f (v + 8) (xI 6 g) q) ∧ RowOK f' (v + 6) ∧ RowOK f' (v + 7)) O dX6_signOf_42 xl_X6_93 xk_X6_sign (c6_sign _ (ea := v + 8) (e := zlin t.toInt e l.toInt p) hu (hC.kept (xu_n (by omega)) (xu_n (by omega))) ⟨g, xu_s _ _ _, hg⟩ hb (hs1.kept (xu_n (by omega))) (hs2.kept (xu_n (by omega))) (by omega) (by omega) hcap.1 hcap.2 (fun r f' q1 q2 q3 q4 => ⟨r, rfl, ⟨q1, q2, q3, q4⟩, rfl⟩)) hu rfl rfl rfl (Nat.le_of_ble_eq_true rfl) rfl (Nat.le_of_ble_eq_true rfl) (Nat.le_of_ble_eq_true rfl) (Nat.le_of_ble_eq_true rfl) (fun r f1 hq => ?_)
      obtain ⟨q1, q2, q3, q4⟩ := hq
      refine xgo O Rt xplX6_q xclX6_q [3] 30 ?_
      simp (maxSteps := 10000000) (disch := omega) only [↓reduceIte, ↓xrun_s, ↓xck_e, xdo_e, xlg_0, xlg_c, xst1_0, xst1_1, xst1_c, xst2_0, xst2_1, xst2_c, xk2_n, xk2_i, xk2_a, xk2_l, xct_i, xct_a, xct_l, xf4_0, xf4_1, xf4_2, xf4_3, List.contains_cons, List.contains_nil, Bool.or_false, Bool.false_or, Bool.or_self, Bool.true_or, Bool.or_true, cond_true, cond_false, List.set_cons_zero, List.set_cons_succ, List.length_cons, List.length_nil, true_and, and_true, xu_s, xu_u, xeqs, Nat.le_refl, not_true_eq_false, xq_10, xq_01, Int32.reduceAdd, Int32.reduceMul, Int32.reduceSub, Int32.reduceLE, Int32.reduceLT, Int32.reduceToNatClampNeg, Nat.reduceAdd, Nat.reduceMul, Nat.reduceBEq, Nat.reduceLT, Nat.reduceLeDiff, Nat.reduceEqDiff, Nat.zero_add, Bool.false_eq_true, reduceCtorEq, if_false, if_true, not_false_eq_true, true_imp_iff, false_imp_iff, imp_self, ↓xil_e, ↓xll_e, ↓xal_e, ↓xs1i_e, ↓xs2i_e, ↓xs1l_e, ↓xs2l_e, ↓xsil_e, ↓xs1_e, ↓xs2_e, ↓xs1a_e, ↓xsia_e, ↓xsiia_e, ↓xslia_e, ↓xsaia_e, ↓xsva_e, ↓xse1i_e, ↓xse1l_e, ↓xse1a_e, ↓xse0_e, ↓xfv_0, ↓xfv_c, ↓xgf_e, ↓xpf_e, ↓xia_e, ↓xia_n, ↓xba_e, ↓xba_n, ↓xla_e, ↓xla_n, ↓xob_e, ↓xra_e, ↓xno_e, ↓xle_e, ↓xnr_i, ↓xnr_b0, ↓xnr_b1, ↓xnr_n, ↓xdo_e, ↓xkl_0, ↓xe_iconst, ↓xe_bipush, ↓xe_isub, ↓xe_imul, ↓xe_iload, ↓xe_iload_n, ↓xe_aload_n, ↓xe_istore, ↓xe_iinc, ↓xe_goto, ↓xe_getfield, ↓xe_iaload, ↓xe_iastore, ↓xe_ireturn, ↓xe_icmp_ge, ↓xe_invokevirtual, dX6_signOf_0, dX6_signOf_1, dX6_signOf_3, dX6_signOf_5, dX6_signOf_7, dX6_signOf_10, dX6_signOf_11, dX6_signOf_14, dX6_signOf_16, dX6_signOf_17, dX6_signOf_18, dX6_signOf_20, dX6_signOf_21, dX6_signOf_22, dX6_signOf_24, dX6_signOf_25, dX6_signOf_27, dX6_signOf_28, dX6_signOf_29, dX6_signOf_30, dX6_signOf_31, dX6_signOf_34, dX6_signOf_37, dX6_signOf_38, dX6_signOf_39, dX6_signOf_42, dX6_signOf_45, xpX6_46, xkb_6, xki_0, xki_1, xt_7_30, xtc_7_30, xt_34_m31, xtc_34_m31]
      refine hp r f1 (by rw [q1, sz_zlin]) (fun q hq => by rw [q2 _ (by omega) (by omega), xu_n (by omega)]) ⟨q3, q4, g, by rw [q2 _ (by omega) (by omega)]; exact xu_s _ _ _⟩
    | succ n ih =>
      intro k hk g hg
      have hti : (nI k).toInt = (k : Int) := nI_int (by omega)
      have nk : nI k + 1 = nI (k + 1) := nI_1 k
      have v0 : vp_in (nI k) 6 := vp_in_nI (by omega) (by omega)
      have v1 : (nI k).toNatClampNeg = k := nI_clamp (by omega)
      have hu : xu f (v + 8) (xI 6 g) v = some (x6 v i3 i4 i5 i14 i15 i16 i17 i18 i19 i21 i22) := by rw [xu_n (by omega)]; exact h6
      have hu1 : xu f (v + 8) (xI 6 g) ea = some (xI 6 ev) := by rw [xu_n (by omega)]; exact he1
      have hu2 : xu f (v + 8) (xI 6 g) pa = some (xI 6 pv) := by rw [xu_n (by omega)]; exact hp1
      refine xgo O Rt xplX6_q xclX6_q [3] 30 ?_
      simp (maxSteps := 10000000) (disch := omega) only [↓reduceIte, ↓xrun_s, ↓xck_e, xdo_e, xlg_0, xlg_c, xst1_0, xst1_1, xst1_c, xst2_0, xst2_1, xst2_c, xk2_n, xk2_i, xk2_a, xk2_l, xct_i, xct_a, xct_l, xf4_0, xf4_1, xf4_2, xf4_3, List.contains_cons, List.contains_nil, Bool.or_false, Bool.false_or, Bool.or_self, Bool.true_or, Bool.or_true, cond_true, cond_false, List.set_cons_zero, List.set_cons_succ, List.length_cons, List.length_nil, true_and, and_true, xu_s, xu_u, xeqs, Nat.le_refl, not_true_eq_false, xq_10, xq_01, Int32.reduceAdd, Int32.reduceMul, Int32.reduceSub, Int32.reduceLE, Int32.reduceLT, Int32.reduceToNatClampNeg, Nat.reduceAdd, Nat.reduceMul, Nat.reduceBEq, Nat.reduceLT, Nat.reduceLeDiff, Nat.reduceEqDiff, Nat.zero_add, Bool.false_eq_true, reduceCtorEq, if_false, if_true, not_false_eq_true, true_imp_iff, false_imp_iff, imp_self, ↓xil_e, ↓xll_e, ↓xal_e, ↓xs1i_e, ↓xs2i_e, ↓xs1l_e, ↓xs2l_e, ↓xsil_e, ↓xs1_e, ↓xs2_e, ↓xs1a_e, ↓xsia_e, ↓xsiia_e, ↓xslia_e, ↓xsaia_e, ↓xsva_e, ↓xse1i_e, ↓xse1l_e, ↓xse1a_e, ↓xse0_e, ↓xfv_0, ↓xfv_c, ↓xgf_e, ↓xpf_e, ↓xia_e, ↓xia_n, ↓xba_e, ↓xba_n, ↓xla_e, ↓xla_n, ↓xob_e, ↓xra_e, ↓xno_e, ↓xle_e, ↓xnr_i, ↓xnr_b0, ↓xnr_b1, ↓xnr_n, ↓xdo_e, ↓xkl_0, ↓xe_iconst, ↓xe_bipush, ↓xe_isub, ↓xe_imul, ↓xe_iload, ↓xe_iload_n, ↓xe_aload_n, ↓xe_istore, ↓xe_iinc, ↓xe_goto, ↓xe_getfield, ↓xe_iaload, ↓xe_iastore, ↓xe_ireturn, ↓xe_icmp_ge, ↓xe_invokevirtual, dX6_signOf_0, dX6_signOf_1, dX6_signOf_3, dX6_signOf_5, dX6_signOf_7, dX6_signOf_10, dX6_signOf_11, dX6_signOf_14, dX6_signOf_16, dX6_signOf_17, dX6_signOf_18, dX6_signOf_20, dX6_signOf_21, dX6_signOf_22, dX6_signOf_24, dX6_signOf_25, dX6_signOf_27, dX6_signOf_28, dX6_signOf_29, dX6_signOf_30, dX6_signOf_31, dX6_signOf_34, dX6_signOf_37, dX6_signOf_38, dX6_signOf_39, dX6_signOf_42, dX6_signOf_45, xpX6_46, xkb_6, xki_0, xki_1, n_le, six, hti, hu, hu1, hu2, v0, v1, nk, xt_7_30, xtc_7_30, xt_34_m31, xtc_34_m31]
      refine ⟨fun q => absurd q (by omega), fun _ => ih (k + 1) (by omega) _ (fun j hj => ?_)⟩
      simp only [upd]
      by_cases ej : j = k
      · rw [if_pos ej, ej]
        have c1 := b1 k (by omega)
        have c2 := b2 k (by omega)
        have d1 := he2 k (by omega)
        have d2 := hp2 k (by omega)
        have w1 : (t * ev k).toInt = t.toInt * e k := by rw [n_mul (by rw [d1]; omega) (by rw [d1]; omega), d1]
        have w2 : (l * pv k).toInt = l.toInt * p k := by rw [n_mul (by rw [d2]; omega) (by rw [d2]; omega), d2]
        rw [n_sub (by rw [w1, w2]; omega) (by rw [w1, w2]; omega), w1, w2]
        rfl
      · rw [if_neg ej]; exact hg j (by omega)
  refine xgo O Rt xplX6_q xclX6_q [3] 30 ?_
  simp (maxSteps := 10000000) (disch := omega) only [↓reduceIte, ↓xrun_s, ↓xck_e, xdo_e, xlg_0, xlg_c, xst1_0, xst1_1, xst1_c, xst2_0, xst2_1, xst2_c, xk2_n, xk2_i, xk2_a, xk2_l, xct_i, xct_a, xct_l, xf4_0, xf4_1, xf4_2, xf4_3, List.contains_cons, List.contains_nil, Bool.or_false, Bool.false_or, Bool.or_self, Bool.true_or, Bool.or_true, cond_true, cond_false, List.set_cons_zero, List.set_cons_succ, List.length_cons, List.length_nil, true_and, and_true, xu_s, xu_u, xeqs, Nat.le_refl, not_true_eq_false, xq_10, xq_01, Int32.reduceAdd, Int32.reduceMul, Int32.reduceSub, Int32.reduceLE, Int32.reduceLT, Int32.reduceToNatClampNeg, Nat.reduceAdd, Nat.reduceMul, Nat.reduceBEq, Nat.reduceLT, Nat.reduceLeDiff, Nat.reduceEqDiff, Nat.zero_add, Bool.false_eq_true, reduceCtorEq, if_false, if_true, not_false_eq_true, true_imp_iff, false_imp_iff, imp_self, ↓xil_e, ↓xll_e, ↓xal_e, ↓xs1i_e, ↓xs2i_e, ↓xs1l_e, ↓xs2l_e, ↓xsil_e, ↓xs1_e, ↓xs2_e, ↓xs1a_e, ↓xsia_e, ↓xsiia_e, ↓xslia_e, ↓xsaia_e, ↓xsva_e, ↓xse1i_e, ↓xse1l_e, ↓xse1a_e, ↓xse0_e, ↓xfv_0, ↓xfv_c, ↓xgf_e, ↓xpf_e, ↓xia_e, ↓xia_n, ↓xba_e, ↓xba_n, ↓xla_e, ↓xla_n, ↓xob_e, ↓xra_e, ↓xno_e, ↓xle_e, ↓xnr_i, ↓xnr_b0, ↓xnr_b1, ↓xnr_n, ↓xdo_e, ↓xkl_0, ↓xe_iconst, ↓xe_bipush, ↓xe_isub, ↓xe_imul, ↓xe_iload, ↓xe_iload_n, ↓xe_aload_n, ↓xe_istore, ↓xe_iinc, ↓xe_goto, ↓xe_getfield, ↓xe_iaload, ↓xe_iastore, ↓xe_ireturn, ↓xe_icmp_ge, ↓xe_invokevirtual, dX6_signOf_0, dX6_signOf_1, dX6_signOf_3, dX6_signOf_5, dX6_signOf_7, dX6_signOf_10, dX6_signOf_11, dX6_signOf_14, dX6_signOf_16, dX6_signOf_17, dX6_signOf_18, dX6_signOf_20, dX6_signOf_21, dX6_signOf_22, dX6_signOf_24, dX6_signOf_25, dX6_signOf_27, dX6_signOf_28, dX6_signOf_29, dX6_signOf_30, dX6_signOf_31, dX6_signOf_34, dX6_signOf_37, dX6_signOf_38, dX6_signOf_39, dX6_signOf_42, dX6_signOf_45, xpX6_46, xkb_6, xki_0, xki_1, xt_7_30, xtc_7_30, xt_34_m31, xtc_34_m31]
  have := loop 6 0 (by omega) g0 (fun j hj => absurd hj (by omega))
  rw [xu_id hs3] at this
  exact this
/-- the reference's steps -/
def Exs (f : xH) (v c : Nat) (xs : Nat → xZ) : Prop := ∃ ex : Nat → Int32, f (v + 4) = some (xI 150 ex) ∧ ∀ j k, j < c → k < 6 → (ex (6 * j + k)).toInt = xs j k
theorem Exs.kept {f f' : xH} {v c : Nat} {xs : Nat → xZ} (h : Exs f v c xs) (k : f' (v + 4) = f (v + 4)) : Exs f' v c xs := by
  obtain ⟨ex, h1, h2⟩ := h
  exact ⟨ex, k.trans h1, h2⟩
set_option maxRecDepth 100000 in
set_option maxHeartbeats 8000000 in
theorem c6_take (V : xV) {v z a s c : Nat} {f : xH} {i3 i4 i14 i15 i16 i17 i18 i19 i21 i22 : Int32} {xs : Nat → xZ} {P : xZ} {post : Option Value → xH → Nat → Prop} (h6 : f v = some (x6 v i3 i4 (nI c) i14 i15 i16 i17 i18 i19 i21 i22)) (hX : Exs f v c xs) (hP : E6 f (v + 5) P) (ha : I6 f a 6) (n1 : a ≠ v) (n2 : a ≠ v + 4) (n3 : a ≠ v + 5) (hc : c ≤ 24) (hs : s ≤ c)
    (hp : ∀ f', (∀ q, q ≠ a → f' q = f q) → E6 f' a (if s = c then P else xs s) → post none f' z) :
    xMet V yX6_take cX6_take 4 none 1 0 0 [.ref v, .int (nI s), .ref a] f z post := by
  refine xMet_of false (by decide) (Nat.le_of_ble_eq_true rfl) (fun h => by cases h) (fun X hX' O Rt => ?_)
  have O : xO X cX6_take 4 RX6 1 0 0 false := O
  show xG X 0 [some (.ref v), some (.int (nI s)), some (.ref a), none] [] f (z, 0, 0)
  obtain ⟨ex, hx1, hx2⟩ := hX
  obtain ⟨pv, hp1, hp2⟩ := hP
  obtain ⟨g0, hg0⟩ := ha
  have six : (6 : Int32).toInt = 6 := rfl
  have loop : ∀ n k : Nat, k + n = 6 → ∀ g : Nat → Int32, (∀ j, j < k → (g j).toInt = (if s = c then P else xs s) j) → xG X 2 [some (.ref v), some (.int (nI s)), some (.ref a), some (.int (nI k))] [] (xu f a (xI 6 g)) (z, 0, 0) := by
    intro n
    induction n with
    | zero =>
      intro k hk g hg
      have : k = 6 := by omega
      subst this
      have hti : (nI 6).toInt = 6 := rfl
      have cT : ((6 : Int) ≤ 6) = True := eq_true (Int.le_refl _)
      refine xgo O Rt xplX6_q xclX6_q [2] 30 ?_
      simp (maxSteps := 10000000) (disch := omega) only [↓reduceIte, ↓xrun_s, ↓xck_e, xdo_e, xlg_0, xlg_c, xst1_0, xst1_1, xst1_c, xst2_0, xst2_1, xst2_c, xk2_n, xk2_i, xk2_a, xk2_l, xct_i, xct_a, xct_l, xf4_0, xf4_1, xf4_2, xf4_3, List.contains_cons, List.contains_nil, Bool.or_false, Bool.false_or, Bool.or_self, Bool.true_or, Bool.or_true, cond_true, cond_false, List.set_cons_zero, List.set_cons_succ, List.length_cons, List.length_nil, true_and, and_true, xu_s, xu_u, xeqs, Nat.le_refl, not_true_eq_false, xq_10, xq_01, Int32.reduceAdd, Int32.reduceMul, Int32.reduceSub, Int32.reduceLE, Int32.reduceLT, Int32.reduceToNatClampNeg, Nat.reduceAdd, Nat.reduceMul, Nat.reduceBEq, Nat.reduceLT, Nat.reduceLeDiff, Nat.reduceEqDiff, Nat.zero_add, Bool.false_eq_true, reduceCtorEq, if_false, if_true, not_false_eq_true, true_imp_iff, false_imp_iff, imp_self, ↓xil_e, ↓xll_e, ↓xal_e, ↓xs1i_e, ↓xs2i_e, ↓xs1l_e, ↓xs2l_e, ↓xsil_e, ↓xs1_e, ↓xs2_e, ↓xs1a_e, ↓xsia_e, ↓xsiia_e, ↓xslia_e, ↓xsaia_e, ↓xsva_e, ↓xse1i_e, ↓xse1l_e, ↓xse1a_e, ↓xse0_e, ↓xfv_0, ↓xfv_c, ↓xgf_e, ↓xpf_e, ↓xia_e, ↓xia_n, ↓xba_e, ↓xba_n, ↓xla_e, ↓xla_n, ↓xob_e, ↓xra_e, ↓xno_e, ↓xle_e, ↓xnr_i, ↓xnr_b0, ↓xnr_b1, ↓xnr_n, ↓xdo_e, ↓xkl_0, ↓xe_iconst, ↓xe_bipush, ↓xe_iadd, ↓xe_imul, ↓xe_iload_n, ↓xe_aload_n, ↓xe_istore_n, ↓xe_iinc, ↓xe_goto, ↓xe_getfield, ↓xe_iaload, ↓xe_iastore, ↓xe_return_, ↓xe_icmp_ne, ↓xe_icmp_ge, dX6_take_0, dX6_take_1, dX6_take_2, dX6_take_3, dX6_take_5, dX6_take_8, dX6_take_9, dX6_take_10, dX6_take_11, dX6_take_12, dX6_take_15, dX6_take_18, dX6_take_19, dX6_take_22, dX6_take_23, dX6_take_24, dX6_take_27, dX6_take_28, dX6_take_31, dX6_take_33, dX6_take_34, dX6_take_35, dX6_take_36, dX6_take_37, dX6_take_38, dX6_take_39, dX6_take_42, dX6_take_45, xpX6_30, xpX6_33, xpX6_36, xkb_6, xki_0, xki_1, n_le, six, hti, cT, xt_5_40, xtc_5_40, xt_15_12, xtc_15_12, xt_24_14, xtc_24_14, xt_42_m40, xtc_42_m40]
      exact hp _ (fun q hq => xu_n hq) ⟨g, xu_s _ _ _, hg⟩
    | succ n ih =>
      intro k hk g hg
      have hti : (nI k).toInt = (k : Int) := nI_int (by omega)
      have nk : nI k + 1 = nI (k + 1) := nI_1 k
      have v0 : vp_in (nI k) 6 := vp_in_nI (by omega) (by omega)
      have v1 : (nI k).toNatClampNeg = k := nI_clamp (by omega)
      have hu : xu f a (xI 6 g) v = some (x6 v i3 i4 (nI c) i14 i15 i16 i17 i18 i19 i21 i22) := by rw [xu_n (Ne.symm n1)]; exact h6
      have hu1 : xu f a (xI 6 g) (v + 4) = some (xI 150 ex) := by rw [xu_n (Ne.symm n2)]; exact hx1
      have hu2 : xu f a (xI 6 g) (v + 5) = some (xI 6 pv) := by rw [xu_n (Ne.symm n3)]; exact hp1
      have cF : ((6 : Int) ≤ (k : Int)) = False := eq_false (by omega)
      by_cases hsc : s = c
      · have hc1 : (nI s = nI c) = True := eq_true (by rw [hsc])
        refine xgo O Rt xplX6_q xclX6_q [2] 40 ?_
        simp (maxSteps := 10000000) (disch := omega) only [↓reduceIte, ↓xrun_s, ↓xck_e, xdo_e, xlg_0, xlg_c, xst1_0, xst1_1, xst1_c, xst2_0, xst2_1, xst2_c, xk2_n, xk2_i, xk2_a, xk2_l, xct_i, xct_a, xct_l, xf4_0, xf4_1, xf4_2, xf4_3, List.contains_cons, List.contains_nil, Bool.or_false, Bool.false_or, Bool.or_self, Bool.true_or, Bool.or_true, cond_true, cond_false, List.set_cons_zero, List.set_cons_succ, List.length_cons, List.length_nil, true_and, and_true, xu_s, xu_u, xeqs, Nat.le_refl, not_true_eq_false, xq_10, xq_01, Int32.reduceAdd, Int32.reduceMul, Int32.reduceSub, Int32.reduceLE, Int32.reduceLT, Int32.reduceToNatClampNeg, Nat.reduceAdd, Nat.reduceMul, Nat.reduceBEq, Nat.reduceLT, Nat.reduceLeDiff, Nat.reduceEqDiff, Nat.zero_add, Bool.false_eq_true, reduceCtorEq, if_false, if_true, not_false_eq_true, true_imp_iff, false_imp_iff, imp_self, ↓xil_e, ↓xll_e, ↓xal_e, ↓xs1i_e, ↓xs2i_e, ↓xs1l_e, ↓xs2l_e, ↓xsil_e, ↓xs1_e, ↓xs2_e, ↓xs1a_e, ↓xsia_e, ↓xsiia_e, ↓xslia_e, ↓xsaia_e, ↓xsva_e, ↓xse1i_e, ↓xse1l_e, ↓xse1a_e, ↓xse0_e, ↓xfv_0, ↓xfv_c, ↓xgf_e, ↓xpf_e, ↓xia_e, ↓xia_n, ↓xba_e, ↓xba_n, ↓xla_e, ↓xla_n, ↓xob_e, ↓xra_e, ↓xno_e, ↓xle_e, ↓xnr_i, ↓xnr_b0, ↓xnr_b1, ↓xnr_n, ↓xdo_e, ↓xkl_0, ↓xe_iconst, ↓xe_bipush, ↓xe_iadd, ↓xe_imul, ↓xe_iload_n, ↓xe_aload_n, ↓xe_istore_n, ↓xe_iinc, ↓xe_goto, ↓xe_getfield, ↓xe_iaload, ↓xe_iastore, ↓xe_return_, ↓xe_icmp_ne, ↓xe_icmp_ge, dX6_take_0, dX6_take_1, dX6_take_2, dX6_take_3, dX6_take_5, dX6_take_8, dX6_take_9, dX6_take_10, dX6_take_11, dX6_take_12, dX6_take_15, dX6_take_18, dX6_take_19, dX6_take_22, dX6_take_23, dX6_take_24, dX6_take_27, dX6_take_28, dX6_take_31, dX6_take_33, dX6_take_34, dX6_take_35, dX6_take_36, dX6_take_37, dX6_take_38, dX6_take_39, dX6_take_42, dX6_take_45, xpX6_30, xpX6_33, xpX6_36, xkb_6, xki_0, xki_1, n_le, six, hti, cF, hu, hu2, hc1, v0, v1, nk, xt_5_40, xtc_5_40, xt_15_12, xtc_15_12, xt_24_14, xtc_24_14, xt_42_m40, xtc_42_m40]
        refine ih (k + 1) (by omega) _ (fun j hj => ?_)
        simp only [upd]
        by_cases ej : j = k
        · rw [if_pos ej, ej, if_pos hsc]; exact hp2 k (by omega)
        · rw [if_neg ej]; exact hg j (by omega)
      · have hc1 : (nI s = nI c) = False := eq_false (fun q => hsc ((nI_eq (by omega) (by omega)).mp q))
        have i1 : (6 : Int32) * nI s = nI (6 * s) := pk_mul 6 s
        have i2 : nI (6 * s) + nI k = nI (6 * s + k) := nI_add _ _
        have v2 : vp_in (nI (6 * s + k)) 150 := vp_in_nI (by omega) (by omega)
        have v3 : (nI (6 * s + k)).toNatClampNeg = 6 * s + k := nI_clamp (by omega)
        refine xgo O Rt xplX6_q xclX6_q [2] 40 ?_
        simp (maxSteps := 10000000) (disch := omega) only [↓reduceIte, ↓xrun_s, ↓xck_e, xdo_e, xlg_0, xlg_c, xst1_0, xst1_1, xst1_c, xst2_0, xst2_1, xst2_c, xk2_n, xk2_i, xk2_a, xk2_l, xct_i, xct_a, xct_l, xf4_0, xf4_1, xf4_2, xf4_3, List.contains_cons, List.contains_nil, Bool.or_false, Bool.false_or, Bool.or_self, Bool.true_or, Bool.or_true, cond_true, cond_false, List.set_cons_zero, List.set_cons_succ, List.length_cons, List.length_nil, true_and, and_true, xu_s, xu_u, xeqs, Nat.le_refl, not_true_eq_false, xq_10, xq_01, Int32.reduceAdd, Int32.reduceMul, Int32.reduceSub, Int32.reduceLE, Int32.reduceLT, Int32.reduceToNatClampNeg, Nat.reduceAdd, Nat.reduceMul, Nat.reduceBEq, Nat.reduceLT, Nat.reduceLeDiff, Nat.reduceEqDiff, Nat.zero_add, Bool.false_eq_true, reduceCtorEq, if_false, if_true, not_false_eq_true, true_imp_iff, false_imp_iff, imp_self, ↓xil_e, ↓xll_e, ↓xal_e, ↓xs1i_e, ↓xs2i_e, ↓xs1l_e, ↓xs2l_e, ↓xsil_e, ↓xs1_e, ↓xs2_e, ↓xs1a_e, ↓xsia_e, ↓xsiia_e, ↓xslia_e, ↓xsaia_e, ↓xsva_e, ↓xse1i_e, ↓xse1l_e, ↓xse1a_e, ↓xse0_e, ↓xfv_0, ↓xfv_c, ↓xgf_e, ↓xpf_e, ↓xia_e, ↓xia_n, ↓xba_e, ↓xba_n, ↓xla_e, ↓xla_n, ↓xob_e, ↓xra_e, ↓xno_e, ↓xle_e, ↓xnr_i, ↓xnr_b0, ↓xnr_b1, ↓xnr_n, ↓xdo_e, ↓xkl_0, ↓xe_iconst, ↓xe_bipush, ↓xe_iadd, ↓xe_imul, ↓xe_iload_n, ↓xe_aload_n, ↓xe_istore_n, ↓xe_iinc, ↓xe_goto, ↓xe_getfield, ↓xe_iaload, ↓xe_iastore, ↓xe_return_, ↓xe_icmp_ne, ↓xe_icmp_ge, dX6_take_0, dX6_take_1, dX6_take_2, dX6_take_3, dX6_take_5, dX6_take_8, dX6_take_9, dX6_take_10, dX6_take_11, dX6_take_12, dX6_take_15, dX6_take_18, dX6_take_19, dX6_take_22, dX6_take_23, dX6_take_24, dX6_take_27, dX6_take_28, dX6_take_31, dX6_take_33, dX6_take_34, dX6_take_35, dX6_take_36, dX6_take_37, dX6_take_38, dX6_take_39, dX6_take_42, dX6_take_45, xpX6_30, xpX6_33, xpX6_36, xkb_6, xki_0, xki_1, n_le, six, hti, cF, hu, hu1, hc1, v0, v1, nk, i1, i2, v2, v3, xt_5_40, xtc_5_40, xt_15_12, xtc_15_12, xt_24_14, xtc_24_14, xt_42_m40, xtc_42_m40]
        refine ih (k + 1) (by omega) _ (fun j hj => ?_)
        simp only [upd]
        by_cases ej : j = k
        · rw [if_pos ej, ej, if_neg hsc]; exact hx2 s k (by omega) (by omega)
        · rw [if_neg ej]; exact hg j (by omega)
  refine xgo O Rt xplX6_q xclX6_q [2] 30 ?_
  simp (maxSteps := 10000000) (disch := omega) only [↓reduceIte, ↓xrun_s, ↓xck_e, xdo_e, xlg_0, xlg_c, xst1_0, xst1_1, xst1_c, xst2_0, xst2_1, xst2_c, xk2_n, xk2_i, xk2_a, xk2_l, xct_i, xct_a, xct_l, xf4_0, xf4_1, xf4_2, xf4_3, List.contains_cons, List.contains_nil, Bool.or_false, Bool.false_or, Bool.or_self, Bool.true_or, Bool.or_true, cond_true, cond_false, List.set_cons_zero, List.set_cons_succ, List.length_cons, List.length_nil, true_and, and_true, xu_s, xu_u, xeqs, Nat.le_refl, not_true_eq_false, xq_10, xq_01, Int32.reduceAdd, Int32.reduceMul, Int32.reduceSub, Int32.reduceLE, Int32.reduceLT, Int32.reduceToNatClampNeg, Nat.reduceAdd, Nat.reduceMul, Nat.reduceBEq, Nat.reduceLT, Nat.reduceLeDiff, Nat.reduceEqDiff, Nat.zero_add, Bool.false_eq_true, reduceCtorEq, if_false, if_true, not_false_eq_true, true_imp_iff, false_imp_iff, imp_self, ↓xil_e, ↓xll_e, ↓xal_e, ↓xs1i_e, ↓xs2i_e, ↓xs1l_e, ↓xs2l_e, ↓xsil_e, ↓xs1_e, ↓xs2_e, ↓xs1a_e, ↓xsia_e, ↓xsiia_e, ↓xslia_e, ↓xsaia_e, ↓xsva_e, ↓xse1i_e, ↓xse1l_e, ↓xse1a_e, ↓xse0_e, ↓xfv_0, ↓xfv_c, ↓xgf_e, ↓xpf_e, ↓xia_e, ↓xia_n, ↓xba_e, ↓xba_n, ↓xla_e, ↓xla_n, ↓xob_e, ↓xra_e, ↓xno_e, ↓xle_e, ↓xnr_i, ↓xnr_b0, ↓xnr_b1, ↓xnr_n, ↓xdo_e, ↓xkl_0, ↓xe_iconst, ↓xe_bipush, ↓xe_iadd, ↓xe_imul, ↓xe_iload_n, ↓xe_aload_n, ↓xe_istore_n, ↓xe_iinc, ↓xe_goto, ↓xe_getfield, ↓xe_iaload, ↓xe_iastore, ↓xe_return_, ↓xe_icmp_ne, ↓xe_icmp_ge, dX6_take_0, dX6_take_1, dX6_take_2, dX6_take_3, dX6_take_5, dX6_take_8, dX6_take_9, dX6_take_10, dX6_take_11, dX6_take_12, dX6_take_15, dX6_take_18, dX6_take_19, dX6_take_22, dX6_take_23, dX6_take_24, dX6_take_27, dX6_take_28, dX6_take_31, dX6_take_33, dX6_take_34, dX6_take_35, dX6_take_36, dX6_take_37, dX6_take_38, dX6_take_39, dX6_take_42, dX6_take_45, xpX6_30, xpX6_33, xpX6_36, xkb_6, xki_0, xki_1, xt_5_40, xtc_5_40, xt_15_12, xtc_15_12, xt_24_14, xtc_24_14, xt_42_m40, xtc_42_m40]
  have := loop 6 0 (by omega) g0 (fun j hj => absurd hj (by omega))
  rw [xu_id hg0] at this
  exact this
