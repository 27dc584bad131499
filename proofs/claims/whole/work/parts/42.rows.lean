/-! ===== what a read row is: a quotient of two numbers of six digits ===== -/
theorem pw_mul (p : Nat) : ∀ k v, v = p ^ (pw p k v).1 * (pw p k v).2
  | 0, v => by simp [pw]
  | k + 1, v => by
    simp only [pw]
    split
    · rename_i hm
      have h := pw_mul p k (v / p)
      have h2 := Nat.div_add_mod v p
      rw [hm, Nat.add_zero] at h2
      have h3 : v = p * (v / p) := h2.symm
      conv => lhs; rw [h3, h]
      rw [Nat.pow_succ, Nat.mul_comm (p ^ _) p, Nat.mul_assoc]
    · simp
theorem rst_mul (v : Nat) : v = prm 0 ^ mlt v 0 * (prm 1 ^ mlt v 1 * (prm 2 ^ mlt v 2 * (prm 3 ^ mlt v 3 * (prm 4 ^ mlt v 4 * (prm 5 ^ mlt v 5 * rst v 6))))) := by
  have h0 := pw_mul (prm 0) 20 (rst v 0)
  have h1 := pw_mul (prm 1) 20 (rst v 1)
  have h2 := pw_mul (prm 2) 20 (rst v 2)
  have h3 := pw_mul (prm 3) 20 (rst v 3)
  have h4 := pw_mul (prm 4) 20 (rst v 4)
  have h5 := pw_mul (prm 5) 20 (rst v 5)
  have e : ∀ k, (pw (prm k) 20 (rst v k)).2 = rst v (k + 1) := fun _ => rfl
  have e' : ∀ k, (pw (prm k) 20 (rst v k)).1 = mlt v k := fun _ => rfl
  rw [e, e'] at h0 h1 h2 h3 h4 h5
  rw [← h5, ← h4, ← h3, ← h2, ← h1, ← h0]
  rfl
def wgt : Nat → Nat := fun k => match k with
  | 0 => 100 | 1 => 158 | 2 => 232 | 3 => 280 | 4 => 345 | _ => 370
/-- products of powers against powers of 2 -/
theorem wgt_le (a0 a1 a2 a3 a4 a5 : Nat) : 2 ^ (100 * a0 + 158 * a1 + 232 * a2 + 280 * a3 + 345 * a4 + 370 * a5) ≤ (2 ^ a0 * (3 ^ a1 * (5 ^ a2 * (7 ^ a3 * (11 ^ a4 * 13 ^ a5))))) ^ 100 := by
  have b1 : (2 : Nat) ^ 158 ≤ 3 ^ 100 := by decide
  have b2 : (2 : Nat) ^ 232 ≤ 5 ^ 100 := by decide
  have b3 : (2 : Nat) ^ 280 ≤ 7 ^ 100 := by decide
  have b4 : (2 : Nat) ^ 345 ≤ 11 ^ 100 := by decide
  have b5 : (2 : Nat) ^ 370 ≤ 13 ^ 100 := by decide
  have e : ∀ (p w a : Nat), 2 ^ w ≤ p ^ 100 → 2 ^ (w * a) ≤ (p ^ a) ^ 100 := by
    intro p w a h
    rw [Nat.pow_mul, ← Nat.pow_mul p a 100, Nat.mul_comm a 100, Nat.pow_mul]
    exact Nat.pow_le_pow_left h a
  rw [Nat.mul_pow, Nat.mul_pow, Nat.mul_pow, Nat.mul_pow, Nat.mul_pow]
  rw [Nat.pow_add, Nat.pow_add, Nat.pow_add, Nat.pow_add, Nat.pow_add]
  rw [Nat.mul_assoc, Nat.mul_assoc, Nat.mul_assoc, Nat.mul_assoc]
  exact Nat.mul_le_mul (e 2 100 a0 (Nat.le_refl _)) (Nat.mul_le_mul (e 3 158 a1 b1) (Nat.mul_le_mul (e 5 232 a2 b2) (Nat.mul_le_mul (e 7 280 a3 b3) (Nat.mul_le_mul (e 11 345 a4 b4) (e 13 370 a5 b5)))))
def mz (v : Nat) : xZ := fun k => (mlt v k : Int)
theorem mz_sz {v : Nat} (hv : v ≤ 999999) (h1 : rst v 6 = 1) : 0 ≤ sz (mz v) ∧ sz (mz v) ≤ 29243015907268149203883755326167580672 := by
  have hm := rst_mul v
  rw [h1, Nat.mul_one] at hm
  have hw := wgt_le (mlt v 0) (mlt v 1) (mlt v 2) (mlt v 3) (mlt v 4) (mlt v 5)
  have hm' : 2 ^ mlt v 0 * (3 ^ mlt v 1 * (5 ^ mlt v 2 * (7 ^ mlt v 3 * (11 ^ mlt v 4 * 13 ^ mlt v 5)))) = v := hm.symm
  rw [hm'] at hw
  have hlt : v ^ 100 < 2 ^ 2000 := by
    have h2 : v < 2 ^ 20 := by
      have : (2 : Nat) ^ 20 = 1048576 := by decide
      omega
    have := Nat.pow_lt_pow_left h2 (show 100 ≠ 0 by decide)
    rwa [← Nat.pow_mul] at this
  have hlt2 := (Nat.pow_lt_pow_iff_right (show 1 < 2 by decide)).mp (Nat.lt_of_le_of_lt hw hlt)
  simp only [sz, mz, LG0, LG1, LG2, LG3, LG4, LG5]
  omega
/-- a row that was read -/
def Rw (x : xZ) : Prop := ∃ v1 v2, v1 ≤ 999999 ∧ v2 ≤ 999999 ∧ rst v1 6 = 1 ∧ rst v2 6 = 1 ∧ ∀ k, k < 6 → x k = (mlt v1 k : Int) - (mlt v2 k : Int)
def Rw1 (x : xZ) : Prop := ∃ v1, v1 ≤ 999999 ∧ rst v1 6 = 1 ∧ ∀ k, k < 6 → x k = (mlt v1 k : Int)
theorem Rw1.rw {x : xZ} (h : Rw1 x) : Rw x := by
  obtain ⟨v1, h1, h2, h3⟩ := h
  refine ⟨v1, 1, h1, by omega, h2, by decide, fun k hk => ?_⟩
  have : mlt 1 k = 0 := by
    rcases (by omega : k = 0 ∨ k = 1 ∨ k = 2 ∨ k = 3 ∨ k = 4 ∨ k = 5) with rfl | rfl | rfl | rfl | rfl | rfl <;> decide
  rw [h3 k hk, this]
  omega
theorem mlt_le (v k : Nat) : mlt v k ≤ 20 := pw_le _ _ _
theorem Rw.bd {x : xZ} (h : Rw x) : ∀ k, k < 6 → -20 ≤ x k ∧ x k ≤ 20 := by
  obtain ⟨v1, v2, -, -, -, -, h3⟩ := h
  intro k hk
  have a := mlt_le v1 k
  have b := mlt_le v2 k
  rw [h3 k hk]
  omega
theorem sz_congr {x y : xZ} (h : ∀ k, k < 6 → x k = y k) : sz x = sz y := by
  simp only [sz, h 0 (by omega), h 1 (by omega), h 2 (by omega), h 3 (by omega), h 4 (by omega), h 5 (by omega)]
theorem Rw.stp {x : xZ} (h : Rw x) : Stp' x := by
  have hb := h.bd
  obtain ⟨v1, v2, h1, h2, r1, r2, h3⟩ := h
  have a := mz_sz h1 r1
  have b := mz_sz h2 r2
  have e : sz x = sz (mz v1) - sz (mz v2) := by
    rw [sz_congr (y := zadd (mz v1) (mz v2) (-1)) (fun k hk => by rw [h3 k hk]; simp only [zadd, mz]; omega), sz_zadd]
    omega
  exact ⟨fun k hk => by have := hb k hk; omega, by omega, by omega⟩
theorem Rw_pval {x : xZ} (h : Rw x) (hn : ∀ k, k < 6 → 0 ≤ x k) : pval x ≤ 999999 := by
  obtain ⟨v1, v2, h1, h2, r1, r2, h3⟩ := h
  have hm := rst_mul v1
  rw [r1, Nat.mul_one] at hm
  have le : ∀ k, k < 6 → (x k).toNat ≤ mlt v1 k := fun k hk => by have := h3 k hk; have := hn k hk; omega
  have p : ∀ (q : Nat) {k : Nat}, 0 < q → k < 6 → q ^ (x k).toNat ≤ q ^ mlt v1 k := fun q k hq hk => Nat.pow_le_pow_right hq (le k hk)
  have hm' : 2 ^ mlt v1 0 * (3 ^ mlt v1 1 * (5 ^ mlt v1 2 * (7 ^ mlt v1 3 * (11 ^ mlt v1 4 * 13 ^ mlt v1 5)))) = v1 := hm.symm
  have : pval x ≤ 2 ^ mlt v1 0 * (3 ^ mlt v1 1 * (5 ^ mlt v1 2 * (7 ^ mlt v1 3 * (11 ^ mlt v1 4 * 13 ^ mlt v1 5)))) := by
    simp only [pval, Nat.mul_assoc]
    exact Nat.mul_le_mul (p 2 (by omega) (by omega)) (Nat.mul_le_mul (p 3 (by omega) (by omega)) (Nat.mul_le_mul (p 5 (by omega) (by omega)) (Nat.mul_le_mul (p 7 (by omega) (by omega)) (Nat.mul_le_mul (p 11 (by omega) (by omega)) (p 13 (by omega) (by omega))))))
  omega
theorem perB_ok {x : xZ} (h : perB x = true) : Per x ∧ ∀ k, k < 6 → 0 ≤ x k := by
  simp only [perB, Bool.and_eq_true, decide_eq_true_eq] at h
  obtain ⟨⟨⟨⟨⟨⟨⟨h0, h1⟩, h2⟩, h3⟩, h4⟩, h5⟩, h6⟩, h7⟩ := h
  have nn : ∀ k, k < 6 → 0 ≤ x k := by
    intro k hk
    rcases (by omega : k = 0 ∨ k = 1 ∨ k = 2 ∨ k = 3 ∨ k = 4 ∨ k = 5) with rfl | rfl | rfl | rfl | rfl | rfl <;> assumption
  have hw := wgt_le (x 0).toNat (x 1).toNat (x 2).toNat (x 3).toNat (x 4).toNat (x 5).toNat
  have e : 2 ^ (x 0).toNat * (3 ^ (x 1).toNat * (5 ^ (x 2).toNat * (7 ^ (x 3).toNat * (11 ^ (x 4).toNat * 13 ^ (x 5).toNat)))) = pval x := by
    simp only [pval, Nat.mul_assoc]
  rw [e] at hw
  have h13 : (13 : Nat) ^ 100 < 2 ^ 371 := by decide
  have hlt := Nat.lt_of_le_of_lt (Nat.le_trans hw (Nat.pow_le_pow_left h7 100)) h13
  have hlt2 := (Nat.pow_lt_pow_iff_right (show 1 < 2 by decide)).mp hlt
  have hpos : 1 ≤ (x 0).toNat ∨ 1 ≤ (x 1).toNat ∨ 1 ≤ (x 2).toNat ∨ 1 ≤ (x 3).toNat ∨ 1 ≤ (x 4).toNat ∨ 1 ≤ (x 5).toNat := by
    rcases Nat.eq_zero_or_pos (x 0).toNat with z0 | z0
    · rcases Nat.eq_zero_or_pos (x 1).toNat with z1 | z1
      · rcases Nat.eq_zero_or_pos (x 2).toNat with z2 | z2
        · rcases Nat.eq_zero_or_pos (x 3).toNat with z3 | z3
          · rcases Nat.eq_zero_or_pos (x 4).toNat with z4 | z4
            · rcases Nat.eq_zero_or_pos (x 5).toNat with z5 | z5
              · simp [pval, z0, z1, z2, z3, z4, z5] at h6
              · omega
            · omega
          · omega
        · omega
      · omega
    · omega
  refine ⟨⟨fun k hk => ?_, ?_, ?_⟩, nn⟩
  · have := nn k hk
    rcases (by omega : k = 0 ∨ k = 1 ∨ k = 2 ∨ k = 3 ∨ k = 4 ∨ k = 5) with rfl | rfl | rfl | rfl | rfl | rfl <;> omega
  · simp only [sz, LG0, LG1, LG2, LG3, LG4, LG5]
    omega
  · simp only [sz, LG0, LG1, LG2, LG3, LG4, LG5]
    omega
