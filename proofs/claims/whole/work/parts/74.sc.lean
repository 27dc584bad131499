/-! ===== the reading of a text, with no fuel in sight ===== -/
def SC (t : Nat → Nat) (n a c st pp : Nat) (pt : Nat → xZ) : (Nat × Nat) ⊕ (Nat × (Nat → xZ)) := Sc t n (n + 1 - a) a c st pp pt
def dig (t : Nat → Nat) (a : Nat) : Prop := 48 ≤ t a ∧ t a ≤ 57
theorem dE_step {t : Nat → Nat} {n a : Nat} (h : a < n) (hd : 48 ≤ t a ∧ t a ≤ 57) : dE t n n a = dE t n n (a + 1) := by
  rw [dE_fuel t n n (n - a - 1 + 1) a (by omega) (by omega)]
  simp only [dE]
  rw [if_pos ⟨h, hd⟩]
  exact dE_fuel t n _ _ _ (by omega) (by omega)
theorem dE_stop {t : Nat → Nat} {n a : Nat} (h : ¬ (a < n ∧ 48 ≤ t a ∧ t a ≤ 57)) : ∀ k, dE t n k a = a
  | 0 => rfl
  | k + 1 => by simp only [dE]; rw [if_neg h]
theorem lE_step {t : Nat → Nat} {n a : Nat} (h : a < n) (hd : t a ≠ 10) : lE t n n a = lE t n n (a + 1) := by
  rw [lE_fuel t n n (n - a - 1 + 1) a (by omega) (by omega)]
  simp only [lE]
  rw [if_pos ⟨h, hd⟩]
  exact lE_fuel t n _ _ _ (by omega) (by omega)
theorem lE_stop {t : Nat → Nat} {n a : Nat} (h : ¬ (a < n ∧ t a ≠ 10)) : ∀ k, lE t n k a = a
  | 0 => rfl
  | k + 1 => by simp only [lE]; rw [if_neg h]
theorem dE_gt {t : Nat → Nat} {n a : Nat} (h : a < n) (hd : 48 ≤ t a ∧ t a ≤ 57) : a + 1 ≤ dE t n n a ∧ dE t n n a ≤ n := by
  rw [dE_step h hd]
  exact dE_le t n n (a + 1) (by omega)
theorem lE_gt {t : Nat → Nat} {n a : Nat} (h : a < n) (hd : t a ≠ 10) : a + 1 ≤ lE t n n a ∧ lE t n n a ≤ n := by
  rw [lE_step h hd]
  exact lE_le t n n (a + 1) (by omega)
theorem Sc_fuel (t : Nat → Nat) (n : Nat) : ∀ k k' a c st pp pt, a ≤ n → n < k + a → n < k' + a → Sc t n k a c st pp pt = Sc t n k' a c st pp pt
  | 0, _, a, _, _, _, _, h, h1, _ => absurd h1 (by omega)
  | _ + 1, 0, a, _, _, _, _, h, _, h1 => absurd h1 (by omega)
  | k + 1, k' + 1, a, c, st, pp, pt, h, h1, h2 => by
    simp only [Sc]
    by_cases e : n ≤ a
    · rw [if_pos e, if_pos e]
    · rw [if_neg e, if_neg e]
      by_cases ed : 48 ≤ t a ∧ t a ≤ 57
      · have hg := dE_gt (n := n) (by omega) ed
        rw [if_pos ed, if_pos ed]
        rw [Sc_fuel t n k k' (dE t n n a) c 3 pp _ hg.2 (by omega) (by omega), Sc_fuel t n k k' (dE t n n a) (c + 1) 1 a _ hg.2 (by omega) (by omega)]
      · rw [if_neg ed, if_neg ed]
        have hs1 := Sc_fuel t n k k' (a + 1) c 2 pp pt (by omega) (by omega) (by omega)
        have hs2 := Sc_fuel t n k k' (a + 1) c st pp pt (by omega) (by omega) (by omega)
        rw [hs1, hs2]
        by_cases e35 : t a = 35
        · have hg := lE_gt (t := t) (n := n) (a := a) (by omega) (by omega)
          rw [Sc_fuel t n k k' (lE t n n a) c st pp pt hg.2 (by omega) (by omega)]
        · rw [if_neg e35, if_neg e35]
theorem SC_end (t : Nat → Nat) (n c st pp : Nat) (pt : Nat → xZ) : SC t n n c st pp pt = if st ≠ 1 ∧ st ≠ 3 then .inl (2, n) else if perB (pt (c - 1)) = true then .inr (c, pt) else .inl (5, pp) := by
  unfold SC
  rw [show n + 1 - n = 0 + 1 by omega]
  simp only [Sc]
  rw [if_pos (Nat.le_refl n)]
theorem SC_u {t : Nat → Nat} {n a c st pp : Nat} {pt : Nat → xZ} (h : a < n) : SC t n a c st pp pt = Sc t n (n - a + 1) a c st pp pt := by
  unfold SC
  rw [show n + 1 - a = n - a + 1 by omega]
theorem SC_f {t : Nat → Nat} {n a b c st pp : Nat} {pt : Nat → xZ} (h : a < b) (hb : b ≤ n) : Sc t n (n - a) b c st pp pt = SC t n b c st pp pt :=
  Sc_fuel t n _ _ b c st pp pt hb (by omega) (by omega)
theorem SC_blank {t : Nat → Nat} {n a c st pp : Nat} {pt : Nat → xZ} (h : a < n) (hd : t a = 10 ∨ t a = 32) : SC t n a c st pp pt = SC t n (a + 1) c st pp pt := by
  rw [SC_u h]
  simp only [Sc]
  rw [if_neg (by omega), if_neg (by omega), if_neg (by omega), if_neg (by omega), if_pos hd]
  exact SC_f (by omega) (by omega)
theorem SC_hash {t : Nat → Nat} {n a c st pp : Nat} {pt : Nat → xZ} (h : a < n) (hd : t a = 35) : SC t n a c st pp pt = SC t n (lE t n n a) c st pp pt := by
  have hg := lE_gt (t := t) (n := n) (a := a) h (by omega)
  rw [SC_u h]
  simp only [Sc]
  rw [if_neg (by omega), if_neg (by omega), if_neg (by omega), if_pos hd]
  exact SC_f (by omega) (by omega)
theorem SC_slash {t : Nat → Nat} {n a c st pp : Nat} {pt : Nat → xZ} (h : a < n) (hd : t a = 47) : SC t n a c st pp pt = if st = 1 then SC t n (a + 1) c 2 pp pt else .inl (2, a) := by
  rw [SC_u h]
  simp only [Sc]
  rw [if_neg (by omega), if_neg (by omega), if_pos hd, SC_f (by omega) (by omega)]
theorem SC_num {t : Nat → Nat} {n a c st pp : Nat} {pt : Nat → xZ} (h : a < n) (hd : 48 ≤ t a ∧ t a ≤ 57) : SC t n a c st pp pt = (if 6 < dE t n n a - a then .inl (1, a)
       else if st = 2 then (if rst (dV t a (dE t n n a - a)) 6 ≠ 1 then .inl (3, a) else SC t n (dE t n n a) c 3 pp (mulP pt (c - 1) (dV t a (dE t n n a - a)) (-1)))
       else if 24 ≤ c then .inl (4, a)
       else if rst (dV t a (dE t n n a - a)) 6 ≠ 1 then .inl (3, a) else SC t n (dE t n n a) (c + 1) 1 a (mulP (zrow pt c) c (dV t a (dE t n n a - a)) 1)) := by
  have hg := dE_gt (n := n) h hd
  rw [SC_u h]
  simp only [Sc]
  rw [if_neg (by omega), if_pos hd, SC_f (by omega) hg.2, SC_f (by omega) hg.2]
theorem SC_bad {t : Nat → Nat} {n a c st pp : Nat} {pt : Nat → xZ} (h : a < n) (h1 : ¬ (48 ≤ t a ∧ t a ≤ 57)) (h2 : t a ≠ 47) (h3 : t a ≠ 35) (h4 : ¬ (t a = 10 ∨ t a = 32)) : SC t n a c st pp pt = .inl (1, a) := by
  rw [SC_u h]
  simp only [Sc]
  rw [if_neg (by omega), if_neg h1, if_neg h2, if_neg h3, if_neg h4]
theorem SC_RD (t : Nat → Nat) (n : Nat) : RD t n = SC t n 0 0 0 0 (fun _ _ => 0) := rfl
/-- which states of the reading are alike -/
theorem SC_13 {t : Nat → Nat} {n a c pp : Nat} {pt : Nat → xZ} (h : a ≤ n) (h2 : a < n → t a ≠ 35 ∧ ¬ (t a = 10 ∨ t a = 32) ∧ t a ≠ 47) : SC t n a c 1 pp pt = SC t n a c 3 pp pt := by
  by_cases e : a = n
  · subst e
    rw [SC_end, SC_end, if_neg (show ¬ ((1 : Nat) ≠ 1 ∧ (1 : Nat) ≠ 3) by omega), if_neg (show ¬ ((3 : Nat) ≠ 1 ∧ (3 : Nat) ≠ 3) by omega)]
  · have h3 := h2 (by omega)
    by_cases ed : 48 ≤ t a ∧ t a ≤ 57
    · rw [SC_num (by omega) ed, SC_num (by omega) ed, if_neg (show ¬ (1 = 2) by omega), if_neg (show ¬ (3 = 2) by omega)]
    · rw [SC_bad (by omega) ed h3.2.2 h3.1 h3.2.1, SC_bad (by omega) ed h3.2.2 h3.1 h3.2.1]
