/-! ===== the logarithms' bounds, by squaring; the sign of a product of powers ===== -/
def lbS (s : Nat × Nat × Nat) : Nat × Nat × Nat := (s.1 * s.1 / 2 ^ (Nat.log2 (s.1 * s.1) - 300), (s.2.1 * s.2.1 + (2 ^ (Nat.log2 (s.1 * s.1) - 300) - 1)) / 2 ^ (Nat.log2 (s.1 * s.1) - 300), 2 * s.2.2 + (Nat.log2 (s.1 * s.1) - 300))
def lbI : Nat → Nat × Nat × Nat → Nat × Nat × Nat
  | 0, s => s
  | n + 1, s => lbI n (lbS s)
def lbP (v : Nat) (s : Nat × Nat × Nat) : Prop := s.1 * 2 ^ s.2.2 ≤ v ∧ v ≤ s.2.1 * 2 ^ s.2.2
theorem lbP_S {v : Nat} {s : Nat × Nat × Nat} (h : lbP v s) : lbP (v * v) (lbS s) := by
  obtain ⟨a, b, t⟩ := s
  obtain ⟨h1, h2⟩ := h
  have h1 : a * 2 ^ t ≤ v := h1
  have h2 : v ≤ b * 2 ^ t := h2
  unfold lbS
  generalize hr : Nat.log2 (a * a) - 300 = r
  show a * a / 2 ^ r * 2 ^ (2 * t + r) ≤ v * v ∧ v * v ≤ ((b * b + (2 ^ r - 1)) / 2 ^ r) * 2 ^ (2 * t + r)
  have e : 2 ^ (2 * t + r) = 2 ^ r * (2 ^ t * 2 ^ t) := by rw [Nat.pow_add, Nat.two_mul, Nat.pow_add, Nat.mul_comm]
  rw [e]
  constructor
  · calc a * a / 2 ^ r * (2 ^ r * (2 ^ t * 2 ^ t)) = (a * a / 2 ^ r * 2 ^ r) * (2 ^ t * 2 ^ t) := by rw [Nat.mul_assoc]
      _ ≤ (a * a) * (2 ^ t * 2 ^ t) := Nat.mul_le_mul_right _ (Nat.div_mul_le_self _ _)
      _ = (a * 2 ^ t) * (a * 2 ^ t) := Nat.mul_mul_mul_comm a a (2 ^ t) (2 ^ t)
      _ ≤ v * v := Nat.mul_le_mul h1 h1
  · have hd : b * b ≤ ((b * b + (2 ^ r - 1)) / 2 ^ r) * 2 ^ r := by
      have h4 := Nat.two_pow_pos r
      have h0 := Nat.div_add_mod (b * b + (2 ^ r - 1)) (2 ^ r)
      have h3 := Nat.mod_lt (b * b + (2 ^ r - 1)) h4
      rw [Nat.mul_comm ((b * b + (2 ^ r - 1)) / 2 ^ r)]
      omega
    calc v * v ≤ (b * 2 ^ t) * (b * 2 ^ t) := Nat.mul_le_mul h2 h2
      _ = (b * b) * (2 ^ t * 2 ^ t) := (Nat.mul_mul_mul_comm b b (2 ^ t) (2 ^ t)).symm
      _ ≤ (((b * b + (2 ^ r - 1)) / 2 ^ r) * 2 ^ r) * (2 ^ t * 2 ^ t) := Nat.mul_le_mul_right _ hd
      _ = ((b * b + (2 ^ r - 1)) / 2 ^ r) * (2 ^ r * (2 ^ t * 2 ^ t)) := by rw [Nat.mul_assoc]
def lbQ (v : Nat) : Nat → Nat
  | 0 => v
  | n + 1 => lbQ (v * v) n
theorem lbP_I : ∀ (n v : Nat) (s : Nat × Nat × Nat), lbP v s → lbP (lbQ v n) (lbI n s)
  | 0, _, _, h => h
  | n + 1, v, s, h => lbP_I n (v * v) (lbS s) (lbP_S h)
theorem lbQ_e : ∀ (n v : Nat), lbQ v n = v ^ 2 ^ n
  | 0, v => by simp [lbQ]
  | n + 1, v => by
    show lbQ (v * v) n = _
    rw [lbQ_e n (v * v), ← Nat.pow_two, ← Nat.pow_mul, ← Nat.pow_succ', Nat.succ_eq_add_one]
def lbC (p l : Nat) : Bool := decide ((lbI 120 (p, p, 0)).2.2 ≤ l) && decide (2 ^ (l - (lbI 120 (p, p, 0)).2.2) ≤ (lbI 120 (p, p, 0)).1) && decide ((lbI 120 (p, p, 0)).2.1 ≤ 2 ^ (l + 1 - (lbI 120 (p, p, 0)).2.2))
theorem lbC_ok {p l n : Nat} {s : Nat × Nat × Nat} (hs : lbP (p ^ n) s) (h1 : s.2.2 ≤ l) (h2 : 2 ^ (l - s.2.2) ≤ s.1) (h3 : s.2.1 ≤ 2 ^ (l + 1 - s.2.2)) : 2 ^ l ≤ p ^ n ∧ p ^ n ≤ 2 ^ (l + 1) := by
  obtain ⟨a, b, t⟩ := s
  obtain ⟨g1, g2⟩ := hs
  have g1 : a * 2 ^ t ≤ p ^ n := g1
  have g2 : p ^ n ≤ b * 2 ^ t := g2
  have h1 : t ≤ l := h1
  have h2 : 2 ^ (l - t) ≤ a := h2
  have h3 : b ≤ 2 ^ (l + 1 - t) := h3
  constructor
  · calc 2 ^ l = 2 ^ (l - t) * 2 ^ t := by rw [← Nat.pow_add, Nat.sub_add_cancel h1]
      _ ≤ a * 2 ^ t := Nat.mul_le_mul_right _ h2
      _ ≤ p ^ n := g1
  · calc p ^ n ≤ b * 2 ^ t := g2
      _ ≤ 2 ^ (l + 1 - t) * 2 ^ t := Nat.mul_le_mul_right _ h3
      _ = 2 ^ (l + 1) := by rw [← Nat.pow_add, Nat.sub_add_cancel (by omega)]
theorem lb_of {p l : Nat} (h : lbC p l = true) : 2 ^ l ≤ p ^ 2 ^ 120 ∧ p ^ 2 ^ 120 ≤ 2 ^ (l + 1) := by
  have hs : lbP (lbQ p 120) (lbI 120 (p, p, 0)) := lbP_I 120 p (p, p, 0) ⟨by simp, by simp⟩
  rw [lbQ_e] at hs
  unfold lbC at h
  rw [Bool.and_eq_true, Bool.and_eq_true, decide_eq_true_eq, decide_eq_true_eq, decide_eq_true_eq] at h
  generalize lbI 120 (p, p, 0) = s at hs h
  exact lbC_ok hs h.1.1 h.1.2 h.2
theorem lb3 : lbC 3 2106776528227830709928956833162496941 = true := by decide +kernel
theorem lb5 : lbC 5 3086371827923816621916544979950813037 = true := by decide +kernel
theorem lb7 : lbC 7 3731614756503547821436497015887619496 = true := by decide +kernel
theorem lb11 : lbC 11 4598373356996222052770605011930797270 = true := by decide +kernel
theorem lb13 : lbC 13 4918728070067582930967106804316210001 = true := by decide +kernel
theorem lb2 : lbC 2 1329227995784915872903807060280344576 = true := by decide +kernel
def LN : Nat → Nat := fun k => (LG k).toNat
theorem LN_e {k : Nat} (hk : k < 6) : (LN k : Int) = LG k := by
  have := (logs_ok hk).2.2.2.2.2.1
  unfold LN
  omega
theorem lgb : ∃ N : Nat, 0 < N ∧ ∀ k, k < 6 → 2 ^ LN k ≤ prm k ^ N ∧ prm k ^ N ≤ 2 ^ (LN k + 1) := by
  refine ⟨2 ^ 120, Nat.two_pow_pos _, fun k hk => ?_⟩
  have e0 : LN 0 = 1329227995784915872903807060280344576 := by unfold LN; rw [LG0]; rfl
  have e1 : LN 1 = 2106776528227830709928956833162496941 := by unfold LN; rw [LG1]; rfl
  have e2 : LN 2 = 3086371827923816621916544979950813037 := by unfold LN; rw [LG2]; rfl
  have e3 : LN 3 = 3731614756503547821436497015887619496 := by unfold LN; rw [LG3]; rfl
  have e4 : LN 4 = 4598373356996222052770605011930797270 := by unfold LN; rw [LG4]; rfl
  have e5 : LN 5 = 4918728070067582930967106804316210001 := by unfold LN; rw [LG5]; rfl
  rcases (by omega : k = 0 ∨ k = 1 ∨ k = 2 ∨ k = 3 ∨ k = 4 ∨ k = 5) with rfl | rfl | rfl | rfl | rfl | rfl
  · rw [e0]; exact lb_of lb2
  · rw [e1]; exact lb_of lb3
  · rw [e2]; exact lb_of lb5
  · rw [e3]; exact lb_of lb7
  · rw [e4]; exact lb_of lb11
  · rw [e5]; exact lb_of lb13
/-- the product of the primes' powers with exponents above 0, k primes of them -/
def pA (e : xZ) : Nat → Nat
  | 0 => 1
  | k + 1 => pA e k * prm k ^ (e k).toNat
def sL (e : xZ) : Nat → Nat
  | 0 => 0
  | k + 1 => sL e k + (e k).toNat * LN k
def sU (e : xZ) : Nat → Nat
  | 0 => 0
  | k + 1 => sU e k + (e k).toNat
def zneg (e : xZ) : xZ := fun k => -(e k)
theorem pA_lo {N : Nat} (h : ∀ k, k < 6 → 2 ^ LN k ≤ prm k ^ N ∧ prm k ^ N ≤ 2 ^ (LN k + 1)) (e : xZ) : ∀ k, k ≤ 6 → 2 ^ sL e k ≤ pA e k ^ N ∧ pA e k ^ N ≤ 2 ^ (sL e k + sU e k)
  | 0, _ => by simp [sL, sU, pA]
  | k + 1, hk => by
    obtain ⟨h1, h2⟩ := pA_lo h e k (by omega)
    obtain ⟨g1, g2⟩ := h k (by omega)
    show 2 ^ (sL e k + (e k).toNat * LN k) ≤ (pA e k * prm k ^ (e k).toNat) ^ N ∧ (pA e k * prm k ^ (e k).toNat) ^ N ≤ 2 ^ (sL e k + (e k).toNat * LN k + (sU e k + (e k).toNat))
    have e1 : (pA e k * prm k ^ (e k).toNat) ^ N = pA e k ^ N * (prm k ^ N) ^ (e k).toNat := by rw [Nat.mul_pow, ← Nat.pow_mul, ← Nat.pow_mul, Nat.mul_comm N]
    rw [e1]
    constructor
    · rw [Nat.pow_add, Nat.mul_comm (e k).toNat, Nat.pow_mul]
      exact Nat.mul_le_mul h1 (Nat.pow_le_pow_left g1 _)
    · have e2 : 2 ^ (sL e k + (e k).toNat * LN k + (sU e k + (e k).toNat)) = 2 ^ (sL e k + sU e k) * (2 ^ (LN k + 1)) ^ (e k).toNat := by
        rw [← Nat.pow_mul, ← Nat.pow_add]
        congr 1
        rw [Nat.add_mul, Nat.mul_comm (LN k)]
        omega
      rw [e2]
      exact Nat.mul_le_mul h2 (Nat.pow_le_pow_left g2 _)
theorem sL_sz (e : xZ) : (sL e 6 : Int) - (sL (zneg e) 6 : Int) = sz e := by
  have h : ∀ k, k < 6 → (((e k).toNat * LN k : Nat) : Int) - (((zneg e k).toNat * LN k : Nat) : Int) = e k * LG k := by
    intro k hk
    rw [Int.natCast_mul, Int.natCast_mul, LN_e hk, ← Int.sub_mul]
    congr 1
    simp only [zneg]
    omega
  have h0 := h 0 (by omega)
  have h1 := h 1 (by omega)
  have h2 := h 2 (by omega)
  have h3 := h 3 (by omega)
  have h4 := h 4 (by omega)
  have h5 := h 5 (by omega)
  simp only [sL, sz]
  omega
theorem sU_le {e : xZ} (h : bd e 80000) : sU e 6 + sU (zneg e) 6 ≤ 480000 := by
  have h0 := h 0 (by omega)
  have h1 := h 1 (by omega)
  have h2 := h 2 (by omega)
  have h3 := h 3 (by omega)
  have h4 := h 4 (by omega)
  have h5 := h 5 (by omega)
  simp only [sU, zneg]
  omega
theorem zneg2 (e : xZ) : zneg (zneg e) = e := by funext k; simp [zneg]
theorem sz_zneg (e : xZ) : sz (zneg e) = -(sz e) := by simp only [sz, zneg, Int.neg_mul]; omega
theorem bd_zneg {e : xZ} {B : Int} (h : bd e B) : bd (zneg e) B := fun k hk => by have := h k hk; simp only [zneg]; omega
theorem lat0 {e : xZ} (h : bd e 80000) (hs : -480000 ≤ sz e ∧ sz e ≤ 480000) : ∀ k, k < 6 → e k = 0 := by
  simp only [sz, LG0, LG1, LG2, LG3, LG4, LG5] at hs
  obtain ⟨h0, h1, h2, h3, h4, h5⟩ := lat (h 0 (by omega)) (h 1 (by omega)) (h 2 (by omega)) (h 3 (by omega)) (h 4 (by omega)) (h 5 (by omega)) hs
  intro k hk
  rcases (by omega : k = 0 ∨ k = 1 ∨ k = 2 ∨ k = 3 ∨ k = 4 ∨ k = 5) with rfl | rfl | rfl | rfl | rfl | rfl
  · exact h0
  · exact h1
  · exact h2
  · exact h3
  · exact h4
  · exact h5
theorem sgn_pos {e : xZ} (h : bd e 80000) (hs : 0 < sz e) : pA (zneg e) 6 < pA e 6 := by
  have hbig : 480000 < sz e := by
    rcases Int.lt_or_le 480000 (sz e) with q | q
    · exact q
    · have z := lat0 h ⟨by omega, q⟩
      have : sz e = 0 := by simp only [sz, z 0 (by omega), z 1 (by omega), z 2 (by omega), z 3 (by omega), z 4 (by omega), z 5 (by omega)]; simp
      omega
  obtain ⟨N, hN, hb⟩ := lgb
  have g1 := (pA_lo hb e 6 (by omega)).1
  have g2 := (pA_lo hb (zneg e) 6 (by omega)).2
  have hd := sL_sz e
  have hu := sU_le h
  have hlt : sL (zneg e) 6 + sU (zneg e) 6 < sL e 6 := by omega
  have hp : pA (zneg e) 6 ^ N < pA e 6 ^ N := Nat.lt_of_le_of_lt g2 (Nat.lt_of_lt_of_le (Nat.pow_lt_pow_right (by omega) hlt) g1)
  rcases Nat.lt_or_ge (pA (zneg e) 6) (pA e 6) with q | q
  · exact q
  · have := Nat.pow_le_pow_left q N
    omega
theorem sgn_neg {e : xZ} (h : bd e 80000) (hs : sz e < 0) : pA e 6 < pA (zneg e) 6 := by
  have := sgn_pos (bd_zneg h) (by rw [sz_zneg]; omega)
  rw [zneg2] at this
  exact this
theorem sgn_zero {e : xZ} (h : bd e 80000) (hs : sz e = 0) : ∀ k, k < 6 → e k = 0 := lat0 h (by omega)
