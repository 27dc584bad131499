/-! ===== Scale: its cells changed one by one ===== -/
section SCW
variable {f f' : xH} {w n : Nat} {ps : Nat → Nat} {xs rs : Nat → xZ} {tk so : Nat → Int32} {P : xZ}
theorem ScW.tk' (h : ScW f w n ps xs rs tk so P) (t2 : Nat → Int32) : ScW (xu f (w + 7) (xI 24 t2)) w n ps xs rs t2 so P := by
  obtain ⟨h1, ⟨st, h2, h2'⟩, ⟨rd, h3, h3'⟩, h4, h5, h6, h7, h8, h9, h10, ⟨lk, h11⟩, sm, h12⟩ := h
  refine ⟨by rw [xu_n (by omega)]; exact h1, ⟨st, by rw [xu_n (by omega)]; exact h2, h2'⟩, ⟨rd, by rw [xu_n (by omega)]; exact h3, h3'⟩, xu_s _ _ _, by rw [xu_n (by omega)]; exact h5, h6, h7, fun i hi => ?_, fun i hi => (h9 i hi).kept (xu_n (by omega)) (xu_n (by omega)), h10.kept (xu_n (by omega)) (xu_n (by omega)), ⟨lk, h11.kept (xu_n (by omega)) (xu_n (by omega))⟩, sm, h12.kept (xu_n (by omega)) (xu_n (by omega))⟩
  obtain ⟨j, hj, e⟩ := h6 i hi
  exact (h8 i hi).kept (xu_n (by omega)) (xu_n (by omega))
theorem ScW.so' (h : ScW f w n ps xs rs tk so P) (t2 : Nat → Int32) : ScW (xu f (w + 8) (xI 24 t2)) w n ps xs rs tk t2 P := by
  obtain ⟨h1, ⟨st, h2, h2'⟩, ⟨rd, h3, h3'⟩, h4, h5, h6, h7, h8, h9, h10, ⟨lk, h11⟩, sm, h12⟩ := h
  refine ⟨by rw [xu_n (by omega)]; exact h1, ⟨st, by rw [xu_n (by omega)]; exact h2, h2'⟩, ⟨rd, by rw [xu_n (by omega)]; exact h3, h3'⟩, by rw [xu_n (by omega)]; exact h4, xu_s _ _ _, h6, h7, fun i hi => ?_, fun i hi => (h9 i hi).kept (xu_n (by omega)) (xu_n (by omega)), h10.kept (xu_n (by omega)) (xu_n (by omega)), ⟨lk, h11.kept (xu_n (by omega)) (xu_n (by omega))⟩, sm, h12.kept (xu_n (by omega)) (xu_n (by omega))⟩
  obtain ⟨j, hj, e⟩ := h6 i hi
  exact (h8 i hi).kept (xu_n (by omega)) (xu_n (by omega))
theorem ScW.cnt' (h : ScW f w n ps xs rs tk so P) (n2 : Nat) : ScW (xu f (w + 4) (xSc w n2)) w n2 ps xs rs tk so P := by
  obtain ⟨h1, ⟨st, h2, h2'⟩, ⟨rd, h3, h3'⟩, h4, h5, h6, h7, h8, h9, h10, ⟨lk, h11⟩, sm, h12⟩ := h
  refine ⟨xu_s _ _ _, ⟨st, by rw [xu_n (by omega)]; exact h2, h2'⟩, ⟨rd, by rw [xu_n (by omega)]; exact h3, h3'⟩, by rw [xu_n (by omega)]; exact h4, by rw [xu_n (by omega)]; exact h5, h6, h7, fun i hi => ?_, fun i hi => (h9 i hi).kept (xu_n (by omega)) (xu_n (by omega)), h10.kept (xu_n (by omega)) (xu_n (by omega)), ⟨lk, h11.kept (xu_n (by omega)) (xu_n (by omega))⟩, sm, h12.kept (xu_n (by omega)) (xu_n (by omega))⟩
  obtain ⟨j, hj, e⟩ := h6 i hi
  exact (h8 i hi).kept (xu_n (by omega)) (xu_n (by omega))
theorem ScW.red' (h : ScW f w n ps xs rs tk so P) {i : Nat} {x : xZ} (hi : i < 24) (k : ∀ q, q ≠ w + 17 + 4 * i → q ≠ w + 18 + 4 * i → f' q = f q) (hx : Nt f' (w + 17 + 4 * i) (w + 18 + 4 * i) x) : ScW f' w n ps xs (va_up rs i x) tk so P := by
  obtain ⟨h1, ⟨st, h2, h2'⟩, ⟨rd, h3, h3'⟩, h4, h5, h6, h7, h8, h9, h10, ⟨lk, h11⟩, sm, h12⟩ := h
  refine ⟨by rw [k _ (by omega) (by omega)]; exact h1, ⟨st, by rw [k _ (by omega) (by omega)]; exact h2, h2'⟩, ⟨rd, by rw [k _ (by omega) (by omega)]; exact h3, h3'⟩, by rw [k _ (by omega) (by omega)]; exact h4, by rw [k _ (by omega) (by omega)]; exact h5, h6, h7, fun j hj => ?_, fun j hj => ?_, h10.kept (k _ (by omega) (by omega)) (k _ (by omega) (by omega)), ⟨lk, h11.kept (k _ (by omega) (by omega)) (k _ (by omega) (by omega))⟩, sm, h12.kept (k _ (by omega) (by omega)) (k _ (by omega) (by omega))⟩
  · obtain ⟨j', hj', e⟩ := h6 j hj
    exact (h8 j hj).kept (k _ (by omega) (by omega)) (k _ (by omega) (by omega))
  · by_cases hji : j = i
    · rw [hji]; simp only [va_up, if_true]; exact hx
    · simp only [va_up, if_neg hji]
      exact (h9 j hj).kept (k _ (by omega) (by omega)) (k _ (by omega) (by omega))
theorem ScW.stp' (h : ScW f w n ps xs rs tk so P) {i : Nat} {x : xZ} (hi : i < 24) (k : ∀ q, q ≠ ps i → q ≠ ps i + 1 → f' q = f q) (hx : Nt f' (ps i) (ps i + 1) x) : ScW f' w n ps (va_up xs i x) rs tk so P := by
  obtain ⟨h1, ⟨st, h2, h2'⟩, ⟨rd, h3, h3'⟩, h4, h5, h6, h7, h8, h9, h10, ⟨lk, h11⟩, sm, h12⟩ := h
  obtain ⟨ji, hji, ei⟩ := h6 i hi
  refine ⟨by rw [k _ (by omega) (by omega)]; exact h1, ⟨st, by rw [k _ (by omega) (by omega)]; exact h2, h2'⟩, ⟨rd, by rw [k _ (by omega) (by omega)]; exact h3, h3'⟩, by rw [k _ (by omega) (by omega)]; exact h4, by rw [k _ (by omega) (by omega)]; exact h5, h6, h7, fun j hj => ?_, fun j hj => (h9 j hj).kept (k _ (by omega) (by omega)) (k _ (by omega) (by omega)), h10.kept (k _ (by omega) (by omega)) (k _ (by omega) (by omega)), ⟨lk, h11.kept (k _ (by omega) (by omega)) (k _ (by omega) (by omega))⟩, sm, h12.kept (k _ (by omega) (by omega)) (k _ (by omega) (by omega))⟩
  by_cases hji : j = i
  · rw [hji]; simp only [va_up, if_true]; exact hx
  · obtain ⟨j', hj', e⟩ := h6 j hj
    have hne : ps j ≠ ps i := fun q => hji (h7 j i hj hi q)
    simp only [va_up, if_neg hji]
    exact (h8 j hj).kept (k _ (by omega) (by omega)) (k _ (by omega) (by omega))
theorem ScW.per' (h : ScW f w n ps xs rs tk so P) {x : xZ} (k : ∀ q, q ≠ w + 9 → q ≠ w + 10 → f' q = f q) (hx : Nt f' (w + 9) (w + 10) x) : ScW f' w n ps xs rs tk so x := by
  obtain ⟨h1, ⟨st, h2, h2'⟩, ⟨rd, h3, h3'⟩, h4, h5, h6, h7, h8, h9, h10, ⟨lk, h11⟩, sm, h12⟩ := h
  refine ⟨by rw [k _ (by omega) (by omega)]; exact h1, ⟨st, by rw [k _ (by omega) (by omega)]; exact h2, h2'⟩, ⟨rd, by rw [k _ (by omega) (by omega)]; exact h3, h3'⟩, by rw [k _ (by omega) (by omega)]; exact h4, by rw [k _ (by omega) (by omega)]; exact h5, h6, h7, fun j hj => ?_, fun j hj => (h9 j hj).kept (k _ (by omega) (by omega)) (k _ (by omega) (by omega)), hx, ⟨lk, h11.kept (k _ (by omega) (by omega)) (k _ (by omega) (by omega))⟩, sm, h12.kept (k _ (by omega) (by omega)) (k _ (by omega) (by omega))⟩
  obtain ⟨j', hj', e⟩ := h6 j hj
  exact (h8 j hj).kept (k _ (by omega) (by omega)) (k _ (by omega) (by omega))
theorem ScW.lnk' (h : ScW f w n ps xs rs tk so P) {x : xZ} (k : ∀ q, q ≠ w + 11 → q ≠ w + 12 → f' q = f q) (hx : Nt f' (w + 11) (w + 12) x) : ScW f' w n ps xs rs tk so P := by
  obtain ⟨h1, ⟨st, h2, h2'⟩, ⟨rd, h3, h3'⟩, h4, h5, h6, h7, h8, h9, h10, ⟨lk, h11⟩, sm, h12⟩ := h
  refine ⟨by rw [k _ (by omega) (by omega)]; exact h1, ⟨st, by rw [k _ (by omega) (by omega)]; exact h2, h2'⟩, ⟨rd, by rw [k _ (by omega) (by omega)]; exact h3, h3'⟩, by rw [k _ (by omega) (by omega)]; exact h4, by rw [k _ (by omega) (by omega)]; exact h5, h6, h7, fun j hj => ?_, fun j hj => (h9 j hj).kept (k _ (by omega) (by omega)) (k _ (by omega) (by omega)), h10.kept (k _ (by omega) (by omega)) (k _ (by omega) (by omega)), ⟨x, hx⟩, sm, h12.kept (k _ (by omega) (by omega)) (k _ (by omega) (by omega))⟩
  obtain ⟨j', hj', e⟩ := h6 j hj
  exact (h8 j hj).kept (k _ (by omega) (by omega)) (k _ (by omega) (by omega))
theorem ScW.sum' (h : ScW f w n ps xs rs tk so P) {x : xZ} (k : ∀ q, q ≠ w + 13 → q ≠ w + 14 → f' q = f q) (hx : Nt f' (w + 13) (w + 14) x) : ScW f' w n ps xs rs tk so P := by
  obtain ⟨h1, ⟨st, h2, h2'⟩, ⟨rd, h3, h3'⟩, h4, h5, h6, h7, h8, h9, h10, ⟨lk, h11⟩, sm, h12⟩ := h
  refine ⟨by rw [k _ (by omega) (by omega)]; exact h1, ⟨st, by rw [k _ (by omega) (by omega)]; exact h2, h2'⟩, ⟨rd, by rw [k _ (by omega) (by omega)]; exact h3, h3'⟩, by rw [k _ (by omega) (by omega)]; exact h4, by rw [k _ (by omega) (by omega)]; exact h5, h6, h7, fun j hj => ?_, fun j hj => (h9 j hj).kept (k _ (by omega) (by omega)) (k _ (by omega) (by omega)), h10.kept (k _ (by omega) (by omega)) (k _ (by omega) (by omega)), ⟨lk, h11.kept (k _ (by omega) (by omega)) (k _ (by omega) (by omega))⟩, x, hx⟩
  obtain ⟨j', hj', e⟩ := h6 j hj
  exact (h8 j hj).kept (k _ (by omega) (by omega)) (k _ (by omega) (by omega))
end SCW
/-! ===== sorted by a key, equal ones by their numbers ===== -/
def Srt (s : Nat → Nat) (k : Nat) (ky : Nat → Int) : Prop := (∀ i, i < k → s i < k) ∧ ∀ i j, i < j → j < k → ky (s i) < ky (s j) ∨ (ky (s i) = ky (s j) ∧ s i < s j)
theorem Srt.le {s : Nat → Nat} {k : Nat} {ky : Nat → Int} (h : Srt s k ky) {i j : Nat} (hij : i ≤ j) (hj : j < k) : ky (s i) ≤ ky (s j) := by
  by_cases e : i = j
  · rw [e]; omega
  · rcases h.2 i j (by omega) hj with q | q <;> omega
theorem Srt_ins {s : Nat → Nat} {k : Nat} {ky : Nat → Int} (h : Srt s k ky) (hk : s k = k) {i : Nat} (hi : i ≤ k) (h1 : i = 0 ∨ ky (s (i - 1)) ≤ ky k) (h2 : ∀ j, i ≤ j → j < k → ky k < ky (s j)) : Srt (ins s k i) (k + 1) ky := by
  constructor
  · intro j hj
    unfold ins
    by_cases e1 : j < i
    · rw [if_pos e1]; have := h.1 j (by omega); omega
    · rw [if_neg e1]
      by_cases e2 : j = i
      · rw [if_pos e2, hk]; omega
      · rw [if_neg e2, if_pos (by omega)]
        have := h.1 (j - 1) (by omega); omega
  · intro a b hab hb
    rcases Nat.lt_trichotomy b i with e | e | e
    · rw [ins_lt s (by omega), ins_lt s e]
      exact h.2 a b hab (by omega)
    · rw [e, ins_at, ins_lt s (by omega), hk]
      have hle := h.le (i := a) (j := i - 1) (by omega) (by omega)
      have hlt := h.1 a (by omega)
      rcases h1 with q | q
      · omega
      · omega
    · rw [ins_gt s e (by omega)]
      rcases Nat.lt_trichotomy a i with d | d | d
      · rw [ins_lt s d]
        exact h.2 a (b - 1) (by omega) (by omega)
      · rw [d, ins_at, hk]
        exact Or.inl (h2 (b - 1) (by omega) (by omega))
      · rw [ins_gt s d (by omega)]
        exact h.2 (a - 1) (b - 1) (by omega) (by omega)
theorem Srt.ext {s s' : Nat → Nat} {k : Nat} {ky ky' : Nat → Int} (h : Srt s k ky) (h1 : ∀ i, i < k → s' i = s i) (h2 : ∀ i, i < k → ky' i = ky i) : Srt s' k ky' := by
  refine ⟨fun i hi => by rw [h1 i hi]; exact h.1 i hi, fun i j hij hj => ?_⟩
  rw [h1 i (by omega), h1 j hj, h2 _ (h.1 i (by omega)), h2 _ (h.1 j hj)]
  exact h.2 i j hij hj
