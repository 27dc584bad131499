/-! ===== the runner: symbolic execution up to a stop, a call or the end; it gives a Prop that implies the judgement ===== -/
theorem xlook_mem {α : Type} : ∀ {l : List (Nat × α)} {i : Nat} {w : α}, l.lookup i = some w → (i, w) ∈ l
  | [], _, _, h => by simp at h
  | (k, v) :: l, i, w, h => by
    by_cases hk : i = k
    · subst hk
      simp [List.lookup] at h
      subst h
      exact List.mem_cons_self
    · have : (i == k) = false := by simpa using hk
      simp only [List.lookup, this] at h
      exact List.mem_cons_of_mem _ (xlook_mem h)
def xtg (pc : Nat) (off : Int) : Nat := ((pc : Int) + off).toNat
def xil (K : Int32 → Prop) : Option Value → Prop
  | some (.int x) => K x
  | _ => False
def xll (K : Int64 → Prop) : Option Value → Prop
  | some (.long x) => K x
  | _ => False
def xal (K : Nat → Prop) : Option Value → Prop
  | some (.ref x) => K x
  | _ => False
theorem xil_e (K : Int32 → Prop) (x : Int32) : xil K (some (.int x)) = K x := rfl
theorem xll_e (K : Int64 → Prop) (x : Int64) : xll K (some (.long x)) = K x := rfl
theorem xal_e (K : Nat → Prop) (x : Nat) : xal K (some (.ref x)) = K x := rfl
theorem xil_s {K : Int32 → Prop} {v : Option Value} (h : xil K v) : ∃ x, v = some (.int x) ∧ K x := by unfold xil at h; split at h; exact ⟨_, rfl, h⟩; exact h.elim
theorem xll_s {K : Int64 → Prop} {v : Option Value} (h : xll K v) : ∃ x, v = some (.long x) ∧ K x := by unfold xll at h; split at h; exact ⟨_, rfl, h⟩; exact h.elim
theorem xal_s {K : Nat → Prop} {v : Option Value} (h : xal K v) : ∃ x, v = some (.ref x) ∧ K x := by unfold xal at h; split at h; exact ⟨_, rfl, h⟩; exact h.elim
def xs1i (K : Int32 → List Value → Prop) : List Value → Prop
  | .int x :: st => K x st
  | _ => False
theorem xs1i_e (K : Int32 → List Value → Prop) (x : Int32) (st : List Value) : xs1i K (.int x :: st) = K x st := rfl
theorem xs1i_s {K : Int32 → List Value → Prop} {st0 : List Value} (h : xs1i K st0) : ∃ x st, st0 = .int x :: st ∧ K x st := by
  unfold xs1i at h
  split at h
  · exact ⟨_, _, rfl, h⟩
  · exact h.elim
def xs2i (K : Int32 → Int32 → List Value → Prop) : List Value → Prop
  | .int y :: .int x :: st => K x y st
  | _ => False
theorem xs2i_e (K : Int32 → Int32 → List Value → Prop) (x y : Int32) (st : List Value) : xs2i K (.int y :: .int x :: st) = K x y st := rfl
theorem xs2i_s {K : Int32 → Int32 → List Value → Prop} {st0 : List Value} (h : xs2i K st0) : ∃ x y st, st0 = .int y :: .int x :: st ∧ K x y st := by
  unfold xs2i at h
  split at h
  · exact ⟨_, _, _, rfl, h⟩
  · exact h.elim
def xs1l (K : Int64 → List Value → Prop) : List Value → Prop
  | .long x :: st => K x st
  | _ => False
theorem xs1l_e (K : Int64 → List Value → Prop) (x : Int64) (st : List Value) : xs1l K (.long x :: st) = K x st := rfl
theorem xs1l_s {K : Int64 → List Value → Prop} {st0 : List Value} (h : xs1l K st0) : ∃ x st, st0 = .long x :: st ∧ K x st := by
  unfold xs1l at h
  split at h
  · exact ⟨_, _, rfl, h⟩
  · exact h.elim
def xs2l (K : Int64 → Int64 → List Value → Prop) : List Value → Prop
  | .long y :: .long x :: st => K x y st
  | _ => False
theorem xs2l_e (K : Int64 → Int64 → List Value → Prop) (x y : Int64) (st : List Value) : xs2l K (.long y :: .long x :: st) = K x y st := rfl
theorem xs2l_s {K : Int64 → Int64 → List Value → Prop} {st0 : List Value} (h : xs2l K st0) : ∃ x y st, st0 = .long y :: .long x :: st ∧ K x y st := by
  unfold xs2l at h
  split at h
  · exact ⟨_, _, _, rfl, h⟩
  · exact h.elim
def xsil (K : Int64 → Int32 → List Value → Prop) : List Value → Prop
  | .int y :: .long x :: st => K x y st
  | _ => False
theorem xsil_e (K : Int64 → Int32 → List Value → Prop) (x : Int64) (y : Int32) (st : List Value) : xsil K (.int y :: .long x :: st) = K x y st := rfl
theorem xsil_s {K : Int64 → Int32 → List Value → Prop} {st0 : List Value} (h : xsil K st0) : ∃ x y st, st0 = .int y :: .long x :: st ∧ K x y st := by
  unfold xsil at h
  split at h
  · exact ⟨_, _, _, rfl, h⟩
  · exact h.elim
def xs1 (K : Value → List Value → Prop) : List Value → Prop
  | v :: st => K v st
  | _ => False
theorem xs1_e (K : Value → List Value → Prop) (v : Value) (st : List Value) : xs1 K (v :: st) = K v st := rfl
theorem xs1_s {K : Value → List Value → Prop} {st0 : List Value} (h : xs1 K st0) : ∃ v st, st0 = v :: st ∧ K v st := by
  unfold xs1 at h
  split at h
  · exact ⟨_, _, rfl, h⟩
  · exact h.elim
def xs2 (K : Value → Value → List Value → Prop) : List Value → Prop
  | v :: w :: st => K v w st
  | _ => False
theorem xs2_e (K : Value → Value → List Value → Prop) (v w : Value) (st : List Value) : xs2 K (v :: w :: st) = K v w st := rfl
theorem xs2_s {K : Value → Value → List Value → Prop} {st0 : List Value} (h : xs2 K st0) : ∃ v w st, st0 = v :: w :: st ∧ K v w st := by
  unfold xs2 at h
  split at h
  · exact ⟨_, _, _, rfl, h⟩
  · exact h.elim
def xs1a (K : Nat → List Value → Prop) : List Value → Prop
  | .ref a :: st => K a st
  | _ => False
theorem xs1a_e (K : Nat → List Value → Prop) (a : Nat) (st : List Value) : xs1a K (.ref a :: st) = K a st := rfl
theorem xs1a_s {K : Nat → List Value → Prop} {st0 : List Value} (h : xs1a K st0) : ∃ a st, st0 = .ref a :: st ∧ K a st := by
  unfold xs1a at h
  split at h
  · exact ⟨_, _, rfl, h⟩
  · exact h.elim
def xsia (K : Int32 → Nat → List Value → Prop) : List Value → Prop
  | .int i :: .ref a :: st => K i a st
  | _ => False
theorem xsia_e (K : Int32 → Nat → List Value → Prop) (i : Int32) (a : Nat) (st : List Value) : xsia K (.int i :: .ref a :: st) = K i a st := rfl
theorem xsia_s {K : Int32 → Nat → List Value → Prop} {st0 : List Value} (h : xsia K st0) : ∃ i a st, st0 = .int i :: .ref a :: st ∧ K i a st := by
  unfold xsia at h
  split at h
  · exact ⟨_, _, _, rfl, h⟩
  · exact h.elim
def xsiia (K : Int32 → Int32 → Nat → List Value → Prop) : List Value → Prop
  | .int x :: .int i :: .ref a :: st => K x i a st
  | _ => False
theorem xsiia_e (K : Int32 → Int32 → Nat → List Value → Prop) (x i : Int32) (a : Nat) (st : List Value) : xsiia K (.int x :: .int i :: .ref a :: st) = K x i a st := rfl
theorem xsiia_s {K : Int32 → Int32 → Nat → List Value → Prop} {st0 : List Value} (h : xsiia K st0) : ∃ x i a st, st0 = .int x :: .int i :: .ref a :: st ∧ K x i a st := by
  unfold xsiia at h
  split at h
  · exact ⟨_, _, _, _, rfl, h⟩
  · exact h.elim
def xslia (K : Int64 → Int32 → Nat → List Value → Prop) : List Value → Prop
  | .long x :: .int i :: .ref a :: st => K x i a st
  | _ => False
theorem xslia_e (K : Int64 → Int32 → Nat → List Value → Prop) (x : Int64) (i : Int32) (a : Nat) (st : List Value) : xslia K (.long x :: .int i :: .ref a :: st) = K x i a st := rfl
theorem xslia_s {K : Int64 → Int32 → Nat → List Value → Prop} {st0 : List Value} (h : xslia K st0) : ∃ x i a st, st0 = .long x :: .int i :: .ref a :: st ∧ K x i a st := by
  unfold xslia at h
  split at h
  · exact ⟨_, _, _, _, rfl, h⟩
  · exact h.elim
def xsaia (K : Nat → Int32 → Nat → List Value → Prop) : List Value → Prop
  | .ref b :: .int i :: .ref a :: st => K b i a st
  | _ => False
theorem xsaia_e (K : Nat → Int32 → Nat → List Value → Prop) (b : Nat) (i : Int32) (a : Nat) (st : List Value) : xsaia K (.ref b :: .int i :: .ref a :: st) = K b i a st := rfl
theorem xsaia_s {K : Nat → Int32 → Nat → List Value → Prop} {st0 : List Value} (h : xsaia K st0) : ∃ b i a st, st0 = .ref b :: .int i :: .ref a :: st ∧ K b i a st := by
  unfold xsaia at h
  split at h
  · exact ⟨_, _, _, _, rfl, h⟩
  · exact h.elim
def xsva (K : Value → Nat → List Value → Prop) : List Value → Prop
  | v :: .ref a :: st => K v a st
  | _ => False
theorem xsva_e (K : Value → Nat → List Value → Prop) (v : Value) (a : Nat) (st : List Value) : xsva K (v :: .ref a :: st) = K v a st := rfl
theorem xsva_s {K : Value → Nat → List Value → Prop} {st0 : List Value} (h : xsva K st0) : ∃ v a st, st0 = v :: .ref a :: st ∧ K v a st := by
  unfold xsva at h
  split at h
  · exact ⟨_, _, _, rfl, h⟩
  · exact h.elim
def xse1i (K : Int32 → Prop) : List Value → Prop
  | [.int x] => K x
  | _ => False
theorem xse1i_e (K : Int32 → Prop) (x : Int32) : xse1i K ([.int x]) = K x := rfl
theorem xse1i_s {K : Int32 → Prop} {st0 : List Value} (h : xse1i K st0) : ∃ x, st0 = [.int x] ∧ K x := by
  unfold xse1i at h
  split at h
  · exact ⟨_, rfl, h⟩
  · exact h.elim
def xse1l (K : Int64 → Prop) : List Value → Prop
  | [.long x] => K x
  | _ => False
theorem xse1l_e (K : Int64 → Prop) (x : Int64) : xse1l K ([.long x]) = K x := rfl
theorem xse1l_s {K : Int64 → Prop} {st0 : List Value} (h : xse1l K st0) : ∃ x, st0 = [.long x] ∧ K x := by
  unfold xse1l at h
  split at h
  · exact ⟨_, rfl, h⟩
  · exact h.elim
def xse1a (K : Nat → Prop) : List Value → Prop
  | [.ref x] => K x
  | _ => False
theorem xse1a_e (K : Nat → Prop) (x : Nat) : xse1a K ([.ref x]) = K x := rfl
theorem xse1a_s {K : Nat → Prop} {st0 : List Value} (h : xse1a K st0) : ∃ x, st0 = [.ref x] ∧ K x := by
  unfold xse1a at h
  split at h
  · exact ⟨_, rfl, h⟩
  · exact h.elim
def xse0 (P : Prop) : List Value → Prop
  | [] => P
  | _ => False
theorem xse0_e (P : Prop) : xse0 P [] = P := rfl
theorem xse0_s {P : Prop} {st0 : List Value} (h : xse0 P st0) : st0 = [] ∧ P := by
  unfold xse0 at h
  split at h
  · exact ⟨rfl, h⟩
  · exact h.elim
def xfv (K : Value → Prop) : List Value → Nat → Prop
  | [], _ => False
  | v :: _, 0 => K v
  | _ :: l, k + 1 => xfv K l k
theorem xfv_0 (K : Value → Prop) (v : Value) (l : List Value) : xfv K (v :: l) 0 = K v := rfl
theorem xfv_c (K : Value → Prop) (v : Value) (l : List Value) (k : Nat) : xfv K (v :: l) (k + 1) = xfv K l k := rfl
theorem xfv_s {K : Value → Prop} : ∀ {l : List Value} {k : Nat}, xfv K l k → ∃ v, l[k]? = some v ∧ K v
  | [], _, h => h.elim
  | v :: _, 0, h => ⟨v, rfl, h⟩
  | _ :: l, k + 1, h => xfv_s (l := l) (k := k) h
def xgf (K : Value → Prop) : Option (Nat × Nat) → Option xE → Prop
  | some (ci, k), some (.inr (cj, fs)) => ci = cj ∧ xfv K fs k
  | _, _ => False
theorem xgf_e (K : Value → Prop) (ci k cj : Nat) (fs : List Value) : xgf K (some (ci, k)) (some (.inr (cj, fs))) = (ci = cj ∧ xfv K fs k) := rfl
theorem xgf_s {K : Value → Prop} {p : Option (Nat × Nat)} {e : Option xE} (h : xgf K p e) : ∃ ci k fs, p = some (ci, k) ∧ e = some (xOb ci fs) ∧ xfv K fs k := by
  unfold xgf at h
  split at h
  · obtain ⟨h1, h2⟩ := h
    subst h1
    exact ⟨_, _, _, rfl, rfl, h2⟩
  · exact h.elim
def xpf (ini : Bool) (own : String) (v : Value) (K : xE → Prop) : Option (Nat × Nat) → Option xE → Prop
  | some (ci, k), some (.inr (cj, fs)) => ci = cj ∧ xfit ini own ci k v ∧ k < fs.length ∧ K (xOb ci (fs.set k v))
  | _, _ => False
theorem xpf_e (ini : Bool) (own : String) (v : Value) (K : xE → Prop) (ci k cj : Nat) (fs : List Value) : xpf ini own v K (some (ci, k)) (some (.inr (cj, fs))) = (ci = cj ∧ xfit ini own ci k v ∧ k < fs.length ∧ K (xOb ci (fs.set k v))) := rfl
theorem xpf_s {ini : Bool} {own : String} {v : Value} {K : xE → Prop} {p : Option (Nat × Nat)} {e : Option xE} (h : xpf ini own v K p e) : ∃ ci k fs, p = some (ci, k) ∧ e = some (xOb ci fs) ∧ xfit ini own ci k v ∧ k < fs.length ∧ K (xOb ci (fs.set k v)) := by
  unfold xpf at h
  split at h
  · obtain ⟨h1, h2⟩ := h
    subst h1
    exact ⟨_, _, _, rfl, rfl, h2⟩
  · exact h.elim
def xia (S : Prop) (i : Int32) (K : Nat → (Nat → Int32) → Prop) : Option xE → Prop
  | some (.inl (.int, n, .inl g)) => vp_in i n ∧ K n g
  | none => S
  | _ => False
theorem xia_e (S : Prop) (i : Int32) (K : Nat → (Nat → Int32) → Prop) (n : Nat) (g : Nat → Int32) : xia S i K (some (xI n g)) = (vp_in i n ∧ K n g) := rfl
theorem xia_n (S : Prop) (i : Int32) (K : Nat → (Nat → Int32) → Prop) : xia S i K none = S := rfl
theorem xia_s {S : Prop} {i : Int32} {K : Nat → (Nat → Int32) → Prop} {e : Option xE} (h : xia S i K e) : (∃ n g, e = some (xI n g) ∧ vp_in i n ∧ K n g) ∨ S := by
  unfold xia at h
  split at h
  · exact Or.inl ⟨_, _, rfl, h.1, h.2⟩
  · exact Or.inr h
  · exact h.elim
def xba (S : Prop) (i : Int32) (K : Nat → (Nat → Int32) → Prop) : Option xE → Prop
  | some (.inl (.byte, n, .inl g)) => vp_in i n ∧ K n g
  | none => S
  | _ => False
theorem xba_e (S : Prop) (i : Int32) (K : Nat → (Nat → Int32) → Prop) (n : Nat) (g : Nat → Int32) : xba S i K (some (xB n g)) = (vp_in i n ∧ K n g) := rfl
theorem xba_n (S : Prop) (i : Int32) (K : Nat → (Nat → Int32) → Prop) : xba S i K none = S := rfl
theorem xba_s {S : Prop} {i : Int32} {K : Nat → (Nat → Int32) → Prop} {e : Option xE} (h : xba S i K e) : (∃ n g, e = some (xB n g) ∧ vp_in i n ∧ K n g) ∨ S := by
  unfold xba at h
  split at h
  · exact Or.inl ⟨_, _, rfl, h.1, h.2⟩
  · exact Or.inr h
  · exact h.elim
def xla (S : Prop) (i : Int32) (K : Nat → (Nat → Int64) → Prop) : Option xE → Prop
  | some (.inl (.long, n, .inr (.inl g))) => vp_in i n ∧ K n g
  | none => S
  | _ => False
theorem xla_e (S : Prop) (i : Int32) (K : Nat → (Nat → Int64) → Prop) (n : Nat) (g : Nat → Int64) : xla S i K (some (xJ n g)) = (vp_in i n ∧ K n g) := rfl
theorem xla_n (S : Prop) (i : Int32) (K : Nat → (Nat → Int64) → Prop) : xla S i K none = S := rfl
theorem xla_s {S : Prop} {i : Int32} {K : Nat → (Nat → Int64) → Prop} {e : Option xE} (h : xla S i K e) : (∃ n g, e = some (xJ n g) ∧ vp_in i n ∧ K n g) ∨ S := by
  unfold xla at h
  split at h
  · exact Or.inl ⟨_, _, rfl, h.1, h.2⟩
  · exact Or.inr h
  · exact h.elim
def xob (K : Nat → Prop) : Option Nat → Prop
  | some b => K b
  | none => False
theorem xob_e (K : Nat → Prop) (b : Nat) : xob K (some b) = K b := rfl
theorem xob_s {K : Nat → Prop} {b : Option Nat} (h : xob K b) : ∃ x, b = some x ∧ K x := by
  unfold xob at h
  split at h
  · exact ⟨_, rfl, h⟩
  · exact h.elim
def xra (i : Int32) (K : Nat → (Nat → Option Nat) → Prop) : Option xE → Prop
  | some (.inl (.object C, n, .inr (.inr (.inr (.inr g))))) => C = RX1 ∧ vp_in i n ∧ K n g
  | _ => False
theorem xra_e (i : Int32) (K : Nat → (Nat → Option Nat) → Prop) (n : Nat) (g : Nat → Option Nat) : xra i K (some (xR n g)) = (RX1 = RX1 ∧ vp_in i n ∧ K n g) := rfl
theorem xra_s {i : Int32} {K : Nat → (Nat → Option Nat) → Prop} {e : Option xE} (h : xra i K e) : ∃ n g, e = some (xR n g) ∧ vp_in i n ∧ K n g := by
  unfold xra at h
  split at h
  · obtain ⟨h1, h2, h3⟩ := h
    subst h1
    exact ⟨_, _, rfl, h2, h3⟩
  · exact h.elim
def xno (P : Prop) : Option xE → Prop
  | some (.inr (1, _)) => P
  | _ => False
theorem xno_e (P : Prop) (fs : List Value) : xno P (some (xOb 1 fs)) = P := rfl
theorem xno_s {P : Prop} {e : Option xE} (h : xno P e) : (∃ fs, e = some (xOb 1 fs)) ∧ P := by
  unfold xno at h
  split at h
  · exact ⟨⟨_, rfl⟩, h⟩
  · exact h.elim
def xle (K : Nat → Prop) : Option xE → Prop
  | some (.inl (_, n, _)) => K n
  | _ => False
theorem xle_e (K : Nat → Prop) (ty : FieldType) (n : Nat) (g : (Nat → Int32) ⊕ (Nat → Int64) ⊕ (Nat → UInt32) ⊕ (Nat → UInt64) ⊕ (Nat → Option Nat)) : xle K (some (.inl (ty, n, g))) = K n := rfl
theorem xle_s {K : Nat → Prop} {e : Option xE} (h : xle K e) : ∃ ty n g, e = some (.inl (ty, n, g)) ∧ K n := by
  unfold xle at h
  split at h
  · exact ⟨_, _, _, rfl, h⟩
  · exact h.elim
def xbr (pc n : Nat) (off : Int) (c : Prop) (A : Nat → Prop) (B : Prop) : Prop := n = 3 ∧ (pc : Int) + off = (xtg pc off : Int) ∧ (c → A (xtg pc off)) ∧ (¬ c → B)
def xnr (S : Prop) (v : Int32) (P : Prop) : Option FieldType → Prop
  | some ty => narrow ty (.int v) = .int v ∧ P
  | none => S
theorem xnr_i (S : Prop) (v : Int32) (P : Prop) : xnr S v P (some .int) = P := by simp [xnr, narrow]
theorem xnr_b0 (S : Prop) (P : Prop) : xnr S 0 P (some .boolean) = P := by simp [xnr]; intro _; rfl
theorem xnr_b1 (S : Prop) (P : Prop) : xnr S 1 P (some .boolean) = P := by simp [xnr]; intro _; rfl
theorem xnr_n (S : Prop) (v : Int32) (P : Prop) : xnr S v P none = S := rfl
/-- the condition of a jump on one number, on two; a jump on ne is one on eq with its ways changed -/
def xjc (K : Nat → List Value → Prop) (pc n : Nat) (off : Int) (st : List Value) : ClassFile.Cond → Prop
  | .eq => xs1i (fun x st => n = 3 ∧ (pc : Int) + off = (xtg pc off : Int) ∧ (x = 0 → K (xtg pc off) st) ∧ (¬ x = 0 → K (pc + 3) st)) st
  | .ne => xs1i (fun x st => n = 3 ∧ (pc : Int) + off = (xtg pc off : Int) ∧ (x = 0 → K (pc + 3) st) ∧ (¬ x = 0 → K (xtg pc off) st)) st
  | .lt => xs1i (fun x st => n = 3 ∧ (pc : Int) + off = (xtg pc off : Int) ∧ (x < 0 → K (xtg pc off) st) ∧ (¬ x < 0 → K (pc + 3) st)) st
  | .ge => xs1i (fun x st => n = 3 ∧ (pc : Int) + off = (xtg pc off : Int) ∧ (0 ≤ x → K (xtg pc off) st) ∧ (¬ 0 ≤ x → K (pc + 3) st)) st
  | .gt => xs1i (fun x st => n = 3 ∧ (pc : Int) + off = (xtg pc off : Int) ∧ (0 < x → K (xtg pc off) st) ∧ (¬ 0 < x → K (pc + 3) st)) st
  | .le => xs1i (fun x st => n = 3 ∧ (pc : Int) + off = (xtg pc off : Int) ∧ (x ≤ 0 → K (xtg pc off) st) ∧ (¬ x ≤ 0 → K (pc + 3) st)) st
def xjd (K : Nat → List Value → Prop) (pc n : Nat) (off : Int) (st : List Value) : ClassFile.Cond → Prop
  | .eq => xs2i (fun x b st => n = 3 ∧ (pc : Int) + off = (xtg pc off : Int) ∧ (x = b → K (xtg pc off) st) ∧ (¬ x = b → K (pc + 3) st)) st
  | .ne => xs2i (fun x b st => n = 3 ∧ (pc : Int) + off = (xtg pc off : Int) ∧ (x = b → K (pc + 3) st) ∧ (¬ x = b → K (xtg pc off) st)) st
  | .lt => xs2i (fun x b st => n = 3 ∧ (pc : Int) + off = (xtg pc off : Int) ∧ (x < b → K (xtg pc off) st) ∧ (¬ x < b → K (pc + 3) st)) st
  | .ge => xs2i (fun x b st => n = 3 ∧ (pc : Int) + off = (xtg pc off : Int) ∧ (b ≤ x → K (xtg pc off) st) ∧ (¬ b ≤ x → K (pc + 3) st)) st
  | .gt => xs2i (fun x b st => n = 3 ∧ (pc : Int) + off = (xtg pc off : Int) ∧ (b < x → K (xtg pc off) st) ∧ (¬ b < x → K (pc + 3) st)) st
  | .le => xs2i (fun x b st => n = 3 ∧ (pc : Int) + off = (xtg pc off : Int) ∧ (x ≤ b → K (xtg pc off) st) ∧ (¬ x ≤ b → K (pc + 3) st)) st
def xex (X : xC) (own : String) (ini : Bool) (pl : Nat → Option (Nat × Nat)) (cs : Nat → Option Value) (ret : Option FieldType) (mc ms : Nat) (post : Option Value → xH → Nat → Prop) (K : Nat → List (Option Value) → List Value → xH → Nat × Nat × Nat → Prop) (i : Instr) (n pc : Nat) (lo : List (Option Value)) (st : List Value) (f : xH) (y : Nat × Nat × Nat) : Prop := match i with
  | .iconst v => n = 1 ∧ K (pc + 1) lo (.int (Int32.ofInt v) :: st) f y
  | .bipush v => n = 2 ∧ K (pc + 2) lo (.int (Int8.ofInt v).toInt32 :: st) f y
  | .sipush v => n = 3 ∧ K (pc + 3) lo (.int (Int16.ofInt v).toInt32 :: st) f y
  | .lconst v => n = 1 ∧ K (pc + 1) lo (.long (Int64.ofNat (v : Nat)) :: st) f y
  | .iadd => n = 1 ∧ xs2i (fun x b st => K (pc + 1) lo (.int (x + b) :: st) f y) st
  | .isub => n = 1 ∧ xs2i (fun x b st => K (pc + 1) lo (.int (x - b) :: st) f y) st
  | .imul => n = 1 ∧ xs2i (fun x b st => K (pc + 1) lo (.int (x * b) :: st) f y) st
  | .iand => n = 1 ∧ xs2i (fun x b st => K (pc + 1) lo (.int (x &&& b) :: st) f y) st
  | .ior => n = 1 ∧ xs2i (fun x b st => K (pc + 1) lo (.int (x ||| b) :: st) f y) st
  | .ixor => n = 1 ∧ xs2i (fun x b st => K (pc + 1) lo (.int (x ^^^ b) :: st) f y) st
  | .ishr => n = 1 ∧ xs2i (fun x b st => K (pc + 1) lo (.int (x >>> (b &&& 31)) :: st) f y) st
  | .idiv => n = 1 ∧ xs2i (fun x b st => (¬ b = 0) ∧ K (pc + 1) lo (.int (x / b) :: st) f y) st
  | .irem => n = 1 ∧ xs2i (fun x b st => (¬ b = 0) ∧ K (pc + 1) lo (.int (x - x / b * b) :: st) f y) st
  | .ladd => n = 1 ∧ xs2l (fun x b st => K (pc + 1) lo (.long (x + b) :: st) f y) st
  | .lsub => n = 1 ∧ xs2l (fun x b st => K (pc + 1) lo (.long (x - b) :: st) f y) st
  | .lmul => n = 1 ∧ xs2l (fun x b st => K (pc + 1) lo (.long (x * b) :: st) f y) st
  | .land => n = 1 ∧ xs2l (fun x b st => K (pc + 1) lo (.long (x &&& b) :: st) f y) st
  | .lor => n = 1 ∧ xs2l (fun x b st => K (pc + 1) lo (.long (x ||| b) :: st) f y) st
  | .ldiv => n = 1 ∧ xs2l (fun x b st => (¬ b = 0) ∧ K (pc + 1) lo (.long (x / b) :: st) f y) st
  | .lrem => n = 1 ∧ xs2l (fun x b st => (¬ b = 0) ∧ K (pc + 1) lo (.long (x - x / b * b) :: st) f y) st
  | .lcmp => n = 1 ∧ xs2l (fun x b st => K (pc + 1) lo (.int (lg_cmp x b) :: st) f y) st
  | .lshr => n = 1 ∧ xsil (fun x b st => K (pc + 1) lo (.long (x >>> (b.toInt64 &&& 63)) :: st) f y) st
  | .ineg => n = 1 ∧ xs1i (fun x st => K (pc + 1) lo (.int (-x) :: st) f y) st
  | .i2l => n = 1 ∧ xs1i (fun x st => K (pc + 1) lo (.long x.toInt64 :: st) f y) st
  | .i2b => n = 1 ∧ xs1i (fun x st => K (pc + 1) lo (.int x.toInt8.toInt32 :: st) f y) st
  | .l2i => n = 1 ∧ xs1l (fun x st => K (pc + 1) lo (.int x.toInt32 :: st) f y) st
  | .dup => n = 1 ∧ xs1 (fun v st => v.category = 1 ∧ K (pc + 1) lo (v :: v :: st) f y) st
  | .pop => n = 1 ∧ xs1 (fun v st => v.category = 1 ∧ K (pc + 1) lo st f y) st
  | .dup2 => n = 1 ∧ xs2 (fun v w st => v.category = 1 ∧ w.category = 1 ∧ K (pc + 1) lo (v :: w :: v :: w :: st) f y) st
  | .iload i => n = 2 ∧ xil (fun x => K (pc + 2) lo (.int x :: st) f y) (xlg lo i)
  | .iload_n i => n = 1 ∧ xil (fun x => K (pc + 1) lo (.int x :: st) f y) (xlg lo (i : Nat))
  | .lload i => n = 2 ∧ xll (fun x => K (pc + 2) lo (.long x :: st) f y) (xlg lo i)
  | .lload_n i => n = 1 ∧ xll (fun x => K (pc + 1) lo (.long x :: st) f y) (xlg lo (i : Nat))
  | .aload i => n = 2 ∧ xal (fun x => K (pc + 2) lo (.ref x :: st) f y) (xlg lo i)
  | .aload_n i => n = 1 ∧ xal (fun x => K (pc + 1) lo (.ref x :: st) f y) (xlg lo (i : Nat))
  | .istore i => n = 2 ∧ xs1i (fun x st => i < lo.length ∧ K (pc + 2) (xst1 lo i (.int x)) st f y) st
  | .istore_n i => n = 1 ∧ xs1i (fun x st => (i : Nat) < lo.length ∧ K (pc + 1) (xst1 lo (i : Nat) (.int x)) st f y) st
  | .lstore i => n = 2 ∧ xs1l (fun x st => i + 1 < lo.length ∧ K (pc + 2) (xst2 lo i (.long x)) st f y) st
  | .lstore_n i => n = 1 ∧ xs1l (fun x st => (i : Nat) + 1 < lo.length ∧ K (pc + 1) (xst2 lo (i : Nat) (.long x)) st f y) st
  | .astore i => n = 2 ∧ xs1a (fun x st => i < lo.length ∧ K (pc + 2) (xst1 lo i (.ref x)) st f y) st
  | .astore_n i => n = 1 ∧ xs1a (fun x st => (i : Nat) < lo.length ∧ K (pc + 1) (xst1 lo (i : Nat) (.ref x)) st f y) st
  | .iinc i v => n = 3 ∧ xil (fun x => K (pc + 3) (xst1 lo i (.int (x + Int32.ofInt v))) st f y) (xlg lo i)
  | .goto off => n = 3 ∧ (pc : Int) + off = (xtg pc off : Int) ∧ K (xtg pc off) lo st f y
  | .ldc i => n = 2 ∧ xil (fun x => K (pc + 2) lo (.int x :: st) f y) (cs i)
  | .ldc2_w i => n = 3 ∧ xll (fun x => K (pc + 3) lo (.long x :: st) f y) (cs i)
  | .getfield i => n = 3 ∧ xs1a (fun a st => xgf (fun v => K (pc + 3) lo (v :: st) f y) (pl i) (f a)) st
  | .putfield i => n = 3 ∧ xsva (fun v a st => xpf ini own v (fun e => K (pc + 3) lo st (xu f a e) y) (pl i) (f a)) st
  | .iaload => n = 1 ∧ xsia (fun i a st => xia (xG X pc lo (.int i :: .ref a :: st) f y) i (fun _ g => K (pc + 1) lo (.int (g i.toNatClampNeg) :: st) f y) (f a)) st
  | .baload => n = 1 ∧ xsia (fun i a st => xba (xG X pc lo (.int i :: .ref a :: st) f y) i (fun _ g => K (pc + 1) lo (.int (g i.toNatClampNeg) :: st) f y) (f a)) st
  | .laload => n = 1 ∧ xsia (fun i a st => xla (xG X pc lo (.int i :: .ref a :: st) f y) i (fun _ g => K (pc + 1) lo (.long (g i.toNatClampNeg) :: st) f y) (f a)) st
  | .aaload => n = 1 ∧ xsia (fun i a st => xra i (fun _ g => xob (fun b => K (pc + 1) lo (.ref b :: st) f y) (g i.toNatClampNeg)) (f a)) st
  | .iastore => n = 1 ∧ xsiia (fun x i a st => xia False i (fun n g => K (pc + 1) lo st (xu f a (xI n (upd g i.toNatClampNeg x))) y) (f a)) st
  | .bastore => n = 1 ∧ xsiia (fun x i a st => xba False i (fun n g => K (pc + 1) lo st (xu f a (xB n (upd g i.toNatClampNeg x.toInt8.toInt32))) y) (f a)) st
  | .lastore => n = 1 ∧ xslia (fun x i a st => xla False i (fun n g => K (pc + 1) lo st (xu f a (xJ n (vp_updL g i.toNatClampNeg x))) y) (f a)) st
  | .aastore => n = 1 ∧ xsaia (fun b i a st => xno (xra i (fun n g => K (pc + 1) lo st (xu f a (xR n (va_up g i.toNatClampNeg (some b)))) y) (f a)) (f b)) st
  | .arraylength => n = 1 ∧ xs1a (fun a st => xle (fun n => K (pc + 1) lo (.int (Int32.ofNat n) :: st) f y) (f a)) st
  | .ireturn => n = 1 ∧ xse1i (fun v => xnr (xG X pc lo [.int v] f y) v (post (some (.int v)) f y.1 ∧ y.2.1 ≤ mc ∧ y.2.2 ≤ ms) ret) st
  | .lreturn => n = 1 ∧ ret = some .long ∧ xse1l (fun v => post (some (.long v)) f y.1 ∧ y.2.1 ≤ mc ∧ y.2.2 ≤ ms) st
  | .areturn => n = 1 ∧ ret = some (.object RX1) ∧ xse1a (fun v => post (some (.ref v)) f y.1 ∧ y.2.1 ≤ mc ∧ y.2.2 ≤ ms) st
  | .return_ => n = 1 ∧ xse0 (post none f y.1 ∧ y.2.1 ≤ mc ∧ y.2.2 ≤ ms ∧ ret = none) st
  | .ifCond c off => xjc (fun pc st => K pc lo st f y) pc n off st c
  | .if_icmp c off => xjd (fun pc st => K pc lo st f y) pc n off st c
  | _ => xG X pc lo st f y
section XE
variable (X : xC) (own : String) (ini : Bool) (pl : Nat → Option (Nat × Nat)) (cs : Nat → Option Value) (ret : Option FieldType) (mc ms : Nat) (post : Option Value → xH → Nat → Prop) (K : Nat → List (Option Value) → List Value → xH → Nat × Nat × Nat → Prop) (pc : Nat) (lo : List (Option Value)) (st : List Value) (f : xH) (y : Nat × Nat × Nat)
theorem xe_iconst (v : Int) : xex X own ini pl cs ret mc ms post K (.iconst v) 1 pc lo st f y = (K (pc + 1) lo (.int (Int32.ofInt v) :: st) f y) := by simp only [xex, true_and]
theorem xe_bipush (v : Int) : xex X own ini pl cs ret mc ms post K (.bipush v) 2 pc lo st f y = (K (pc + 2) lo (.int (Int8.ofInt v).toInt32 :: st) f y) := by simp only [xex, true_and]
theorem xe_sipush (v : Int) : xex X own ini pl cs ret mc ms post K (.sipush v) 3 pc lo st f y = (K (pc + 3) lo (.int (Int16.ofInt v).toInt32 :: st) f y) := by simp only [xex, true_and]
theorem xe_lconst (v : Fin 2) : xex X own ini pl cs ret mc ms post K (.lconst v) 1 pc lo st f y = (K (pc + 1) lo (.long (Int64.ofNat (v : Nat)) :: st) f y) := by simp only [xex, true_and]
theorem xe_iadd  : xex X own ini pl cs ret mc ms post K (.iadd) 1 pc lo st f y = (xs2i (fun x b st => K (pc + 1) lo (.int (x + b) :: st) f y) st) := by simp only [xex, true_and]
theorem xe_isub  : xex X own ini pl cs ret mc ms post K (.isub) 1 pc lo st f y = (xs2i (fun x b st => K (pc + 1) lo (.int (x - b) :: st) f y) st) := by simp only [xex, true_and]
theorem xe_imul  : xex X own ini pl cs ret mc ms post K (.imul) 1 pc lo st f y = (xs2i (fun x b st => K (pc + 1) lo (.int (x * b) :: st) f y) st) := by simp only [xex, true_and]
theorem xe_iand  : xex X own ini pl cs ret mc ms post K (.iand) 1 pc lo st f y = (xs2i (fun x b st => K (pc + 1) lo (.int (x &&& b) :: st) f y) st) := by simp only [xex, true_and]
theorem xe_ior  : xex X own ini pl cs ret mc ms post K (.ior) 1 pc lo st f y = (xs2i (fun x b st => K (pc + 1) lo (.int (x ||| b) :: st) f y) st) := by simp only [xex, true_and]
theorem xe_ixor  : xex X own ini pl cs ret mc ms post K (.ixor) 1 pc lo st f y = (xs2i (fun x b st => K (pc + 1) lo (.int (x ^^^ b) :: st) f y) st) := by simp only [xex, true_and]
theorem xe_ishr  : xex X own ini pl cs ret mc ms post K (.ishr) 1 pc lo st f y = (xs2i (fun x b st => K (pc + 1) lo (.int (x >>> (b &&& 31)) :: st) f y) st) := by simp only [xex, true_and]
theorem xe_idiv  : xex X own ini pl cs ret mc ms post K (.idiv) 1 pc lo st f y = (xs2i (fun x b st => (¬ b = 0) ∧ K (pc + 1) lo (.int (x / b) :: st) f y) st) := by simp only [xex, true_and]
theorem xe_irem  : xex X own ini pl cs ret mc ms post K (.irem) 1 pc lo st f y = (xs2i (fun x b st => (¬ b = 0) ∧ K (pc + 1) lo (.int (x - x / b * b) :: st) f y) st) := by simp only [xex, true_and]
theorem xe_ladd  : xex X own ini pl cs ret mc ms post K (.ladd) 1 pc lo st f y = (xs2l (fun x b st => K (pc + 1) lo (.long (x + b) :: st) f y) st) := by simp only [xex, true_and]
theorem xe_lsub  : xex X own ini pl cs ret mc ms post K (.lsub) 1 pc lo st f y = (xs2l (fun x b st => K (pc + 1) lo (.long (x - b) :: st) f y) st) := by simp only [xex, true_and]
theorem xe_lmul  : xex X own ini pl cs ret mc ms post K (.lmul) 1 pc lo st f y = (xs2l (fun x b st => K (pc + 1) lo (.long (x * b) :: st) f y) st) := by simp only [xex, true_and]
theorem xe_land  : xex X own ini pl cs ret mc ms post K (.land) 1 pc lo st f y = (xs2l (fun x b st => K (pc + 1) lo (.long (x &&& b) :: st) f y) st) := by simp only [xex, true_and]
theorem xe_lor  : xex X own ini pl cs ret mc ms post K (.lor) 1 pc lo st f y = (xs2l (fun x b st => K (pc + 1) lo (.long (x ||| b) :: st) f y) st) := by simp only [xex, true_and]
theorem xe_ldiv  : xex X own ini pl cs ret mc ms post K (.ldiv) 1 pc lo st f y = (xs2l (fun x b st => (¬ b = 0) ∧ K (pc + 1) lo (.long (x / b) :: st) f y) st) := by simp only [xex, true_and]
theorem xe_lrem  : xex X own ini pl cs ret mc ms post K (.lrem) 1 pc lo st f y = (xs2l (fun x b st => (¬ b = 0) ∧ K (pc + 1) lo (.long (x - x / b * b) :: st) f y) st) := by simp only [xex, true_and]
theorem xe_lcmp  : xex X own ini pl cs ret mc ms post K (.lcmp) 1 pc lo st f y = (xs2l (fun x b st => K (pc + 1) lo (.int (lg_cmp x b) :: st) f y) st) := by simp only [xex, true_and]
theorem xe_lshr  : xex X own ini pl cs ret mc ms post K (.lshr) 1 pc lo st f y = (xsil (fun x b st => K (pc + 1) lo (.long (x >>> (b.toInt64 &&& 63)) :: st) f y) st) := by simp only [xex, true_and]
theorem xe_ineg  : xex X own ini pl cs ret mc ms post K (.ineg) 1 pc lo st f y = (xs1i (fun x st => K (pc + 1) lo (.int (-x) :: st) f y) st) := by simp only [xex, true_and]
theorem xe_i2l  : xex X own ini pl cs ret mc ms post K (.i2l) 1 pc lo st f y = (xs1i (fun x st => K (pc + 1) lo (.long x.toInt64 :: st) f y) st) := by simp only [xex, true_and]
theorem xe_i2b  : xex X own ini pl cs ret mc ms post K (.i2b) 1 pc lo st f y = (xs1i (fun x st => K (pc + 1) lo (.int x.toInt8.toInt32 :: st) f y) st) := by simp only [xex, true_and]
theorem xe_l2i  : xex X own ini pl cs ret mc ms post K (.l2i) 1 pc lo st f y = (xs1l (fun x st => K (pc + 1) lo (.int x.toInt32 :: st) f y) st) := by simp only [xex, true_and]
theorem xe_dup  : xex X own ini pl cs ret mc ms post K (.dup) 1 pc lo st f y = (xs1 (fun v st => v.category = 1 ∧ K (pc + 1) lo (v :: v :: st) f y) st) := by simp only [xex, true_and]
theorem xe_pop  : xex X own ini pl cs ret mc ms post K (.pop) 1 pc lo st f y = (xs1 (fun v st => v.category = 1 ∧ K (pc + 1) lo st f y) st) := by simp only [xex, true_and]
theorem xe_dup2  : xex X own ini pl cs ret mc ms post K (.dup2) 1 pc lo st f y = (xs2 (fun v w st => v.category = 1 ∧ w.category = 1 ∧ K (pc + 1) lo (v :: w :: v :: w :: st) f y) st) := by simp only [xex, true_and]
theorem xe_iload (i : Nat) : xex X own ini pl cs ret mc ms post K (.iload i) 2 pc lo st f y = (xil (fun x => K (pc + 2) lo (.int x :: st) f y) (xlg lo i)) := by simp only [xex, true_and]
theorem xe_iload_n (i : Fin 4) : xex X own ini pl cs ret mc ms post K (.iload_n i) 1 pc lo st f y = (xil (fun x => K (pc + 1) lo (.int x :: st) f y) (xlg lo (i : Nat))) := by simp only [xex, true_and]
theorem xe_lload (i : Nat) : xex X own ini pl cs ret mc ms post K (.lload i) 2 pc lo st f y = (xll (fun x => K (pc + 2) lo (.long x :: st) f y) (xlg lo i)) := by simp only [xex, true_and]
theorem xe_lload_n (i : Fin 4) : xex X own ini pl cs ret mc ms post K (.lload_n i) 1 pc lo st f y = (xll (fun x => K (pc + 1) lo (.long x :: st) f y) (xlg lo (i : Nat))) := by simp only [xex, true_and]
theorem xe_aload (i : Nat) : xex X own ini pl cs ret mc ms post K (.aload i) 2 pc lo st f y = (xal (fun x => K (pc + 2) lo (.ref x :: st) f y) (xlg lo i)) := by simp only [xex, true_and]
theorem xe_aload_n (i : Fin 4) : xex X own ini pl cs ret mc ms post K (.aload_n i) 1 pc lo st f y = (xal (fun x => K (pc + 1) lo (.ref x :: st) f y) (xlg lo (i : Nat))) := by simp only [xex, true_and]
theorem xe_istore (i : Nat) : xex X own ini pl cs ret mc ms post K (.istore i) 2 pc lo st f y = (xs1i (fun x st => i < lo.length ∧ K (pc + 2) (xst1 lo i (.int x)) st f y) st) := by simp only [xex, true_and]
theorem xe_istore_n (i : Fin 4) : xex X own ini pl cs ret mc ms post K (.istore_n i) 1 pc lo st f y = (xs1i (fun x st => (i : Nat) < lo.length ∧ K (pc + 1) (xst1 lo (i : Nat) (.int x)) st f y) st) := by simp only [xex, true_and]
theorem xe_lstore (i : Nat) : xex X own ini pl cs ret mc ms post K (.lstore i) 2 pc lo st f y = (xs1l (fun x st => i + 1 < lo.length ∧ K (pc + 2) (xst2 lo i (.long x)) st f y) st) := by simp only [xex, true_and]
theorem xe_lstore_n (i : Fin 4) : xex X own ini pl cs ret mc ms post K (.lstore_n i) 1 pc lo st f y = (xs1l (fun x st => (i : Nat) + 1 < lo.length ∧ K (pc + 1) (xst2 lo (i : Nat) (.long x)) st f y) st) := by simp only [xex, true_and]
theorem xe_astore (i : Nat) : xex X own ini pl cs ret mc ms post K (.astore i) 2 pc lo st f y = (xs1a (fun x st => i < lo.length ∧ K (pc + 2) (xst1 lo i (.ref x)) st f y) st) := by simp only [xex, true_and]
theorem xe_astore_n (i : Fin 4) : xex X own ini pl cs ret mc ms post K (.astore_n i) 1 pc lo st f y = (xs1a (fun x st => (i : Nat) < lo.length ∧ K (pc + 1) (xst1 lo (i : Nat) (.ref x)) st f y) st) := by simp only [xex, true_and]
theorem xe_iinc (i : Nat) (v : Int) : xex X own ini pl cs ret mc ms post K (.iinc i v) 3 pc lo st f y = (xil (fun x => K (pc + 3) (xst1 lo i (.int (x + Int32.ofInt v))) st f y) (xlg lo i)) := by simp only [xex, true_and]
theorem xe_goto (off : Int) : xex X own ini pl cs ret mc ms post K (.goto off) 3 pc lo st f y = ((pc : Int) + off = (xtg pc off : Int) ∧ K (xtg pc off) lo st f y) := by simp only [xex, true_and]
theorem xe_ldc (i : Nat) : xex X own ini pl cs ret mc ms post K (.ldc i) 2 pc lo st f y = (xil (fun x => K (pc + 2) lo (.int x :: st) f y) (cs i)) := by simp only [xex, true_and]
theorem xe_ldc2_w (i : Nat) : xex X own ini pl cs ret mc ms post K (.ldc2_w i) 3 pc lo st f y = (xll (fun x => K (pc + 3) lo (.long x :: st) f y) (cs i)) := by simp only [xex, true_and]
theorem xe_getfield (i : Nat) : xex X own ini pl cs ret mc ms post K (.getfield i) 3 pc lo st f y = (xs1a (fun a st => xgf (fun v => K (pc + 3) lo (v :: st) f y) (pl i) (f a)) st) := by simp only [xex, true_and]
theorem xe_putfield (i : Nat) : xex X own ini pl cs ret mc ms post K (.putfield i) 3 pc lo st f y = (xsva (fun v a st => xpf ini own v (fun e => K (pc + 3) lo st (xu f a e) y) (pl i) (f a)) st) := by simp only [xex, true_and]
theorem xe_iaload  : xex X own ini pl cs ret mc ms post K (.iaload) 1 pc lo st f y = (xsia (fun i a st => xia (xG X pc lo (.int i :: .ref a :: st) f y) i (fun _ g => K (pc + 1) lo (.int (g i.toNatClampNeg) :: st) f y) (f a)) st) := by simp only [xex, true_and]
theorem xe_baload  : xex X own ini pl cs ret mc ms post K (.baload) 1 pc lo st f y = (xsia (fun i a st => xba (xG X pc lo (.int i :: .ref a :: st) f y) i (fun _ g => K (pc + 1) lo (.int (g i.toNatClampNeg) :: st) f y) (f a)) st) := by simp only [xex, true_and]
theorem xe_laload  : xex X own ini pl cs ret mc ms post K (.laload) 1 pc lo st f y = (xsia (fun i a st => xla (xG X pc lo (.int i :: .ref a :: st) f y) i (fun _ g => K (pc + 1) lo (.long (g i.toNatClampNeg) :: st) f y) (f a)) st) := by simp only [xex, true_and]
theorem xe_aaload  : xex X own ini pl cs ret mc ms post K (.aaload) 1 pc lo st f y = (xsia (fun i a st => xra i (fun _ g => xob (fun b => K (pc + 1) lo (.ref b :: st) f y) (g i.toNatClampNeg)) (f a)) st) := by simp only [xex, true_and]
theorem xe_iastore  : xex X own ini pl cs ret mc ms post K (.iastore) 1 pc lo st f y = (xsiia (fun x i a st => xia False i (fun n g => K (pc + 1) lo st (xu f a (xI n (upd g i.toNatClampNeg x))) y) (f a)) st) := by simp only [xex, true_and]
theorem xe_bastore  : xex X own ini pl cs ret mc ms post K (.bastore) 1 pc lo st f y = (xsiia (fun x i a st => xba False i (fun n g => K (pc + 1) lo st (xu f a (xB n (upd g i.toNatClampNeg x.toInt8.toInt32))) y) (f a)) st) := by simp only [xex, true_and]
theorem xe_lastore  : xex X own ini pl cs ret mc ms post K (.lastore) 1 pc lo st f y = (xslia (fun x i a st => xla False i (fun n g => K (pc + 1) lo st (xu f a (xJ n (vp_updL g i.toNatClampNeg x))) y) (f a)) st) := by simp only [xex, true_and]
theorem xe_aastore  : xex X own ini pl cs ret mc ms post K (.aastore) 1 pc lo st f y = (xsaia (fun b i a st => xno (xra i (fun n g => K (pc + 1) lo st (xu f a (xR n (va_up g i.toNatClampNeg (some b)))) y) (f a)) (f b)) st) := by simp only [xex, true_and]
theorem xe_arraylength  : xex X own ini pl cs ret mc ms post K (.arraylength) 1 pc lo st f y = (xs1a (fun a st => xle (fun n => K (pc + 1) lo (.int (Int32.ofNat n) :: st) f y) (f a)) st) := by simp only [xex, true_and]
theorem xe_ireturn  : xex X own ini pl cs ret mc ms post K (.ireturn) 1 pc lo st f y = (xse1i (fun v => xnr (xG X pc lo [.int v] f y) v (post (some (.int v)) f y.1 ∧ y.2.1 ≤ mc ∧ y.2.2 ≤ ms) ret) st) := by simp only [xex, true_and]
theorem xe_lreturn  : xex X own ini pl cs ret mc ms post K (.lreturn) 1 pc lo st f y = (ret = some .long ∧ xse1l (fun v => post (some (.long v)) f y.1 ∧ y.2.1 ≤ mc ∧ y.2.2 ≤ ms) st) := by simp only [xex, true_and]
theorem xe_areturn  : xex X own ini pl cs ret mc ms post K (.areturn) 1 pc lo st f y = (ret = some (.object RX1) ∧ xse1a (fun v => post (some (.ref v)) f y.1 ∧ y.2.1 ≤ mc ∧ y.2.2 ≤ ms) st) := by simp only [xex, true_and]
theorem xe_return_  : xex X own ini pl cs ret mc ms post K (.return_) 1 pc lo st f y = (xse0 (post none f y.1 ∧ y.2.1 ≤ mc ∧ y.2.2 ≤ ms ∧ ret = none) st) := by simp only [xex, true_and]
theorem xe_if_eq (off : Int) : xex X own ini pl cs ret mc ms post K (.ifCond .eq off) 3 pc lo st f y = (xs1i (fun x st => (pc : Int) + off = (xtg pc off : Int) ∧ (x = 0 → K (xtg pc off) lo st f y) ∧ (¬ x = 0 → K (pc + 3) lo st f y)) st) := by simp only [xex, xjc, xjd, true_and]
theorem xe_icmp_eq (off : Int) : xex X own ini pl cs ret mc ms post K (.if_icmp .eq off) 3 pc lo st f y = (xs2i (fun x b st => (pc : Int) + off = (xtg pc off : Int) ∧ (x = b → K (xtg pc off) lo st f y) ∧ (¬ x = b → K (pc + 3) lo st f y)) st) := by simp only [xex, xjc, xjd, true_and]
theorem xe_if_ne (off : Int) : xex X own ini pl cs ret mc ms post K (.ifCond .ne off) 3 pc lo st f y = (xs1i (fun x st => (pc : Int) + off = (xtg pc off : Int) ∧ (x = 0 → K (pc + 3) lo st f y) ∧ (¬ x = 0 → K (xtg pc off) lo st f y)) st) := by simp only [xex, xjc, xjd, true_and]
theorem xe_icmp_ne (off : Int) : xex X own ini pl cs ret mc ms post K (.if_icmp .ne off) 3 pc lo st f y = (xs2i (fun x b st => (pc : Int) + off = (xtg pc off : Int) ∧ (x = b → K (pc + 3) lo st f y) ∧ (¬ x = b → K (xtg pc off) lo st f y)) st) := by simp only [xex, xjc, xjd, true_and]
theorem xe_if_lt (off : Int) : xex X own ini pl cs ret mc ms post K (.ifCond .lt off) 3 pc lo st f y = (xs1i (fun x st => (pc : Int) + off = (xtg pc off : Int) ∧ (x < 0 → K (xtg pc off) lo st f y) ∧ (¬ x < 0 → K (pc + 3) lo st f y)) st) := by simp only [xex, xjc, xjd, true_and]
theorem xe_icmp_lt (off : Int) : xex X own ini pl cs ret mc ms post K (.if_icmp .lt off) 3 pc lo st f y = (xs2i (fun x b st => (pc : Int) + off = (xtg pc off : Int) ∧ (x < b → K (xtg pc off) lo st f y) ∧ (¬ x < b → K (pc + 3) lo st f y)) st) := by simp only [xex, xjc, xjd, true_and]
theorem xe_if_ge (off : Int) : xex X own ini pl cs ret mc ms post K (.ifCond .ge off) 3 pc lo st f y = (xs1i (fun x st => (pc : Int) + off = (xtg pc off : Int) ∧ (0 ≤ x → K (xtg pc off) lo st f y) ∧ (¬ 0 ≤ x → K (pc + 3) lo st f y)) st) := by simp only [xex, xjc, xjd, true_and]
theorem xe_icmp_ge (off : Int) : xex X own ini pl cs ret mc ms post K (.if_icmp .ge off) 3 pc lo st f y = (xs2i (fun x b st => (pc : Int) + off = (xtg pc off : Int) ∧ (b ≤ x → K (xtg pc off) lo st f y) ∧ (¬ b ≤ x → K (pc + 3) lo st f y)) st) := by simp only [xex, xjc, xjd, true_and]
theorem xe_if_gt (off : Int) : xex X own ini pl cs ret mc ms post K (.ifCond .gt off) 3 pc lo st f y = (xs1i (fun x st => (pc : Int) + off = (xtg pc off : Int) ∧ (0 < x → K (xtg pc off) lo st f y) ∧ (¬ 0 < x → K (pc + 3) lo st f y)) st) := by simp only [xex, xjc, xjd, true_and]
theorem xe_icmp_gt (off : Int) : xex X own ini pl cs ret mc ms post K (.if_icmp .gt off) 3 pc lo st f y = (xs2i (fun x b st => (pc : Int) + off = (xtg pc off : Int) ∧ (b < x → K (xtg pc off) lo st f y) ∧ (¬ b < x → K (pc + 3) lo st f y)) st) := by simp only [xex, xjc, xjd, true_and]
theorem xe_if_le (off : Int) : xex X own ini pl cs ret mc ms post K (.ifCond .le off) 3 pc lo st f y = (xs1i (fun x st => (pc : Int) + off = (xtg pc off : Int) ∧ (x ≤ 0 → K (xtg pc off) lo st f y) ∧ (¬ x ≤ 0 → K (pc + 3) lo st f y)) st) := by simp only [xex, xjc, xjd, true_and]
theorem xe_icmp_le (off : Int) : xex X own ini pl cs ret mc ms post K (.if_icmp .le off) 3 pc lo st f y = (xs2i (fun x b st => (pc : Int) + off = (xtg pc off : Int) ∧ (x ≤ b → K (xtg pc off) lo st f y) ∧ (¬ x ≤ b → K (pc + 3) lo st f y)) st) := by simp only [xex, xjc, xjd, true_and]
theorem xe_invokevirtual (i : Nat) : xex X own ini pl cs ret mc ms post K (.invokevirtual i) 3 pc lo st f y = xG X pc lo st f y := rfl
theorem xe_invokestatic (i : Nat) : xex X own ini pl cs ret mc ms post K (.invokestatic i) 3 pc lo st f y = xG X pc lo st f y := rfl
theorem xe_invokespecial (i : Nat) : xex X own ini pl cs ret mc ms post K (.invokespecial i) 3 pc lo st f y = xG X pc lo st f y := rfl
theorem xe_getstatic (i : Nat) : xex X own ini pl cs ret mc ms post K (.getstatic i) 3 pc lo st f y = xG X pc lo st f y := rfl
theorem xe_new (i : Nat) : xex X own ini pl cs ret mc ms post K (.new i) 3 pc lo st f y = xG X pc lo st f y := rfl
theorem xe_anewarray (i : Nat) : xex X own ini pl cs ret mc ms post K (.anewarray i) 3 pc lo st f y = xG X pc lo st f y := rfl
theorem xe_newarray (t : ArrayType) : xex X own ini pl cs ret mc ms post K (.newarray t) 2 pc lo st f y = xG X pc lo st f y := rfl
theorem xe_tableswitch (d lo0 hi : Int) (os : Array Int) (ln : Nat) : xex X own ini pl cs ret mc ms post K (.tableswitch d lo0 hi os) ln pc lo st f y = xG X pc lo st f y := rfl
end XE
set_option maxHeartbeats 4000000 in
theorem xex_sound {X : xC} {cc : ByteArray} {nL : Nat} {own : String} {hh mc ms : Nat} {ini : Bool} (O : xO X cc nL own hh mc ms ini) {pl : Nat → Option (Nat × Nat)} {cs : Nat → Option Value} {ret : Option FieldType} {post : Option Value → xH → Nat → Prop} {K : Nat → List (Option Value) → List Value → xH → Nat × Nat × Nat → Prop} (hpl : ∀ i q, pl i = some q → xPoolOK own (i, q)) (hcs : ∀ i v, cs i = some v → xCstOK own (i, v)) (hRt : ∀ ty, ret = some ty → xRt X (some ty) mc ms post) (hRv : ret = none → xRt X none mc ms post) (hK : ∀ pc lo st f y, K pc lo st f y → xG X pc lo st f y)
    {i : Instr} {n pc : Nat} {lo : List (Option Value)} {st : List Value} {f : xH} {y : Nat × Nat × Nat} (hd : decode cc pc = .ok (i, n)) (h : xex X own ini pl cs ret mc ms post K i n pc lo st f y) : xG X pc lo st f y := by
  cases i with
  | iconst v =>
    obtain ⟨rfl, h⟩ := h
    exact xg_iconst O hd (hK _ _ _ _ _ h)
  | bipush v =>
    obtain ⟨rfl, h⟩ := h
    exact xg_bipush O hd (hK _ _ _ _ _ h)
  | sipush v =>
    obtain ⟨rfl, h⟩ := h
    exact xg_sipush O hd (hK _ _ _ _ _ h)
  | lconst v =>
    obtain ⟨rfl, h⟩ := h
    exact xg_lconst O hd (hK _ _ _ _ _ h)
  | iadd =>
    obtain ⟨rfl, h⟩ := h
    obtain ⟨x, b, st, rfl, h⟩ := xs2i_s h
    exact xg_iadd O hd (hK _ _ _ _ _ h)
  | isub =>
    obtain ⟨rfl, h⟩ := h
    obtain ⟨x, b, st, rfl, h⟩ := xs2i_s h
    exact xg_isub O hd (hK _ _ _ _ _ h)
  | imul =>
    obtain ⟨rfl, h⟩ := h
    obtain ⟨x, b, st, rfl, h⟩ := xs2i_s h
    exact xg_imul O hd (hK _ _ _ _ _ h)
  | iand =>
    obtain ⟨rfl, h⟩ := h
    obtain ⟨x, b, st, rfl, h⟩ := xs2i_s h
    exact xg_iand O hd (hK _ _ _ _ _ h)
  | ior =>
    obtain ⟨rfl, h⟩ := h
    obtain ⟨x, b, st, rfl, h⟩ := xs2i_s h
    exact xg_ior O hd (hK _ _ _ _ _ h)
  | ixor =>
    obtain ⟨rfl, h⟩ := h
    obtain ⟨x, b, st, rfl, h⟩ := xs2i_s h
    exact xg_ixor O hd (hK _ _ _ _ _ h)
  | ishr =>
    obtain ⟨rfl, h⟩ := h
    obtain ⟨x, b, st, rfl, h⟩ := xs2i_s h
    exact xg_ishr O hd (hK _ _ _ _ _ h)
  | idiv =>
    obtain ⟨rfl, h⟩ := h
    obtain ⟨x, b, st, rfl, h0, h⟩ := xs2i_s h
    exact xg_idiv O hd h0 (hK _ _ _ _ _ h)
  | irem =>
    obtain ⟨rfl, h⟩ := h
    obtain ⟨x, b, st, rfl, h0, h⟩ := xs2i_s h
    exact xg_irem O hd h0 (hK _ _ _ _ _ h)
  | ladd =>
    obtain ⟨rfl, h⟩ := h
    obtain ⟨x, b, st, rfl, h⟩ := xs2l_s h
    exact xg_ladd O hd (hK _ _ _ _ _ h)
  | lsub =>
    obtain ⟨rfl, h⟩ := h
    obtain ⟨x, b, st, rfl, h⟩ := xs2l_s h
    exact xg_lsub O hd (hK _ _ _ _ _ h)
  | lmul =>
    obtain ⟨rfl, h⟩ := h
    obtain ⟨x, b, st, rfl, h⟩ := xs2l_s h
    exact xg_lmul O hd (hK _ _ _ _ _ h)
  | land =>
    obtain ⟨rfl, h⟩ := h
    obtain ⟨x, b, st, rfl, h⟩ := xs2l_s h
    exact xg_land O hd (hK _ _ _ _ _ h)
  | lor =>
    obtain ⟨rfl, h⟩ := h
    obtain ⟨x, b, st, rfl, h⟩ := xs2l_s h
    exact xg_lor O hd (hK _ _ _ _ _ h)
  | ldiv =>
    obtain ⟨rfl, h⟩ := h
    obtain ⟨x, b, st, rfl, h0, h⟩ := xs2l_s h
    exact xg_ldiv O hd h0 (hK _ _ _ _ _ h)
  | lrem =>
    obtain ⟨rfl, h⟩ := h
    obtain ⟨x, b, st, rfl, h0, h⟩ := xs2l_s h
    exact xg_lrem O hd h0 (hK _ _ _ _ _ h)
  | lcmp =>
    obtain ⟨rfl, h⟩ := h
    obtain ⟨x, b, st, rfl, h⟩ := xs2l_s h
    exact xg_lcmp O hd (hK _ _ _ _ _ h)
  | lshr =>
    obtain ⟨rfl, h⟩ := h
    obtain ⟨x, b, st, rfl, h⟩ := xsil_s h
    exact xg_lshr O hd (hK _ _ _ _ _ h)
  | ineg =>
    obtain ⟨rfl, h⟩ := h
    obtain ⟨x, st, rfl, h⟩ := xs1i_s h
    exact xg_ineg O hd (hK _ _ _ _ _ h)
  | i2l =>
    obtain ⟨rfl, h⟩ := h
    obtain ⟨x, st, rfl, h⟩ := xs1i_s h
    exact xg_i2l O hd (hK _ _ _ _ _ h)
  | i2b =>
    obtain ⟨rfl, h⟩ := h
    obtain ⟨x, st, rfl, h⟩ := xs1i_s h
    exact xg_i2b O hd (hK _ _ _ _ _ h)
  | l2i =>
    obtain ⟨rfl, h⟩ := h
    obtain ⟨x, st, rfl, h⟩ := xs1l_s h
    exact xg_l2i O hd (hK _ _ _ _ _ h)
  | dup =>
    obtain ⟨rfl, h⟩ := h
    obtain ⟨v, st, rfl, hv, h⟩ := xs1_s h
    exact xg_dup O hd hv (hK _ _ _ _ _ h)
  | pop =>
    obtain ⟨rfl, h⟩ := h
    obtain ⟨v, st, rfl, hv, h⟩ := xs1_s h
    exact xg_pop O hd hv (hK _ _ _ _ _ h)
  | dup2 =>
    obtain ⟨rfl, h⟩ := h
    obtain ⟨v, w, st, rfl, hv, hw, h⟩ := xs2_s h
    exact xg_dup2 O hd hv hw (hK _ _ _ _ _ h)
  | iload i =>
    obtain ⟨rfl, h⟩ := h
    obtain ⟨x, hg, h⟩ := xil_s h
    exact xg_iload O hd hg (hK _ _ _ _ _ h)
  | iload_n i =>
    obtain ⟨rfl, h⟩ := h
    obtain ⟨x, hg, h⟩ := xil_s h
    exact xg_iload_n O hd hg (hK _ _ _ _ _ h)
  | lload i =>
    obtain ⟨rfl, h⟩ := h
    obtain ⟨x, hg, h⟩ := xll_s h
    exact xg_lload O hd hg (hK _ _ _ _ _ h)
  | lload_n i =>
    obtain ⟨rfl, h⟩ := h
    obtain ⟨x, hg, h⟩ := xll_s h
    exact xg_lload_n O hd hg (hK _ _ _ _ _ h)
  | aload i =>
    obtain ⟨rfl, h⟩ := h
    obtain ⟨x, hg, h⟩ := xal_s h
    exact xg_aload O hd hg (hK _ _ _ _ _ h)
  | aload_n i =>
    obtain ⟨rfl, h⟩ := h
    obtain ⟨x, hg, h⟩ := xal_s h
    exact xg_aload_n O hd hg (hK _ _ _ _ _ h)
  | istore i =>
    obtain ⟨rfl, h⟩ := h
    obtain ⟨x, st, rfl, hi, h⟩ := xs1i_s h
    exact xg_istore O hd hi (hK _ _ _ _ _ h)
  | istore_n i =>
    obtain ⟨rfl, h⟩ := h
    obtain ⟨x, st, rfl, hi, h⟩ := xs1i_s h
    exact xg_istore_n O hd hi (hK _ _ _ _ _ h)
  | lstore i =>
    obtain ⟨rfl, h⟩ := h
    obtain ⟨x, st, rfl, hi, h⟩ := xs1l_s h
    exact xg_lstore O hd hi (hK _ _ _ _ _ h)
  | lstore_n i =>
    obtain ⟨rfl, h⟩ := h
    obtain ⟨x, st, rfl, hi, h⟩ := xs1l_s h
    exact xg_lstore_n O hd hi (hK _ _ _ _ _ h)
  | astore i =>
    obtain ⟨rfl, h⟩ := h
    obtain ⟨x, st, rfl, hi, h⟩ := xs1a_s h
    exact xg_astore O hd hi (hK _ _ _ _ _ h)
  | astore_n i =>
    obtain ⟨rfl, h⟩ := h
    obtain ⟨x, st, rfl, hi, h⟩ := xs1a_s h
    exact xg_astore_n O hd hi (hK _ _ _ _ _ h)
  | iinc i v =>
    obtain ⟨rfl, h⟩ := h
    obtain ⟨x, hg, h⟩ := xil_s h
    exact xg_iinc O hd hg (hK _ _ _ _ _ h)
  | goto off =>
    obtain ⟨rfl, h⟩ := h
    obtain ⟨ht, h⟩ := h
    exact xg_goto O hd ht (hK _ _ _ _ _ h)
  | ldc i =>
    obtain ⟨rfl, h⟩ := h
    obtain ⟨x, hg, h⟩ := xil_s h
    rcases hcs _ _ hg with ⟨x2, e, hc⟩ | ⟨x2, e, -⟩
    · cases e
      exact xg_ldc O hd hc (hK _ _ _ _ _ h)
    · cases e
  | ldc2_w i =>
    obtain ⟨rfl, h⟩ := h
    obtain ⟨x, hg, h⟩ := xll_s h
    rcases hcs _ _ hg with ⟨x2, e, -⟩ | ⟨x2, e, hc⟩
    · cases e
    · cases e
      exact xg_ldc2 O hd hc (hK _ _ _ _ _ h)
  | getfield i =>
    obtain ⟨rfl, h⟩ := h
    obtain ⟨a, st, rfl, h⟩ := xs1a_s h
    obtain ⟨ci, k, fs, h1, h2, h3⟩ := xgf_s h
    obtain ⟨v, h4, h5⟩ := xfv_s h3
    exact xg_getfield O hd (hpl _ _ h1) h2 h4 (hK _ _ _ _ _ h5)
  | putfield i =>
    obtain ⟨rfl, h⟩ := h
    obtain ⟨v, a, st2, e0, h6⟩ := xsva_s h
    subst e0
    obtain ⟨ci, k, fs, h1, h2, h3, h4, h5⟩ := xpf_s h6
    exact xg_putfield O hd (hpl _ _ h1) h2 h3 h4 (hK _ _ _ _ _ h5)
  | iaload =>
    obtain ⟨rfl, h⟩ := h
    obtain ⟨i, a, st, rfl, h⟩ := xsia_s h
    rcases xia_s h with ⟨n0, g, h1, h2, h3⟩ | h
    · exact xg_iaload O hd h1 h2 (hK _ _ _ _ _ h3)
    · exact h
  | baload =>
    obtain ⟨rfl, h⟩ := h
    obtain ⟨i, a, st, rfl, h⟩ := xsia_s h
    rcases xba_s h with ⟨n0, g, h1, h2, h3⟩ | h
    · exact xg_baload O hd h1 h2 (hK _ _ _ _ _ h3)
    · exact h
  | laload =>
    obtain ⟨rfl, h⟩ := h
    obtain ⟨i, a, st, rfl, h⟩ := xsia_s h
    rcases xla_s h with ⟨n0, g, h1, h2, h3⟩ | h
    · exact xg_laload O hd h1 h2 (hK _ _ _ _ _ h3)
    · exact h
  | aaload =>
    obtain ⟨rfl, h⟩ := h
    obtain ⟨i, a, st, rfl, h⟩ := xsia_s h
    obtain ⟨n0, g, h1, h2, h3⟩ := xra_s h
    obtain ⟨b, h4, h5⟩ := xob_s h3
    exact xg_aaload O hd h1 h2 h4 (hK _ _ _ _ _ h5)
  | iastore =>
    obtain ⟨rfl, h⟩ := h
    obtain ⟨x, i, a, st, rfl, h⟩ := xsiia_s h
    rcases xia_s h with ⟨n0, g, h1, h2, h3⟩ | h
    · exact xg_iastore O hd h1 h2 (hK _ _ _ _ _ h3)
    · exact h.elim
  | bastore =>
    obtain ⟨rfl, h⟩ := h
    obtain ⟨x, i, a, st, rfl, h⟩ := xsiia_s h
    rcases xba_s h with ⟨n0, g, h1, h2, h3⟩ | h
    · exact xg_bastore O hd h1 h2 (hK _ _ _ _ _ h3)
    · exact h.elim
  | lastore =>
    obtain ⟨rfl, h⟩ := h
    obtain ⟨x, i, a, st, rfl, h⟩ := xslia_s h
    rcases xla_s h with ⟨n0, g, h1, h2, h3⟩ | h
    · exact xg_lastore O hd h1 h2 (hK _ _ _ _ _ h3)
    · exact h.elim
  | aastore =>
    obtain ⟨rfl, h⟩ := h
    obtain ⟨b, i, a, st, rfl, h⟩ := xsaia_s h
    obtain ⟨⟨fs, h0⟩, h⟩ := xno_s h
    obtain ⟨n0, g, h1, h2, h3⟩ := xra_s h
    exact xg_aastore O hd h1 h0 h2 (hK _ _ _ _ _ h3)
  | arraylength =>
    obtain ⟨rfl, h⟩ := h
    obtain ⟨a, st, rfl, h⟩ := xs1a_s h
    obtain ⟨ty, n0, g, h1, h2⟩ := xle_s h
    exact xg_alen O hd h1 (hK _ _ _ _ _ h2)
  | ireturn =>
    obtain ⟨rfl, h⟩ := h
    obtain ⟨v, rfl, h⟩ := xse1i_s h
    cases ret with
    | none => exact h
    | some ty => exact xg_ireturn O (hRt _ rfl) hd h.1 h.2.1 h.2.2.1 h.2.2.2
  | lreturn =>
    obtain ⟨rfl, h⟩ := h
    obtain ⟨h0, h⟩ := h
    obtain ⟨v, rfl, h⟩ := xse1l_s h
    exact xg_lreturn O (hRt _ h0) hd h.1 h.2.1 h.2.2
  | areturn =>
    obtain ⟨rfl, h⟩ := h
    obtain ⟨h0, h⟩ := h
    obtain ⟨v, rfl, h⟩ := xse1a_s h
    exact xg_areturn O (hRt _ h0) hd h.1 h.2.1 h.2.2
  | return_ =>
    obtain ⟨rfl, h⟩ := h
    obtain ⟨rfl, h⟩ := xse0_s h
    exact xg_return O (hRv h.2.2.2) hd h.1 h.2.1 h.2.2.1
  | ifCond c off =>
    cases c with
    | eq =>
      obtain ⟨x, st, rfl, rfl, ht, h1, h2⟩ := xs1i_s h
      exact xg_if_eq O hd ht (fun q => hK _ _ _ _ _ (h1 q)) (fun q => hK _ _ _ _ _ (h2 q))
    | ne =>
      obtain ⟨x, st, rfl, rfl, ht, h1, h2⟩ := xs1i_s h
      exact xg_if_ne O hd ht (fun q => hK _ _ _ _ _ (h1 q)) (fun q => hK _ _ _ _ _ (h2 q))
    | lt =>
      obtain ⟨x, st, rfl, rfl, ht, h1, h2⟩ := xs1i_s h
      exact xg_if_lt O hd ht (fun q => hK _ _ _ _ _ (h1 q)) (fun q => hK _ _ _ _ _ (h2 q))
    | ge =>
      obtain ⟨x, st, rfl, rfl, ht, h1, h2⟩ := xs1i_s h
      exact xg_if_ge O hd ht (fun q => hK _ _ _ _ _ (h1 q)) (fun q => hK _ _ _ _ _ (h2 q))
    | gt =>
      obtain ⟨x, st, rfl, rfl, ht, h1, h2⟩ := xs1i_s h
      exact xg_if_gt O hd ht (fun q => hK _ _ _ _ _ (h1 q)) (fun q => hK _ _ _ _ _ (h2 q))
    | le =>
      obtain ⟨x, st, rfl, rfl, ht, h1, h2⟩ := xs1i_s h
      exact xg_if_le O hd ht (fun q => hK _ _ _ _ _ (h1 q)) (fun q => hK _ _ _ _ _ (h2 q))
  | if_icmp c off =>
    cases c with
    | eq =>
      obtain ⟨x, b, st, rfl, rfl, ht, h1, h2⟩ := xs2i_s h
      exact xg_icmp_eq O hd ht (fun q => hK _ _ _ _ _ (h1 q)) (fun q => hK _ _ _ _ _ (h2 q))
    | ne =>
      obtain ⟨x, b, st, rfl, rfl, ht, h1, h2⟩ := xs2i_s h
      exact xg_icmp_ne O hd ht (fun q => hK _ _ _ _ _ (h1 q)) (fun q => hK _ _ _ _ _ (h2 q))
    | lt =>
      obtain ⟨x, b, st, rfl, rfl, ht, h1, h2⟩ := xs2i_s h
      exact xg_icmp_lt O hd ht (fun q => hK _ _ _ _ _ (h1 q)) (fun q => hK _ _ _ _ _ (h2 q))
    | ge =>
      obtain ⟨x, b, st, rfl, rfl, ht, h1, h2⟩ := xs2i_s h
      exact xg_icmp_ge O hd ht (fun q => hK _ _ _ _ _ (h1 q)) (fun q => hK _ _ _ _ _ (h2 q))
    | gt =>
      obtain ⟨x, b, st, rfl, rfl, ht, h1, h2⟩ := xs2i_s h
      exact xg_icmp_gt O hd ht (fun q => hK _ _ _ _ _ (h1 q)) (fun q => hK _ _ _ _ _ (h2 q))
    | le =>
      obtain ⟨x, b, st, rfl, rfl, ht, h1, h2⟩ := xs2i_s h
      exact xg_icmp_le O hd ht (fun q => hK _ _ _ _ _ (h1 q)) (fun q => hK _ _ _ _ _ (h2 q))
  | _ => exact h
def xdo (F : Instr → Nat → Prop) : Except DecodeError (Instr × Nat) → Prop
  | .ok (i, n) => F i n
  | .error _ => False
theorem xdo_e (F : Instr → Nat → Prop) (i : Instr) (n : Nat) : xdo F (.ok (i, n)) = F i n := rfl
def xck (X : xC) (sp : List Nat) (R : Nat → List (Option Value) → List Value → xH → Nat × Nat × Nat → Prop) (pc : Nat) (lo : List (Option Value)) (st : List Value) (f : xH) (y : Nat × Nat × Nat) : Prop := if sp.contains pc = true then xG X pc lo st f y else R pc lo st f y
theorem xck_e (X : xC) (sp : List Nat) (R : Nat → List (Option Value) → List Value → xH → Nat × Nat × Nat → Prop) (pc : Nat) (lo : List (Option Value)) (st : List Value) (f : xH) (y : Nat × Nat × Nat) : xck X sp R pc lo st f y = if sp.contains pc = true then xG X pc lo st f y else R pc lo st f y := rfl
/-- the runner: fuel steps, stopping at the places sp -/
def xrun (X : xC) (cc : ByteArray) (own : String) (ini : Bool) (pl : Nat → Option (Nat × Nat)) (cs : Nat → Option Value) (ret : Option FieldType) (mc ms : Nat) (post : Option Value → xH → Nat → Prop) (sp : List Nat) : Nat → Nat → List (Option Value) → List Value → xH → Nat × Nat × Nat → Prop
  | 0, pc, lo, st, f, y => xG X pc lo st f y
  | n + 1, pc, lo, st, f, y => xdo (fun i len => xex X own ini pl cs ret mc ms post (xck X sp (xrun X cc own ini pl cs ret mc ms post sp n)) i len pc lo st f y) (decode cc pc)
theorem xrun_s (X : xC) (cc : ByteArray) (own : String) (ini : Bool) (pl : Nat → Option (Nat × Nat)) (cs : Nat → Option Value) (ret : Option FieldType) (mc ms : Nat) (post : Option Value → xH → Nat → Prop) (sp : List Nat) (n pc : Nat) (lo : List (Option Value)) (st : List Value) (f : xH) (y : Nat × Nat × Nat) : xrun X cc own ini pl cs ret mc ms post sp (n + 1) pc lo st f y = xdo (fun i len => xex X own ini pl cs ret mc ms post (xck X sp (xrun X cc own ini pl cs ret mc ms post sp n)) i len pc lo st f y) (decode cc pc) := rfl
theorem xrun_sound {X : xC} {cc : ByteArray} {nL : Nat} {own : String} {hh mc ms : Nat} {ini : Bool} (O : xO X cc nL own hh mc ms ini) {pl : Nat → Option (Nat × Nat)} {cs : Nat → Option Value} {ret : Option FieldType} {post : Option Value → xH → Nat → Prop} (hpl : ∀ i q, pl i = some q → xPoolOK own (i, q)) (hcs : ∀ i v, cs i = some v → xCstOK own (i, v)) (hRt : ∀ ty, ret = some ty → xRt X (some ty) mc ms post) (hRv : ret = none → xRt X none mc ms post) (sp : List Nat) : ∀ (n pc : Nat) (lo : List (Option Value)) (st : List Value) (f : xH) (y : Nat × Nat × Nat), xrun X cc own ini pl cs ret mc ms post sp n pc lo st f y → xG X pc lo st f y
  | 0, pc, lo, st, f, y, h => h
  | n + 1, pc, lo, st, f, y, h => by
    rw [xrun_s] at h
    cases hd : decode cc pc with
    | error e => rw [hd] at h; exact h.elim
    | ok q =>
      obtain ⟨i, len⟩ := q
      rw [hd, xdo_e] at h
      refine xex_sound O hpl hcs hRt hRv ?_ hd h
      intro pc lo st f y hk
      rw [xck_e] at hk
      split at hk
      · exact hk
      · exact xrun_sound O hpl hcs hRt hRv sp n pc lo st f y hk
theorem xplX0_q (i : Nat) (q : Nat × Nat) (h : xpX0 i = some q) : xPoolOK RX0 (i, q) := xplX0_ok _ (xlook_mem h)
theorem xclX0_q (i : Nat) (v : Value) (h : xcX0 i = some v) : xCstOK RX0 (i, v) := xclX0_ok _ (xlook_mem h)
theorem xplX1_q (i : Nat) (q : Nat × Nat) (h : xpX1 i = some q) : xPoolOK RX1 (i, q) := xplX1_ok _ (xlook_mem h)
theorem xclX1_q (i : Nat) (v : Value) (h : xcX1 i = some v) : xCstOK RX1 (i, v) := xclX1_ok _ (xlook_mem h)
theorem xplX2_q (i : Nat) (q : Nat × Nat) (h : xpX2 i = some q) : xPoolOK RX2 (i, q) := xplX2_ok _ (xlook_mem h)
theorem xclX2_q (i : Nat) (v : Value) (h : xcX2 i = some v) : xCstOK RX2 (i, v) := xclX2_ok _ (xlook_mem h)
theorem xplX3_q (i : Nat) (q : Nat × Nat) (h : xpX3 i = some q) : xPoolOK RX3 (i, q) := xplX3_ok _ (xlook_mem h)
theorem xclX3_q (i : Nat) (v : Value) (h : xcX3 i = some v) : xCstOK RX3 (i, v) := xclX3_ok _ (xlook_mem h)
theorem xplX4_q (i : Nat) (q : Nat × Nat) (h : xpX4 i = some q) : xPoolOK RX4 (i, q) := xplX4_ok _ (xlook_mem h)
theorem xclX4_q (i : Nat) (v : Value) (h : xcX4 i = some v) : xCstOK RX4 (i, v) := xclX4_ok _ (xlook_mem h)
theorem xplX5_q (i : Nat) (q : Nat × Nat) (h : xpX5 i = some q) : xPoolOK RX5 (i, q) := xplX5_ok _ (xlook_mem h)
theorem xclX5_q (i : Nat) (v : Value) (h : xcX5 i = some v) : xCstOK RX5 (i, v) := xclX5_ok _ (xlook_mem h)
theorem xplX6_q (i : Nat) (q : Nat × Nat) (h : xpX6 i = some q) : xPoolOK RX6 (i, q) := xplX6_ok _ (xlook_mem h)
theorem xclX6_q (i : Nat) (v : Value) (h : xcX6 i = some v) : xCstOK RX6 (i, v) := xclX6_ok _ (xlook_mem h)
theorem xplL_q (i : Nat) (q : Nat × Nat) (h : xpL i = some q) : xPoolOK RL (i, q) := xplL_ok _ (xlook_mem h)
theorem xclL_q (i : Nat) (v : Value) (h : xcL i = some v) : xCstOK RL (i, v) := xclL_ok _ (xlook_mem h)
theorem xki_m1 : Int32.ofInt (-1) = (-1) := rfl
theorem xki_0 : Int32.ofInt 0 = 0 := rfl
theorem xki_1 : Int32.ofInt 1 = 1 := rfl
theorem xki_2 : Int32.ofInt 2 = 2 := rfl
theorem xki_3 : Int32.ofInt 3 = 3 := rfl
theorem xki_4 : Int32.ofInt 4 = 4 := rfl
theorem xki_5 : Int32.ofInt 5 = 5 := rfl
theorem xki_8 : Int32.ofInt 8 = 8 := rfl
theorem xkb_m10 : (Int8.ofInt (-10)).toInt32 = (-10) := rfl
theorem xkb_m2 : (Int8.ofInt (-2)).toInt32 = (-2) := rfl
theorem xkb_6 : (Int8.ofInt 6).toInt32 = 6 := rfl
theorem xkb_7 : (Int8.ofInt 7).toInt32 = 7 := rfl
theorem xkb_8 : (Int8.ofInt 8).toInt32 = 8 := rfl
theorem xkb_9 : (Int8.ofInt 9).toInt32 = 9 := rfl
theorem xkb_10 : (Int8.ofInt 10).toInt32 = 10 := rfl
theorem xkb_11 : (Int8.ofInt 11).toInt32 = 11 := rfl
theorem xkb_12 : (Int8.ofInt 12).toInt32 = 12 := rfl
theorem xkb_13 : (Int8.ofInt 13).toInt32 = 13 := rfl
theorem xkb_20 : (Int8.ofInt 20).toInt32 = 20 := rfl
theorem xkb_24 : (Int8.ofInt 24).toInt32 = 24 := rfl
theorem xkb_31 : (Int8.ofInt 31).toInt32 = 31 := rfl
theorem xkb_32 : (Int8.ofInt 32).toInt32 = 32 := rfl
theorem xkb_35 : (Int8.ofInt 35).toInt32 = 35 := rfl
theorem xkb_36 : (Int8.ofInt 36).toInt32 = 36 := rfl
theorem xkb_40 : (Int8.ofInt 40).toInt32 = 40 := rfl
theorem xkb_47 : (Int8.ofInt 47).toInt32 = 47 := rfl
theorem xkb_48 : (Int8.ofInt 48).toInt32 = 48 := rfl
theorem xkb_57 : (Int8.ofInt 57).toInt32 = 57 := rfl
theorem xkb_126 : (Int8.ofInt 126).toInt32 = 126 := rfl
theorem xks_m1024 : (Int16.ofInt (-1024)).toInt32 = (-1024) := rfl
theorem xks_m400 : (Int16.ofInt (-400)).toInt32 = (-400) := rfl
theorem xks_m200 : (Int16.ofInt (-200)).toInt32 = (-200) := rfl
theorem xks_144 : (Int16.ofInt 144).toInt32 = 144 := rfl
theorem xks_150 : (Int16.ofInt 150).toInt32 = 150 := rfl
theorem xks_200 : (Int16.ofInt 200).toInt32 = 200 := rfl
theorem xks_222 : (Int16.ofInt 222).toInt32 = 222 := rfl
theorem xks_300 : (Int16.ofInt 300).toInt32 = 300 := rfl
theorem xks_400 : (Int16.ofInt 400).toInt32 = 400 := rfl
theorem xks_1024 : (Int16.ofInt 1024).toInt32 = 1024 := rfl
theorem xks_2000 : (Int16.ofInt 2000).toInt32 = 2000 := rfl
theorem xkl_0 : Int64.ofNat (((0 : Fin 2) : Nat)) = 0 := rfl
theorem xkl_1 : Int64.ofNat (((1 : Fin 2) : Nat)) = 1 := rfl
