/-! ===== the pure heap: a function from addresses to cells; an array has its component's type, no number of a table ===== -/
abbrev xE : Type := (FieldType × vp_A) ⊕ (Nat × List Value)
abbrev xH : Type := Nat → Option xE
abbrev xI (n : Nat) (g : Nat → Int32) : xE := .inl (.int, n, .inl g)
abbrev xB (n : Nat) (g : Nat → Int32) : xE := .inl (.byte, n, .inl g)
abbrev xJ (n : Nat) (g : Nat → Int64) : xE := .inl (.long, n, .inr (.inl g))
abbrev xR (n : Nat) (g : Nat → Option Nat) : xE := .inl (.object RX1, n, .inr (.inr (.inr (.inr g))))
abbrev xOb (ci : Nat) (fs : List Value) : xE := .inr (ci, fs)
def xu (f : xH) (a : Nat) (e : xE) : xH := fun b => if b = a then some e else f b
theorem xu_s (f : xH) (a : Nat) (e : xE) : xu f a e a = some e := by simp [xu]
theorem xu_n {f : xH} {a b : Nat} {e : xE} (h : b ≠ a) : xu f a e b = f b := by simp [xu, h]
theorem xu_u (f : xH) (a : Nat) (e e' : xE) : xu (xu f a e) a e' = xu f a e' := by
  funext b
  by_cases h : b = a <;> simp [xu, h]
def xAt (D : va_G) (U : State) (a : Nat) (e : xE) (H : Heap) : Prop := match e with
  | .inl r => ∃ cA : ClassId, ArrOfT U cA r.1 ∧ va_RA U cA r.1 ∧ H[a]? = some (vp_cell cA r.2)
  | .inr o => va_at D vwCl (a, .inr o) H
def xP (D : va_G) (U : State) (z0 : Nat) (f : xH) (H : Heap) : Prop := ∀ (a : Nat) (e : xE), f a = some e → z0 ≤ a ∧ xAt D U a e H
theorem xAt.moved {D : va_G} {u U : State} {a : Nat} {e : xE} {H : Heap} (hvm : u.vm.Alike U.vm) (h : xAt D u a e H) : xAt D U a e H := by
  cases e with
  | inl r =>
    obtain ⟨cA, h1, h2, h3⟩ := h
    exact ⟨cA, arrOfT_moved hvm h1, h2.moved hvm, h3⟩
  | inr o => exact h
theorem xAt.kept {D : va_G} {U : State} {a : Nat} {e : xE} {H H1 : Heap} (h : xAt D U a e H) (hq : H1[a]? = H[a]?) : xAt D U a e H1 := by
  cases e with
  | inl r =>
    obtain ⟨cA, h1, h2, h3⟩ := h
    exact ⟨cA, h1, h2, hq.trans h3⟩
  | inr o => exact va_at.kept (q := (a, .inr o)) h hq
theorem xAt.lt {D : va_G} {U : State} {a : Nat} {e : xE} {H : Heap} (h : xAt D U a e H) : a < H.size := by
  cases e with
  | inl r =>
    obtain ⟨cA, h1, h2, h3⟩ := h
    exact (Array.getElem?_eq_some_iff.mp h3).1
  | inr o => exact va_at.lt (q := (a, .inr o)) h
theorem xP.moved {D : va_G} {u U : State} {z0 : Nat} {f : xH} {H : Heap} (hvm : u.vm.Alike U.vm) (h : xP D u z0 f H) : xP D U z0 f H := fun a e he => ⟨(h a e he).1, (h a e he).2.moved hvm⟩
theorem xP.set {D : va_G} {U : State} {z0 : Nat} {f : xH} {H H1 : Heap} {a : Nat} {e : xE} (h : xP D U z0 f H) (hz : z0 ≤ a) (he : xAt D U a e H1) (oq : ∀ q : Nat, q ≠ a → H1[q]? = H[q]?) : xP D U z0 (xu f a e) H1 := by
  intro b e' hb
  by_cases hab : b = a
  · subst hab
    rw [xu_s] at hb
    cases hb
    exact ⟨hz, he⟩
  · rw [xu_n hab] at hb
    exact ⟨(h b e' hb).1, (h b e' hb).2.kept (oq b hab)⟩
theorem xP.push {D : va_G} {U : State} {z0 : Nat} {f : xH} {H H1 : Heap} {e : xE} (h : xP D U z0 f H) (hz : z0 ≤ H.size) (he : xAt D U H.size e H1) (oq : ∀ q : Nat, q < H.size → H1[q]? = H[q]?) : xP D U z0 (xu f H.size e) H1 := by
  intro b e' hb
  by_cases hab : b = H.size
  · subst hab
    rw [xu_s] at hb
    cases hb
    exact ⟨hz, he⟩
  · rw [xu_n hab] at hb
    exact ⟨(h b e' hb).1, (h b e' hb).2.kept (oq b (h b e' hb).2.lt)⟩
/-! ===== what stands in every contract: the tables, the two static arrays, the nest mates' words ===== -/
def xLogs : Nat → Int64 := fun k => match k with
  | 0 => 1099511627776
  | 1 => 0
  | 2 => 0
  | 3 => 1742684699131
  | 4 => 921398386699
  | 5 => 77477612461
  | 6 => 2552986939188
  | 7 => 473184150703
  | 8 => 944846061421
  | 9 => 3086719380096
  | 10 => 573834472137
  | 11 => 15637669288
  | 12 => 3803685290187
  | 13 => 722560678648
  | 14 => 439182775510
  | 15 => 4068676497980
  | 16 => 302231680730
  | _ => 122526729041
def xPrs : Nat → Int32 := fun k => match k with
  | 0 => 2 | 1 => 3 | 2 => 5 | 3 => 7 | 4 => 11 | _ => 13
def xN (U : State) : Prop := va_Nw (.methodLinkNest RX5 9 yX4_init RX5) U ∧ va_Nw (.methodLinkNest RX3 27 yX1_init RX5) U ∧ va_Nw (.methodLinkNest RX2 11 yX1_init RX5) U ∧ va_Nw (.methodLinkNest RX5 38 yX0_init RX5) U ∧ va_Nw (.methodLinkNest RX0 11 yX1_init RX5) U ∧ va_Nw (.fieldLinkNest RX4 74 RX5 "PRIME_VALUES" "[I" RX5) U ∧ va_AO RX1 U
theorem xN.warm {s U : State} (hW : s.WarmedH U.vm) (h : xN s) : xN U := by
  obtain ⟨h1, h2, h3, h4, h5, h6, h7⟩ := h
  exact ⟨h1.warmM hW, h2.warmM hW, h3.warmM hW, h4.warmM hW, h5.warmM hW, h6.warmF hW, h7.moved hW.alike⟩
theorem xN.same {s U : State} (hv : s.vm = U.vm) (h : xN s) : xN U := by
  obtain ⟨h1, h2, h3, h4, h5, h6, h7⟩ := h
  exact ⟨h1.same rfl hv, h2.same rfl hv, h3.same rfl hv, h4.same rfl hv, h5.same rfl hv, h6.same rfl hv, h7.moved (by rw [hv]; exact Vm.Alike.refl _)⟩
def xS (z0 tL tP : Nat) (U : State) (H : Heap) : Prop := va_Z RX1 "LOGS" "[J" (.ref tL) (fun q => z0 ≤ q) U H ∧ va_T .long tL 18 (fun j => .long (xLogs j)) (fun q => z0 ≤ q) U H ∧ va_Z RX5 "PRIME_VALUES" "[I" (.ref tP) (fun q => z0 ≤ q) U H ∧ va_T .int tP 6 (fun j => .int (xPrs j)) (fun q => z0 ≤ q) U H
theorem xS.moved {z0 tL tP : Nat} {u U : State} {H : Heap} (hvm : u.vm.Alike U.vm) (h : xS z0 tL tP u H) : xS z0 tL tP U H := ⟨h.1.moved hvm, h.2.1.moved hvm, h.2.2.1.moved hvm, h.2.2.2.moved hvm⟩
theorem xS.kept {z0 tL tP : Nat} {U : State} {H H1 : Heap} (h : xS z0 tL tP U H) (hq : ∀ a : Nat, a < H.size → ¬ z0 ≤ a → H1[a]? = H[a]?) : xS z0 tL tP U H1 := ⟨h.1.kept hq, h.2.1.kept hq, h.2.2.1.kept hq, h.2.2.2.kept hq⟩
abbrev xV : Type := Launch × va_G × Nat × Nat × Nat
def xRm (hh mc ms : Nat) : Room := { frames := hh, cells := mc, slots := ms, locals := 45 * hh }
def xPre (V : xV) (f : xH) (z : Nat) (U : State) : Prop := U.heap.size = z ∧ xP V.2.1 U V.2.2.1 f U.heap ∧ va_K V.2.1 vwCl [] U ∧ xS V.2.2.1 V.2.2.2.1 V.2.2.2.2 U U.heap ∧ xN U ∧ V.2.2.1 ≤ z
def xQ (V : xV) (post : Option Value → xH → Nat → Prop) : Array Value → State → Outcome → State → Prop := fun _ st oc t => ∃ (r : Option Value) (f' : xH) (z' : Nat), oc = .returned r ∧ post r f' z' ∧ t.heap.size = z' ∧ xP V.2.1 t V.2.2.1 f' t.heap ∧ va_F (fun q => V.2.2.1 ≤ q) st t
/-- a method's contract at one call: arguments av, heap f of z cells: it returns, and 'post' holds of the answer, the new heap and its size -/
def xMet (V : xV) (y : MethodName) (cc : ByteArray) (nL : Nat) (ret : Option FieldType) (hh mc ms : Nat) (av : List Value) (f : xH) (z : Nat) (post : Option Value → xH → Nat → Prop) : Prop :=
  Met V.1 y (.code y cc nL ret :: xTT) (xRm hh mc ms) (va_Pc av (xPre V f z)) (xQ V post) mc ms (fun q => V.2.2.1 ≤ q)
theorem xPc_blind (V : xV) (f : xH) (z : Nat) (av : List Value) : FrameBlind (va_Pc av (xPre V f z)) := by
  intro a U g mk ⟨h1, h2, h3, h4, h5, h6, h7⟩
  exact ⟨h1, h2, fun b e hb => ⟨(h3 b e hb).1, (h3 b e hb).2.moved (u := U) (U := U.calling g mk a) (Vm.Alike.refl U.vm)⟩, va_K.moved (u := U) (U := U.calling g mk a) (Vm.Alike.refl U.vm) h4, xS.moved (u := U) (U := U.calling g mk a) (Vm.Alike.refl U.vm) h5, xN.same (s := U) (U := U.calling g mk a) rfl h6, h7⟩
/-! ===== locals ===== -/
def xlg : List (Option Value) → Nat → Option Value
  | [], _ => none
  | v :: _, 0 => v
  | _ :: l, i + 1 => xlg l i
theorem xlg_0 (v : Option Value) (l : List (Option Value)) : xlg (v :: l) 0 = v := rfl
theorem xlg_c (v : Option Value) (l : List (Option Value)) (i : Nat) : xlg (v :: l) (i + 1) = xlg l i := rfl
def xk2 : Option Value → Option Value
  | some (.long _) => none
  | some (.double _) => none
  | u => u
def xst1 : List (Option Value) → Nat → Value → List (Option Value)
  | [], _, _ => []
  | _ :: l, 0, v => some v :: l
  | u :: l, 1, v => xk2 u :: xst1 l 0 v
  | u :: l, i + 2, v => u :: xst1 l (i + 1) v
def xst2 : List (Option Value) → Nat → Value → List (Option Value)
  | [], _, _ => []
  | [_], 0, v => [some v]
  | _ :: _ :: l, 0, v => some v :: none :: l
  | u :: l, 1, v => xk2 u :: xst2 l 0 v
  | u :: l, i + 2, v => u :: xst2 l (i + 1) v
theorem xk2_spec {u : Option Value} {w : Value} (h : xk2 u = some w) : u = some w ∧ ¬ w.category = 2 := by
  cases u with
  | none => simp [xk2] at h
  | some x => cases x <;> simp [xk2] at h <;> subst h <;> simp [Value.category]
theorem xst1_spec : ∀ (lo : List (Option Value)) (i : Nat) (v : Value) (j : Nat) (w : Value), xlg (xst1 lo i v) j = some w → (j = i ∧ w = v) ∨ (j ≠ i ∧ xlg lo j = some w ∧ ¬ (j + 1 = i ∧ w.category = 2))
  | [], i, v, j, w, h => by simp [xst1, xlg] at h
  | u :: l, 0, v, 0, w, h => by simp [xst1, xlg] at h; exact Or.inl ⟨rfl, h.symm⟩
  | u :: l, 0, v, j + 1, w, h => by simp [xst1, xlg] at h; exact Or.inr ⟨by omega, by simpa [xlg] using h, by omega⟩
  | u :: l, 1, v, 0, w, h => by
    simp [xst1, xlg] at h
    obtain ⟨h1, h2⟩ := xk2_spec h
    exact Or.inr ⟨by omega, by simpa [xlg] using h1, fun q => h2 q.2⟩
  | u :: l, 1, v, j + 1, w, h => by
    simp only [xst1, xlg_c] at h
    rcases xst1_spec l 0 v j w h with ⟨h1, h2⟩ | ⟨h1, h2, h3⟩
    · exact Or.inl ⟨by omega, h2⟩
    · exact Or.inr ⟨by omega, by simpa [xlg] using h2, by omega⟩
  | u :: l, i + 2, v, 0, w, h => by simp [xst1, xlg] at h; exact Or.inr ⟨by omega, by simpa [xlg] using h, by omega⟩
  | u :: l, i + 2, v, j + 1, w, h => by
    simp only [xst1, xlg_c] at h
    rcases xst1_spec l (i + 1) v j w h with ⟨h1, h2⟩ | ⟨h1, h2, h3⟩
    · exact Or.inl ⟨by omega, h2⟩
    · exact Or.inr ⟨by omega, by simpa [xlg] using h2, fun q => h3 ⟨by omega, q.2⟩⟩
theorem xst2_spec : ∀ (lo : List (Option Value)) (i : Nat) (v : Value) (j : Nat) (w : Value), xlg (xst2 lo i v) j = some w → (j = i ∧ w = v) ∨ (j ≠ i ∧ j ≠ i + 1 ∧ xlg lo j = some w ∧ ¬ (j + 1 = i ∧ w.category = 2))
  | [], i, v, j, w, h => by simp [xst2, xlg] at h
  | [u], 0, v, 0, w, h => by simp [xst2, xlg] at h; exact Or.inl ⟨rfl, h.symm⟩
  | [u], 0, v, j + 1, w, h => by simp [xst2, xlg] at h
  | u :: u' :: l, 0, v, 0, w, h => by simp [xst2, xlg] at h; exact Or.inl ⟨rfl, h.symm⟩
  | u :: u' :: l, 0, v, 1, w, h => by simp [xst2, xlg] at h
  | u :: u' :: l, 0, v, j + 2, w, h => by simp [xst2, xlg] at h; exact Or.inr ⟨by omega, by omega, by simpa [xlg] using h, by omega⟩
  | u :: l, 1, v, 0, w, h => by
    simp [xst2, xlg] at h
    obtain ⟨h1, h2⟩ := xk2_spec h
    exact Or.inr ⟨by omega, by omega, by simpa [xlg] using h1, fun q => h2 q.2⟩
  | u :: l, 1, v, j + 1, w, h => by
    simp only [xst2, xlg_c] at h
    rcases xst2_spec l 0 v j w h with ⟨h1, h2⟩ | ⟨h1, h2, h3, h4⟩
    · exact Or.inl ⟨by omega, h2⟩
    · exact Or.inr ⟨by omega, by omega, by simpa [xlg] using h3, by omega⟩
  | u :: l, i + 2, v, 0, w, h => by simp [xst2, xlg] at h; exact Or.inr ⟨by omega, by omega, by simpa [xlg] using h, by omega⟩
  | u :: l, i + 2, v, j + 1, w, h => by
    simp only [xst2, xlg_c] at h
    rcases xst2_spec l (i + 1) v j w h with ⟨h1, h2⟩ | ⟨h1, h2, h3, h4⟩
    · exact Or.inl ⟨by omega, h2⟩
    · exact Or.inr ⟨by omega, by omega, by simpa [xlg] using h3, fun q => h4 ⟨by omega, q.2⟩⟩
theorem xst1_len : ∀ (lo : List (Option Value)) (i : Nat) (v : Value), (xst1 lo i v).length = lo.length
  | [], _, _ => rfl
  | _ :: _, 0, _ => rfl
  | _ :: l, 1, v => by simp [xst1, xst1_len l 0 v]
  | _ :: l, i + 2, v => by simp [xst1, xst1_len l (i + 1) v]
theorem xst2_len : ∀ (lo : List (Option Value)) (i : Nat) (v : Value), (xst2 lo i v).length = lo.length
  | [], _, _ => rfl
  | [_], 0, _ => rfl
  | _ :: _ :: _, 0, _ => rfl
  | _ :: l, 1, v => by simp [xst2, xst2_len l 0 v]
  | _ :: l, i + 2, v => by simp [xst2, xst2_len l (i + 1) v]
def xL (ls : Array Slot) (lo : List (Option Value)) : Prop := ls.size = lo.length ∧ lv_wf ls ∧ ∀ (j : Nat) (w : Value), xlg lo j = some w → ls[j]? = some (.val w)
def xpl (lo : List (Option Value)) : List (Nat × Value) := (List.range lo.length).filterMap (fun j => (xlg lo j).map (fun w => (j, w)))
theorem xlg_lt : ∀ {lo : List (Option Value)} {j : Nat} {w : Value}, xlg lo j = some w → j < lo.length
  | [], _, _, h => by simp [xlg] at h
  | _ :: _, 0, _, _ => by simp
  | _ :: l, j + 1, w, h => by have := xlg_lt (lo := l) (j := j) (w := w) h; simp; omega
theorem xpl_mem {lo : List (Option Value)} {q : Nat × Value} : q ∈ xpl lo ↔ xlg lo q.1 = some q.2 := by
  constructor
  · intro h
    obtain ⟨j, -, hj⟩ := List.mem_filterMap.mp h
    cases hx : xlg lo j with
    | none => rw [hx] at hj; cases hj
    | some w => rw [hx] at hj; cases hj; exact hx
  · intro h
    exact List.mem_filterMap.mpr ⟨q.1, List.mem_range.mpr (xlg_lt h), by rw [h]; rfl⟩
theorem xL.has {ls : Array Slot} {lo : List (Option Value)} (h : xL ls lo) : lv_has ls lo.length (xpl lo) := ⟨h.1, h.2.1, fun q hq => h.2.2 q.1 q.2 (xpl_mem.mp hq)⟩
theorem xL.put1 {ls : Array Slot} {lo : List (Option Value)} {i : Nat} {v : Value} (h : lv_has ls lo.length ((i, v) :: (xpl lo).filter (fun q => !(q.1 == i) && !(q.1 + 1 == i && q.2.category == 2)))) : xL ls (xst1 lo i v) := by
  refine ⟨h.1.trans (xst1_len lo i v).symm, h.2.1, fun j w hj => ?_⟩
  rcases xst1_spec lo i v j w hj with ⟨h1, h2⟩ | ⟨h1, h2, h3⟩
  · subst h1; subst h2
    exact h.2.2 _ List.mem_cons_self
  · refine h.2.2 (j, w) (List.mem_cons_of_mem _ (List.mem_filter.mpr ⟨xpl_mem.mpr h2, ?_⟩))
    simp only [Bool.and_eq_true, Bool.not_eq_true', beq_eq_false_iff_ne, ne_eq, Bool.and_eq_false_iff]
    refine ⟨h1, ?_⟩
    by_cases h4 : j + 1 = i
    · exact Or.inr (fun q => h3 ⟨h4, q⟩)
    · exact Or.inl h4
theorem xL.put2 {ls : Array Slot} {lo : List (Option Value)} {i : Nat} {v : Value} (h : lv_has ls lo.length ((i, v) :: (xpl lo).filter (fun q => !(q.1 == i) && (!(q.1 == i + 1) && !(q.1 + 1 == i && q.2.category == 2))))) : xL ls (xst2 lo i v) := by
  refine ⟨h.1.trans (xst2_len lo i v).symm, h.2.1, fun j w hj => ?_⟩
  rcases xst2_spec lo i v j w hj with ⟨h1, h2⟩ | ⟨h1, h2, h3, h4⟩
  · subst h1; subst h2
    exact h.2.2 _ List.mem_cons_self
  · refine h.2.2 (j, w) (List.mem_cons_of_mem _ (List.mem_filter.mpr ⟨xpl_mem.mpr h3, ?_⟩))
    simp only [Bool.and_eq_true, Bool.not_eq_true', beq_eq_false_iff_ne, ne_eq, Bool.and_eq_false_iff]
    refine ⟨h1, h2, ?_⟩
    by_cases h5 : j + 1 = i
    · exact Or.inr (fun q => h4 ⟨h5, q⟩)
    · exact Or.inl h5
/-- the locals at a method's entry -/
def xent (av : List Value) (nL : Nat) : List (Option Value) := (List.range nL).map (fun i => (lv_args 0 av).lookup i)
theorem xlookup_mem : ∀ {l : List (Nat × Value)} {i : Nat} {w : Value}, l.lookup i = some w → (i, w) ∈ l
  | [], _, _, h => by simp at h
  | (k, v) :: l, i, w, h => by
    by_cases hk : i = k
    · subst hk
      simp [List.lookup] at h
      subst h
      exact List.mem_cons_self
    · have : (i == k) = false := by simpa using hk
      simp only [List.lookup, this] at h
      exact List.mem_cons_of_mem _ (xlookup_mem h)
theorem xlg_get : ∀ (lo : List (Option Value)) (j : Nat), xlg lo j = (lo[j]?).getD none
  | [], _ => by simp [xlg]
  | _ :: _, 0 => by simp [xlg]
  | _ :: l, j + 1 => by simp [xlg, xlg_get l j]
theorem xL.entry {ls : Array Slot} {av : List Value} {nL : Nat} (h : lv_has ls nL (lv_args 0 av)) : xL ls (xent av nL) := by
  refine ⟨by rw [h.1]; simp [xent], h.2.1, fun j w hj => ?_⟩
  rw [xlg_get] at hj
  have hjl : j < nL := by
    rcases Nat.lt_or_ge j nL with q | q
    · exact q
    · exfalso
      simp [xent, q] at hj
  have e : (xent av nL)[j]? = some ((lv_args 0 av).lookup j) := by simp [xent, hjl]
  rw [e] at hj
  exact h.2.2 (j, w) (xlookup_mem hj)
