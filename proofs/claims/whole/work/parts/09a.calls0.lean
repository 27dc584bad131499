section XC0
variable {X : xC} {cc : ByteArray} {nL : Nat} {own : String} {hh mc ms : Nat} {ini : Bool} {pc : Nat} {lo : List (Option Value)} {st : List Value} {f : xH} {y : Nat × Nat × Nat}
/-- calls of methods that make nothing, by what they answer -/
theorem xg_callVi {Qp : Int32 → xH → Prop} (O : xO X cc nL own hh mc ms ini) {idx n nLy h b ci : Nat} {y' : MethodName} {cy : ByteArray} {ret : Option FieldType} {As fs : List Value} (hd : decode cc pc = .ok (.invokevirtual idx, 3)) (hl : xCV own idx y') (hc : xCode y' cy nLy ret n) (hM : xMet (xCv X) y' cy nLy ret h 0 0 (.ref b :: As) f y.1 (fun r f' z' => ∃ v, r = some (.int v) ∧ Qp v f' ∧ z' = y.1))
    (hb0 : f b = some (xOb ci fs)) {r : vw_C} (hr : vwCl[ci]? = some r) (hC : y'.cls = r.1) (hn : As.length = n) (hh1 : h + 1 ≤ hh) (hlo : lo.length = nL) (hrest : (st.map fun v => v.category).sum ≤ 8) (hmc : y.2.1 + 0 ≤ mc) (hms : y.2.2 + 0 ≤ ms)
    (k : ∀ (v : Int32) (f' : xH), Qp v f' → xG X (pc + 3) lo (.int v :: st) f' y) : xG X pc lo (As.reverse ++ .ref b :: st) f y := by
  refine xg_callV O hd hl hc hM hb0 hr hC hn hh1 hlo hrest hmc hms (fun r f' z' hq => ?_)
  obtain ⟨v, rfl, h1, rfl⟩ := hq
  exact k v f' h1
theorem xg_callSi {Qp : Int32 → xH → Prop} (O : xO X cc nL own hh mc ms ini) {idx n nLy h : Nat} {y' : MethodName} {cy : ByteArray} {ret : Option FieldType} {As : List Value} (hd : decode cc pc = .ok (.invokestatic idx, 3)) (hl : xCS own idx y') (hc : xCode y' cy nLy ret n) (hM : xMet (xCv X) y' cy nLy ret h 0 0 As f y.1 (fun r f' z' => ∃ v, r = some (.int v) ∧ Qp v f' ∧ z' = y.1))
    (hn : As.length = n) (hh1 : h + 1 ≤ hh) (hlo : lo.length = nL) (hrest : (st.map fun v => v.category).sum ≤ 8) (hmc : y.2.1 + 0 ≤ mc) (hms : y.2.2 + 0 ≤ ms)
    (k : ∀ (v : Int32) (f' : xH), Qp v f' → xG X (pc + 3) lo (.int v :: st) f' y) : xG X pc lo (As.reverse ++ st) f y := by
  refine xg_callS O hd hl hc hM hn hh1 hlo hrest hmc hms (fun r f' z' hq => ?_)
  obtain ⟨v, rfl, h1, rfl⟩ := hq
  exact k v f' h1
theorem xg_callVl {Qp : Int64 → xH → Prop} (O : xO X cc nL own hh mc ms ini) {idx n nLy h b ci : Nat} {y' : MethodName} {cy : ByteArray} {ret : Option FieldType} {As fs : List Value} (hd : decode cc pc = .ok (.invokevirtual idx, 3)) (hl : xCV own idx y') (hc : xCode y' cy nLy ret n) (hM : xMet (xCv X) y' cy nLy ret h 0 0 (.ref b :: As) f y.1 (fun r f' z' => ∃ v, r = some (.long v) ∧ Qp v f' ∧ z' = y.1))
    (hb0 : f b = some (xOb ci fs)) {r : vw_C} (hr : vwCl[ci]? = some r) (hC : y'.cls = r.1) (hn : As.length = n) (hh1 : h + 1 ≤ hh) (hlo : lo.length = nL) (hrest : (st.map fun v => v.category).sum ≤ 8) (hmc : y.2.1 + 0 ≤ mc) (hms : y.2.2 + 0 ≤ ms)
    (k : ∀ (v : Int64) (f' : xH), Qp v f' → xG X (pc + 3) lo (.long v :: st) f' y) : xG X pc lo (As.reverse ++ .ref b :: st) f y := by
  refine xg_callV O hd hl hc hM hb0 hr hC hn hh1 hlo hrest hmc hms (fun r f' z' hq => ?_)
  obtain ⟨v, rfl, h1, rfl⟩ := hq
  exact k v f' h1
theorem xg_callSl {Qp : Int64 → xH → Prop} (O : xO X cc nL own hh mc ms ini) {idx n nLy h : Nat} {y' : MethodName} {cy : ByteArray} {ret : Option FieldType} {As : List Value} (hd : decode cc pc = .ok (.invokestatic idx, 3)) (hl : xCS own idx y') (hc : xCode y' cy nLy ret n) (hM : xMet (xCv X) y' cy nLy ret h 0 0 As f y.1 (fun r f' z' => ∃ v, r = some (.long v) ∧ Qp v f' ∧ z' = y.1))
    (hn : As.length = n) (hh1 : h + 1 ≤ hh) (hlo : lo.length = nL) (hrest : (st.map fun v => v.category).sum ≤ 8) (hmc : y.2.1 + 0 ≤ mc) (hms : y.2.2 + 0 ≤ ms)
    (k : ∀ (v : Int64) (f' : xH), Qp v f' → xG X (pc + 3) lo (.long v :: st) f' y) : xG X pc lo (As.reverse ++ st) f y := by
  refine xg_callS O hd hl hc hM hn hh1 hlo hrest hmc hms (fun r f' z' hq => ?_)
  obtain ⟨v, rfl, h1, rfl⟩ := hq
  exact k v f' h1
theorem xg_callVa {Qp : Nat → xH → Prop} (O : xO X cc nL own hh mc ms ini) {idx n nLy h b ci : Nat} {y' : MethodName} {cy : ByteArray} {ret : Option FieldType} {As fs : List Value} (hd : decode cc pc = .ok (.invokevirtual idx, 3)) (hl : xCV own idx y') (hc : xCode y' cy nLy ret n) (hM : xMet (xCv X) y' cy nLy ret h 0 0 (.ref b :: As) f y.1 (fun r f' z' => ∃ v, r = some (.ref v) ∧ Qp v f' ∧ z' = y.1))
    (hb0 : f b = some (xOb ci fs)) {r : vw_C} (hr : vwCl[ci]? = some r) (hC : y'.cls = r.1) (hn : As.length = n) (hh1 : h + 1 ≤ hh) (hlo : lo.length = nL) (hrest : (st.map fun v => v.category).sum ≤ 8) (hmc : y.2.1 + 0 ≤ mc) (hms : y.2.2 + 0 ≤ ms)
    (k : ∀ (v : Nat) (f' : xH), Qp v f' → xG X (pc + 3) lo (.ref v :: st) f' y) : xG X pc lo (As.reverse ++ .ref b :: st) f y := by
  refine xg_callV O hd hl hc hM hb0 hr hC hn hh1 hlo hrest hmc hms (fun r f' z' hq => ?_)
  obtain ⟨v, rfl, h1, rfl⟩ := hq
  exact k v f' h1
theorem xg_callSa {Qp : Nat → xH → Prop} (O : xO X cc nL own hh mc ms ini) {idx n nLy h : Nat} {y' : MethodName} {cy : ByteArray} {ret : Option FieldType} {As : List Value} (hd : decode cc pc = .ok (.invokestatic idx, 3)) (hl : xCS own idx y') (hc : xCode y' cy nLy ret n) (hM : xMet (xCv X) y' cy nLy ret h 0 0 As f y.1 (fun r f' z' => ∃ v, r = some (.ref v) ∧ Qp v f' ∧ z' = y.1))
    (hn : As.length = n) (hh1 : h + 1 ≤ hh) (hlo : lo.length = nL) (hrest : (st.map fun v => v.category).sum ≤ 8) (hmc : y.2.1 + 0 ≤ mc) (hms : y.2.2 + 0 ≤ ms)
    (k : ∀ (v : Nat) (f' : xH), Qp v f' → xG X (pc + 3) lo (.ref v :: st) f' y) : xG X pc lo (As.reverse ++ st) f y := by
  refine xg_callS O hd hl hc hM hn hh1 hlo hrest hmc hms (fun r f' z' hq => ?_)
  obtain ⟨v, rfl, h1, rfl⟩ := hq
  exact k v f' h1
theorem xg_callVv {Qp : xH → Prop} (O : xO X cc nL own hh mc ms ini) {idx n nLy h b ci : Nat} {y' : MethodName} {cy : ByteArray} {ret : Option FieldType} {As fs : List Value} (hd : decode cc pc = .ok (.invokevirtual idx, 3)) (hl : xCV own idx y') (hc : xCode y' cy nLy ret n) (hM : xMet (xCv X) y' cy nLy ret h 0 0 (.ref b :: As) f y.1 (fun r f' z' => r = none ∧ Qp f' ∧ z' = y.1))
    (hb0 : f b = some (xOb ci fs)) {r : vw_C} (hr : vwCl[ci]? = some r) (hC : y'.cls = r.1) (hn : As.length = n) (hh1 : h + 1 ≤ hh) (hlo : lo.length = nL) (hrest : (st.map fun v => v.category).sum ≤ 8) (hmc : y.2.1 + 0 ≤ mc) (hms : y.2.2 + 0 ≤ ms)
    (k : ∀ (f' : xH), Qp f' → xG X (pc + 3) lo st f' y) : xG X pc lo (As.reverse ++ .ref b :: st) f y := by
  refine xg_callV O hd hl hc hM hb0 hr hC hn hh1 hlo hrest hmc hms (fun r f' z' hq => ?_)
  obtain ⟨rfl, h1, rfl⟩ := hq
  exact k f' h1
theorem xg_callSv {Qp : xH → Prop} (O : xO X cc nL own hh mc ms ini) {idx n nLy h : Nat} {y' : MethodName} {cy : ByteArray} {ret : Option FieldType} {As : List Value} (hd : decode cc pc = .ok (.invokestatic idx, 3)) (hl : xCS own idx y') (hc : xCode y' cy nLy ret n) (hM : xMet (xCv X) y' cy nLy ret h 0 0 As f y.1 (fun r f' z' => r = none ∧ Qp f' ∧ z' = y.1))
    (hn : As.length = n) (hh1 : h + 1 ≤ hh) (hlo : lo.length = nL) (hrest : (st.map fun v => v.category).sum ≤ 8) (hmc : y.2.1 + 0 ≤ mc) (hms : y.2.2 + 0 ≤ ms)
    (k : ∀ (f' : xH), Qp f' → xG X (pc + 3) lo st f' y) : xG X pc lo (As.reverse ++ st) f y := by
  refine xg_callS O hd hl hc hM hn hh1 hlo hrest hmc hms (fun r f' z' hq => ?_)
  obtain ⟨rfl, h1, rfl⟩ := hq
  exact k f' h1
/-- System.arraycopy between two rows of ints -/
theorem xg_arraycopy (O : xO X cc nL own hh mc ms ini) {idx a a0 n0 n1 : Nat} {g0 g1 : Nat → Int32} {sp dp n : Int32} (hd : decode cc pc = .ok (.invokestatic idx, 3)) (hl : Cond.methodLink own idx arraycopyName ∈ xTT) (hf0 : f a0 = some (xI n0 g0)) (hf1 : f a = some (xI n1 g1))
    (h1 : ¬ sp < 0) (h2 : ¬ dp < 0) (h3 : ¬ n < 0) (h4 : sp.toNatClampNeg + n.toNatClampNeg ≤ n0) (h5 : dp.toNatClampNeg + n.toNatClampNeg ≤ n1) (hh1 : 1 ≤ hh) (hlo : lo.length = nL) (hrest : (st.map fun v => v.category).sum ≤ 8)
    (k : xG X (pc + 3) lo st (xu f a (xI n1 (va_cpy g0 g1 sp.toNatClampNeg dp.toNatClampNeg n.toNatClampNeg))) y) : xG X pc lo (.int n :: .int dp :: .ref a :: .int sp :: .ref a0 :: st) f y := by
  intro H locs ls hz hP hS hL
  have nn : ∀ z : Int32, ¬ z < 0 → z.toInt = (z.toNatClampNeg : Int) := by
    intro z hz
    have hz0 : (0 : Int) ≤ z.toInt := by
      have := Int32.not_lt.mp hz
      simpa using Int32.le_iff_toInt_le.mp this
    show z.toInt = ((z.toInt.toNat : Nat) : Int)
    omega
  obtain ⟨hR1, hR2, hR3, hR4⟩ := O.hR
  obtain ⟨ha00, c0, A0, B0, hc0⟩ := hP a0 _ hf0
  obtain ⟨ha10, c1, A1, B1, hc1⟩ := hP a _ hf1
  intro T hT XX
  obtain ⟨-, k0, hk0, cm0, hkk0⟩ := A0 n0 (fun j => .int (g0 j))
  obtain ⟨-, k1, hk1, cm1, hkk1⟩ := A1 n1 (fun j => .int (g1 j))
  obtain ⟨vm', X', step⟩ := XX.arraycopy O.hx O.hown (O.hts _ hl) (O.hts _ xo_copy.1) (O.hts _ xo_copy.2.1) (O.hts _ xo_copy.2.2) (src := a0) (dst := a) (cs := vp_cell c0 (n0, .inl g0)) (cd := vp_cell c1 (n1, .inl g1)) (srcPos := sp) (destPos := dp) (n := n) (by rw [hT]; exact hc0) (by rw [hT]; exact hc1)
    (fun _ h => by cases h) (fun _ h => by cases h) (fun h => by cases h) (fun h => by cases h) hk0 hk1 hkk0 hkk1 (by first | simp [refKind] | rfl | decide) h1 h2 h3
    (by rw [nn sp h1, nn n h3]; show ¬ _ > ((arrV c0 n0 (fun j => .int (g0 j))).slots.size : Int); rw [arrV_size]; omega)
    (by rw [nn dp h2, nn n h3]; show ¬ _ > ((arrV c1 n1 (fun j => .int (g1 j))).slots.size : Int); rw [arrV_size]; omega)
    (fun vm₁ _ i hi => by
      have e : (vp_cell c0 (n0, .inl g0)).slots.getD (sp.toNatClampNeg + i) .null = .int (g0 (sp.toNatClampNeg + i)) := by
        show (arrV c0 n0 (fun j => .int (g0 j))).slots.getD _ _ = _
        rw [Array.getD_eq_getD_getElem?, arrV_read _ _ (by omega)]
        rfl
      refine ⟨?_, ?_⟩
      · rw [e]
        rfl
      · rw [e]
        exact trivial)
    (g := F0 (xCm X) pc ls (.int n :: .int dp :: .ref a :: .int sp :: .ref a0 :: st)) rfl (by rw [O.hml]; exact hL.1.trans hlo) (rest := st) rfl (by rw [O.hb]; exact hd) (by omega) (by
      have e9 : nativeFrameWords "java/lang/System" "arraycopy" 5 ≤ 20 := by decide +kernel
      show 2 * 0 + _ + _ ≤ _
      omega)
  have e1 : copied (vp_cell c0 (n0, .inl g0)) (vp_cell c1 (n1, .inl g1)) sp dp n = vp_cell c1 (n1, .inl (va_cpy g0 g1 sp.toNatClampNeg dp.toNatClampNeg n.toNatClampNeg)) := va_copied (fun z => .int z) c0 c1 g0 g1 h4
  rw [e1] at X' step
  have hl2 : a < H.size := (Array.getElem?_eq_some_iff.mp hc1).1
  have hheap : ((T.setVm vm').setCell a (vp_cell c1 (n1, .inl (va_cpy g0 g1 sp.toNatClampNeg dp.toNatClampNeg n.toNatClampNeg)))).heap = H.setIfInBounds a (vp_cell c1 (n1, .inl (va_cpy g0 g1 sp.toNatClampNeg dp.toNatClampNeg n.toNatClampNeg))) := by rw [← hT]; rfl
  have oq : ∀ q : Nat, q ≠ a → (H.setIfInBounds a (vp_cell c1 (n1, .inl (va_cpy g0 g1 sp.toNatClampNeg dp.toNatClampNeg n.toNatClampNeg))))[q]? = H[q]? := fun q hq => by simp [Array.getElem?_setIfInBounds, Ne.symm hq]
  obtain ⟨t, a1, b1⟩ := k _ _ ls (by rw [Array.size_setIfInBounds]; exact hz) (hP.set ha10 ⟨c1, A1, B1, (show (H.setIfInBounds a _)[a]? = some _ by simp [Array.getElem?_setIfInBounds, hl2])⟩ oq) ⟨by simp; exact hS.1, fun q g1 g2 => by
      rw [oq q (fun e => g2 (by rw [e]; exact ha10))]
      exact hS.2.1 q g1 g2, fun q hq => by
      rcases List.mem_append.mp hq with h | h
      · exact hS.2.2 q h
      · obtain ⟨z, -, hz⟩ := List.mem_map.mp h
        rw [← hz]
        exact ha10⟩ hL _ hheap X'
  exact ⟨t, step t a1, b1⟩
end XC0
def xp0 : Nat → Option (Nat × Nat) := fun _ => none
def xc0 : Nat → Option Value := fun _ => none
theorem xpl0_q {own : String} (i : Nat) (q : Nat × Nat) (h : xp0 i = some q) : xPoolOK own (i, q) := by cases h
theorem xcl0_q {own : String} (i : Nat) (v : Value) (h : xc0 i = some v) : xCstOK own (i, v) := by cases h
theorem xu_id {f : xH} {a : Nat} {e : xE} (h : f a = some e) : xu f a e = f := by
  funext b
  by_cases hb : b = a
  · subst hb; rw [xu_s, h]
  · rw [xu_n hb]
theorem xu_comm {f : xH} {a b : Nat} {e e' : xE} (h : a ≠ b) : xu (xu f a e) b e' = xu (xu f b e') a e := by
  funext c
  by_cases h1 : c = a
  · subst h1
    rw [xu_n h, xu_s, xu_s]
  · rw [xu_n (a := a) h1]
    by_cases h2 : c = b
    · subst h2
      rw [xu_s, xu_s]
    · rw [xu_n h2, xu_n h2, xu_n h1]
