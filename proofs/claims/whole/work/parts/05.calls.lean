/-! ===== calls, makings, statics ===== -/
theorem xgood (l : List Cond) (y : MethodName) (cy : ByteArray) (nL : Nat) (ret : Option FieldType) (hc : Cond.code y cy nL ret ∈ xTT) (hl : ∀ w ∈ l, w ∈ xTT) : GoodIn xTT (l ++ (Cond.code y cy nL ret :: xTT)) := by
  intro w hw
  have h : w ∈ xTT := by
    rcases List.mem_append.mp hw with h | h
    · exact hl w h
    · rcases List.mem_cons.mp h with h | h
      · rw [h]; exact hc
      · exact h
  exact ⟨h, xtt_good h⟩
section XCALL
variable {X : xC} {cc : ByteArray} {nL : Nat} {own : String} {hh mc ms : Nat} {ini : Bool} {pc : Nat} {lo : List (Option Value)} {st : List Value} {f : xH} {y : Nat × Nat × Nat}
theorem xO.fix (O : xO X cc nL own hh mc ms ini) : CallFix (xCp X) (xCm X) (xCc X) cc nL (xCs X) (xCa X) xTT own := ⟨O.hx, O.hb, O.hml, O.hown, O.hts⟩
/-- the caller's world at the callee's entry -/
theorem xO.pre (O : xO X cc nL own hh mc ms ini) {H : Heap} {locs : List Loc} (hz : H.size = y.1) (hP : xP (xCD X) (xCs X) (xCz X) f H) (hS : va_S (xA X) (xCs X).heap H locs) : ∀ U : State, U.heap = H → (xCs X).WarmedH U.vm → xPre (xCv X) f y.1 U := by
  intro U hU hW
  refine ⟨by rw [hU]; exact hz, by rw [hU]; exact hP.moved hW.alike, va_K.moved hW.alike O.hK, ?_, O.hN.warm hW, ?_⟩
  · rw [hU]
    exact (O.hS.kept (fun a h1 h2 => hS.2.1 a h1 h2)).moved hW.alike
  · exact Nat.le_trans O.hz (Nat.le_trans hS.1 (Nat.le_of_eq hz))
/-- behind a call -/
theorem xg_back {y' : MethodName} {mc' ms' : Nat} {post : Option Value → xH → Nat → Prop} {rest : List Value} {a : Array Value} {H : Heap} {locs : List Loc} {ls : Array Slot} {st0 : List Value} (hz : H.size = y.1) (hS : va_S (xA X) (xCs X).heap H locs) (hL : xL ls lo)
    (hr : va_Run (xCp X) (xCl X) (xCe X) (xCR X) (xCs X) (xCm X) (xCa X) (xCb X) (xCh X) (xCc X) H locs y.2.1 y.2.2 mc' ms' (F0 (xCm X) pc ls st0) rest (xQ (xCv X) post a) (fun q => xCz X ≤ q))
    (k : ∀ (r : Option Value) (f' : xH) (z' : Nat), post r f' z' → xG X (pc + 3) lo (r.toList ++ rest) f' (z', y.2.1 + mc', y.2.2 + ms')) : xW X H locs y.2.1 y.2.2 (F0 (xCm X) pc ls st0) := by
  intro T hT XX
  obtain ⟨v, st₀, t, T', L, h0, X', hL', e1, e2, ⟨r, f', z', hv, hp, hz', hP', hF⟩, go⟩ := hr T hT XX
  cases hv
  have hal : t.vm.Alike (xCs X).vm := by rw [← e2]; exact X'.warmed.alike.symm
  have hsz : H.size ≤ t.heap.size := by rw [← h0]; exact hF.1
  obtain ⟨t2, a1, b1⟩ := k v f' z' hp T'.heap (locs ++ L) ls (by rw [e1]; exact hz') (by rw [e1]; exact hP'.moved hal)
    ⟨by rw [e1]; exact Nat.le_trans hS.1 hsz, fun q h1 h2 => by
      rw [e1, hF.2 q (by rw [h0]; exact Nat.lt_of_lt_of_le h1 hS.1) h2, h0]
      exact hS.2.1 q h1 h2, fun q hq => by
      rcases List.mem_append.mp hq with h | h
      · exact hS.2.2 q h
      · exact hL' q h⟩ hL T' rfl X'
  exact ⟨t2, go t2 a1, b1⟩
theorem xroom {rest : List Value} {pc0 : Nat} {ls : Array Slot} {m : MethodId} {st0 : List Value} (h : (rest.map fun v => v.category).sum ≤ 8) : 2 * (F0 m pc0 ls st0).monitorRoom + (rest.map fun v => v.category).sum ≤ 8 := lv_room h
/-- invokevirtual -/
theorem xg_callV (O : xO X cc nL own hh mc ms ini) {idx n nLy h mc' ms' b ci : Nat} {y' : MethodName} {cy : ByteArray} {ret : Option FieldType} {As fs : List Value} {post : Option Value → xH → Nat → Prop} (hd : decode cc pc = .ok (.invokevirtual idx, 3)) (hl : xCV own idx y') (hc : xCode y' cy nLy ret n) (hM : xMet (xCv X) y' cy nLy ret h mc' ms' (.ref b :: As) f y.1 post)
    (hb0 : f b = some (xOb ci fs)) {r : vw_C} (hr : vwCl[ci]? = some r) (hC : y'.cls = r.1) (hn : As.length = n) (hh1 : h + 1 ≤ hh) (hlo : lo.length = nL) (hrest : (st.map fun v => v.category).sum ≤ 8) (hmc : y.2.1 + mc' ≤ mc) (hms : y.2.2 + ms' ≤ ms)
    (k : ∀ (r : Option Value) (f' : xH) (z' : Nat), post r f' z' → xG X (pc + 3) lo (r.toList ++ st) f' (z', y.2.1 + mc', y.2.2 + ms')) : xG X pc lo (As.reverse ++ .ref b :: st) f y := by
  intro H locs ls hz hP hS hL
  obtain ⟨hR1, hR2, hR3, hR4⟩ := O.hR
  obtain ⟨c1, c2, c3, c4, c5, c6⟩ := hc
  refine xg_back (y' := y') hz hS hL (va_runV (n := n) O.fix hM (cwV (C := y'.cls) n O.hts (xgood _ y' cy nLy ret c1 ?_) rfl rfl rfl ⟨rfl, c3, c4, c5⟩ ⟨?_, ?_⟩) ⟨xPc_blind _ _ _ _, ?_, fun U hU hW => ⟨rfl, O.pre hz hP hS U hU hW⟩⟩ rfl hn (hL.1.trans hlo) rfl (xroom hrest) hd ⟨by omega, by omega⟩) k
  · intro w hw
    simp only [List.mem_cons, List.not_mem_nil, or_false] at hw
    rcases hw with rfl | rfl | rfl | rfl
    · exact hl.1
    · exact hl.2.1
    · exact hl.2.2
    · exact c2
  · show h + 1 ≤ _; omega
  · show 8 + (nLy + 11) + 45 * h ≤ _; omega
  · obtain ⟨-, r2, h2, cell, g1, g2, g3, -⟩ := hP b _ hb0
    cases hr.symm.trans h2
    exact ⟨cell, g1, by rw [g3]; rfl, by rw [g2, hC]; exact (O.hK.1 ci r hr).2.1⟩
/-- invokestatic -/
theorem xg_callS (O : xO X cc nL own hh mc ms ini) {idx n nLy h mc' ms' : Nat} {y' : MethodName} {cy : ByteArray} {ret : Option FieldType} {As : List Value} {post : Option Value → xH → Nat → Prop} (hd : decode cc pc = .ok (.invokestatic idx, 3)) (hl : xCS own idx y') (hc : xCode y' cy nLy ret n) (hM : xMet (xCv X) y' cy nLy ret h mc' ms' As f y.1 post)
    (hn : As.length = n) (hh1 : h + 1 ≤ hh) (hlo : lo.length = nL) (hrest : (st.map fun v => v.category).sum ≤ 8) (hmc : y.2.1 + mc' ≤ mc) (hms : y.2.2 + ms' ≤ ms)
    (k : ∀ (r : Option Value) (f' : xH) (z' : Nat), post r f' z' → xG X (pc + 3) lo (r.toList ++ st) f' (z', y.2.1 + mc', y.2.2 + ms')) : xG X pc lo (As.reverse ++ st) f y := by
  intro H locs ls hz hP hS hL
  obtain ⟨hR1, hR2, hR3, hR4⟩ := O.hR
  obtain ⟨c1, c2, c3, c4, c5, c6⟩ := hc
  refine xg_back (y' := y') hz hS hL (va_runS (n := n) O.fix hM (va_cwS n O.hts (xgood _ y' cy nLy ret c1 ?_) rfl rfl rfl ⟨c3, c4, c5⟩ ⟨?_, ?_⟩) ⟨xPc_blind _ _ _ _, fun U hU hW => ⟨rfl, O.pre hz hP hS U hU hW⟩⟩ rfl hn (hL.1.trans hlo) rfl (xroom hrest) hd ⟨by omega, by omega⟩) k
  · intro w hw
    simp only [List.mem_cons, List.not_mem_nil, or_false] at hw
    rcases hw with rfl | rfl | rfl
    · exact hl.1
    · exact hl.2
    · exact c2
  · show h + 1 ≤ _; omega
  · show 8 + (nLy + 11) + 45 * h ≤ _; omega
/-- invokespecial of a constructor that isn't private -/
theorem xg_callI (O : xO X cc nL own hh mc ms ini) {idx n nLy h mc' ms' b : Nat} {y' : MethodName} {cy : ByteArray} {As : List Value} {post : Option Value → xH → Nat → Prop} (hd : decode cc pc = .ok (.invokespecial idx, 3)) (hl : Cond.methodLink own idx y' ∈ xTT ∧ Cond.instanceMethod y' ∈ xTT) (hy1 : y'.name = "<init>") (hc : xCode y' cy nLy none n) (hM : xMet (xCv X) y' cy nLy none h mc' ms' (.ref b :: As) f y.1 post)
    (hn : As.length = n) (hh1 : h + 1 ≤ hh) (hlo : lo.length = nL) (hrest : (st.map fun v => v.category).sum ≤ 8) (hmc : y.2.1 + mc' ≤ mc) (hms : y.2.2 + ms' ≤ ms)
    (k : ∀ (r : Option Value) (f' : xH) (z' : Nat), post r f' z' → xG X (pc + 3) lo (r.toList ++ st) f' (z', y.2.1 + mc', y.2.2 + ms')) : xG X pc lo (As.reverse ++ .ref b :: st) f y := by
  intro H locs ls hz hP hS hL
  obtain ⟨hR1, hR2, hR3, hR4⟩ := O.hR
  obtain ⟨c1, c2, c3, c4, c5, c6⟩ := hc
  refine xg_back (y' := y') hz hS hL (va_runI (n := n) O.fix hM (cwI n O.hts (xgood [] y' cy nLy none c1 (fun w hw => absurd hw List.not_mem_nil)) rfl rfl rfl (O.hts _ c2) (O.hts _ hl.1) (O.hts _ hl.2) hy1 ⟨c3, c4, c5⟩ ⟨?_, ?_⟩) ⟨xPc_blind _ _ _ _, fun U hU hW => ⟨rfl, O.pre hz hP hS U hU hW⟩⟩ rfl hn (hL.1.trans hlo) rfl (xroom hrest) hd ⟨by omega, by omega⟩) k
  · show h + 1 ≤ _; omega
  · show 8 + (nLy + 11) + 45 * h ≤ _; omega
/-- invokespecial of a nest mate's private constructor -/
theorem xg_callIN (O : xO X cc nL own hh mc ms ini) {idx n nLy h mc' ms' b : Nat} {y' : MethodName} {cy : ByteArray} {As : List Value} {host : String} {post : Option Value → xH → Nat → Prop} (hd : decode cc pc = .ok (.invokespecial idx, 3)) (hl : va_Nw (.methodLinkNest own idx y' host) (xCs X)) (hl2 : Cond.instanceMethod y' ∈ xTT) (hy1 : y'.name = "<init>") (hc : xCode y' cy nLy none n) (hM : xMet (xCv X) y' cy nLy none h mc' ms' (.ref b :: As) f y.1 post)
    (hn : As.length = n) (hh1 : h + 1 ≤ hh) (hlo : lo.length = nL) (hrest : (st.map fun v => v.category).sum ≤ 8) (hmc : y.2.1 + mc' ≤ mc) (hms : y.2.2 + ms' ≤ ms)
    (k : ∀ (r : Option Value) (f' : xH) (z' : Nat), post r f' z' → xG X (pc + 3) lo (r.toList ++ st) f' (z', y.2.1 + mc', y.2.2 + ms')) : xG X pc lo (As.reverse ++ .ref b :: st) f y := by
  intro H locs ls hz hP hS hL
  obtain ⟨hR1, hR2, hR3, hR4⟩ := O.hR
  obtain ⟨c1, c2, c3, c4, c5, c6⟩ := hc
  refine xg_back (y' := y') hz hS hL (va_runIN (n := n) O.fix hM ⟨va_cnB n O.hts (xgood [] y' cy nLy none c1 (fun w hw => absurd hw List.not_mem_nil)) rfl rfl rfl hl (O.hts _ c2) ⟨c3, c4, c5⟩ ⟨?_, ?_⟩, hy1, O.hts _ hl2⟩ ⟨xPc_blind _ _ _ _, fun U hU hW => ⟨rfl, O.pre hz hP hS U hU hW⟩⟩ rfl hn (hL.1.trans hlo) rfl (xroom hrest) hd ⟨by omega, by omega⟩) k
  · show h + 1 ≤ _; omega
  · show 8 + (nLy + 11) + 45 * h ≤ _; omega
/-- Object's constructor -/
theorem xg_objInit (O : xO X cc nL own hh mc ms ini) {idx b : Nat} (hd : decode cc pc = .ok (.invokespecial idx, 3)) (hl : Cond.methodLink own idx objectInit ∈ xTT) (h1 : 1 ≤ hh) (hlo : lo.length = nL) (hrest : (st.map fun v => v.category).sum ≤ 8) (k : xG X (pc + 3) lo st f y) : xG X pc lo (.ref b :: st) f y := by
  intro H locs ls hz hP hS hL
  obtain ⟨hR1, hR2, hR3, hR4⟩ := O.hR
  exact W.objInit O.hx O.hb O.hown (O.hts _ hl) (O.hts _ xo_init.1) (O.hts _ xo_init.2) rfl (by rw [O.hml]; exact hL.1.trans hlo) rfl hd (by omega) (by have := xroom (m := xCm X) (pc0 := pc) (ls := ls) (st0 := .ref b :: st) hrest; omega) (k H locs ls hz hP hS hL)
/-- new -/
theorem xg_new (O : xO X cc nL own hh mc ms ini) {idx ci N : Nat} {C : String} {T : u_T} {fs : List Value} (hd : decode cc pc = .ok (.new idx, 3)) (hw : Cond.classLink own idx C ∈ xTT ∧ Cond.instantiable C N ∈ xTT ∧ Cond.initialized C ∈ xTT) (hr : vwCl[ci]? = some (C, T, N)) (hfs : ∀ j, j < N → (parseFieldDescriptor (T j).2.2.1).map defaultValue = some (vp_V fs j)) (hmc : y.2.1 + 1 ≤ mc) (hms : y.2.2 + N ≤ ms) (k : xG X (pc + 3) lo (.ref y.1 :: st) (xu f y.1 (xOb ci fs)) (y.1 + 1, y.2.1 + 1, y.2.2 + N)) : xG X pc lo st f y := by
  intro H locs ls hz hP hS hL
  obtain ⟨hR1, hR2, hR3, hR4⟩ := O.hR
  obtain ⟨hin, ty, hty, -⟩ := xcls hr
  have hKn := O.hK.1 ci _ hr
  refine W.newcK O.hx O.hb O.hown (O.hts _ hw.1) (O.hts _ hw.2.1) (O.hts _ hw.2.2) rfl hd (by omega) (by omega) hKn.2.1 rfl fun H1 kC hkC e1 z1 o1 => ?_
  have hzz : xCz X ≤ H.size := Nat.le_trans O.hz hS.1
  have hat : xAt (xCD X) (xCs X) H.size (xOb ci fs) H1 := ⟨_, hr, (u_born ty O.hts hin hKn hkC e1 hty).to (fun j hj => by
    have h1 := hfs j hj
    rw [hty j hj] at h1
    exact Option.some.inj h1)⟩
  have hP1 := hP.push hzz hat o1
  rw [hz] at hP1 z1
  have := k H1 locs ls z1 hP1 ⟨Nat.le_trans hS.1 (by omega), fun q h1 h2 => (o1 q (Nat.lt_of_lt_of_le h1 hS.1)).trans (hS.2.1 q h1 h2), hS.2.2⟩ hL
  rw [hz]
  exact this
/-- newarray -/
theorem xg_newarray (O : xO X cc nL own hh mc ms ini) {at' : ArrayType} {ty : FieldType} {n : Int32} {N : Nat} {g : (Nat → Int32) ⊕ (Nat → Int64) ⊕ (Nat → UInt32) ⊕ (Nat → UInt64) ⊕ (Nat → Option Nat)} (hd : decode cc pc = .ok (.newarray at', 2)) (hty : newarray.typeOf at' = ty) (hw : Cond.arrayClass ty ∈ xTT) (hp : ty = .int ∨ ty = .long ∨ ty = .byte) (hg : ∀ cA : ClassId, vp_cell cA (N, g) = arrV cA N (fun _ => defaultValue ty)) (hn : ¬ n < 0) (hN : n.toNatClampNeg = N) (hbytes : N * componentBytes ty ≤ 536870912) (hmc : y.2.1 + 1 ≤ mc) (hms : y.2.2 + N ≤ ms) (k : xG X (pc + 2) lo (.ref y.1 :: st) (xu f y.1 (.inl (ty, N, g))) (y.1 + 1, y.2.1 + 1, y.2.2 + N)) : xG X pc lo (.int n :: st) f y := by
  intro H locs ls hz hP hS hL
  obtain ⟨hR1, hR2, hR3, hR4⟩ := O.hR
  subst hty
  refine va_newaK O.hx O.hb (O.hts _ hw) rfl hd rfl hn hN hbytes (by omega) (by omega) rfl fun H1 cA e1 z1 o1 hAr hNm => ?_
  have hzz : xCz X ≤ H.size := Nat.le_trans O.hz hS.1
  have hra : va_RA (xCs X) cA (newarray.typeOf at') := by
    rcases hp with h | h | h <;> rw [h] at hNm ⊢ <;> exact hNm
  have hat : xAt (xCD X) (xCs X) H.size (.inl (newarray.typeOf at', N, g)) H1 := ⟨cA, hAr, hra, by rw [e1, hg]⟩
  have hP1 := hP.push hzz hat o1
  rw [hz] at hP1 z1
  have := k H1 locs ls z1 hP1 ⟨Nat.le_trans hS.1 (by omega), fun q h1 h2 => (o1 q (Nat.lt_of_lt_of_le h1 hS.1)).trans (hS.2.1 q h1 h2), hS.2.2⟩ hL
  rw [hz]
  exact this
/-- anewarray of Notes -/
theorem xg_anewarray (O : xO X cc nL own hh mc ms ini) {idx N : Nat} {n : Int32} (hd : decode cc pc = .ok (.anewarray idx, 3)) (hw : Cond.classLink own idx RX1 ∈ xTT) (hn : ¬ n < 0) (hN : n.toNatClampNeg = N) (hbytes : N * 4 ≤ 536870912) (hmc : y.2.1 + 1 ≤ mc) (hms : y.2.2 + N ≤ ms) (k : xG X (pc + 3) lo (.ref y.1 :: st) (xu f y.1 (xR N (fun _ => none))) (y.1 + 1, y.2.1 + 1, y.2.2 + N)) : xG X pc lo (.int n :: st) f y := by
  intro H locs ls hz hP hS hL
  obtain ⟨hR1, hR2, hR3, hR4⟩ := O.hR
  subst hN
  refine W.anew O.hx O.hb O.hown (O.hts _ hw) (va_AO.use O.hN.2.2.2.2.2.2) rfl hd rfl hn hbytes (by omega) (by omega) fun cA kA comp f1 f2 f3 f4 => ?_
  generalize hH1 : H.push ({ cls := cA, slots := Array.replicate n.toNatClampNeg .null, vm := .none } : Cell) = H1
  have z1 : H1.size = H.size + 1 := by rw [← hH1, Array.size_push]
  have e1 : H1[H.size]? = some (arrV cA n.toNatClampNeg (fun _ => .null)) := by rw [← hH1, Array.getElem?_push_size, ← arrV_new]
  have o1 : ∀ q : Nat, q < H.size → H1[q]? = H[q]? := fun q hq => by rw [← hH1, Array.getElem?_push, if_neg (Nat.ne_of_lt hq)]
  have hAr : ArrOfT (xCs X) cA (.object RX1) := fun N z => ⟨(fun k h => by cases h), kA, f2, comp, f3⟩
  have hzz : xCz X ≤ H.size := Nat.le_trans O.hz hS.1
  have hat : xAt (xCD X) (xCs X) H.size (xR n.toNatClampNeg (fun _ => none)) H1 := ⟨cA, hAr, ⟨kA, comp, f2, f3, f4, f1⟩, by rw [e1]; rfl⟩
  have hP1 := hP.push hzz hat o1
  rw [hz] at hP1 z1
  have := k H1 locs ls z1 hP1 ⟨Nat.le_trans hS.1 (by omega), fun q h1 h2 => (o1 q (Nat.lt_of_lt_of_le h1 hS.1)).trans (hS.2.1 q h1 h2), hS.2.2⟩ hL
  rw [hz]
  exact this
/-- the static arrays lie outside the heap -/
theorem xg_out (O : xO X cc nL own hh mc ms ini) (k : f (xCL X) = none → f (xCP X) = none → xG X pc lo st f y) : xG X pc lo st f y := by
  intro H locs ls hz hP hS hL
  refine k ?_ ?_ H locs ls hz hP hS hL
  · cases h : f (xCL X) with
    | none => rfl
    | some e =>
      obtain ⟨_, _, _, _, _, _, _, h7⟩ := O.hS.2.1
      exact absurd (hP _ _ h).1 h7
  · cases h : f (xCP X) with
    | none => rfl
    | some e =>
      obtain ⟨_, _, _, _, _, _, _, h7⟩ := O.hS.2.2.2
      exact absurd (hP _ _ h).1 h7
theorem xg_getLogs (O : xO X cc nL own hh mc ms ini) (ho : own = RX1) (hd : decode cc pc = .ok (.getstatic 37, 3)) (k : xG X (pc + 3) lo (.ref (xCL X) :: st) f y) : xG X pc lo st f y := by
  intro H locs ls hz hP hS hL
  subst ho
  exact va_gets O.hx O.hb O.hS.1 hS O.hown (O.hts _ xo_logs) (fun _ h => h) hd (k H locs ls hz hP hS hL)
theorem xg_laloadS (O : xO X cc nL own hh mc ms ini) {i : Int32} (hd : decode cc pc = .ok (.laload, 1)) (hin : vp_in i 18) (k : xG X (pc + 1) lo (.long (xLogs i.toNatClampNeg) :: st) f y) : xG X pc lo (.int i :: .ref (xCL X) :: st) f y := by
  intro H locs ls hz hP hS hL
  obtain ⟨cell, h1, h2, h3, h4, h5, h6, h7⟩ := O.hS.2.1.kept (fun a h1 h2 => hS.2.1 a h1 h2)
  have hlt : i.toNatClampNeg < 18 := Nat.not_le.mp fun q => hin (Or.inr q)
  exact W.lald (v := .long (xLogs i.toNatClampNeg)) O.hx O.hb h1 h2 h3 (fun q => hin (q.imp id (fun z => by omega))) (h6 _ hlt) rfl rfl hd (k H locs ls hz hP hS hL)
theorem xg_getPrs (O : xO X cc nL own hh mc ms ini) (ho : own = RX4) (hd : decode cc pc = .ok (.getstatic 74, 3)) (k : xG X (pc + 3) lo (.ref (xCP X) :: st) f y) : xG X pc lo st f y := by
  intro H locs ls hz hP hS hL
  subst ho
  obtain ⟨cf, kf, fi, fd, a, cell, h1, h2, h3, h4, h5, h6, h7, h8⟩ := O.hS.2.2.1
  intro T hT XX
  have hlk : (Cond.fieldLinkNest RX4 74 RX5 "PRIME_VALUES" "[I" RX5).before (xCa X) (xCs X) = true := va_Nw.use rfl O.hN.2.2.2.2.2.1
  obtain ⟨vm', X', st'⟩ := XX.getstaticNest (g := F0 (xCm X) pc ls st) O.hx O.hown hlk h1 h2 h3 h4 (by rw [hT, hS.2.1 a (Array.getElem?_eq_some_iff.mp h5).1 h8]; exact h5) (fun e => by rw [e] at h6; cases h6) h7 rfl (by rw [O.hb]; exact hd)
  obtain ⟨t, a1, b1⟩ := k H locs ls hz hP hS hL (T.setVm vm') hT X'
  exact ⟨t, st' t a1, b1⟩
theorem xg_ialoadS (O : xO X cc nL own hh mc ms ini) {i : Int32} (hd : decode cc pc = .ok (.iaload, 1)) (hin : vp_in i 6) (k : xG X (pc + 1) lo (.int (xPrs i.toNatClampNeg) :: st) f y) : xG X pc lo (.int i :: .ref (xCP X) :: st) f y := by
  intro H locs ls hz hP hS hL
  obtain ⟨cell, h1, h2, h3, h4, h5, h6, h7⟩ := O.hS.2.2.2.kept (fun a h1 h2 => hS.2.1 a h1 h2)
  have hlt : i.toNatClampNeg < 6 := Nat.not_le.mp fun q => hin (Or.inr q)
  exact W.iald (v := .int (xPrs i.toNatClampNeg)) O.hx O.hb h1 h2 h3 (fun q => hin (q.imp id (fun z => by omega))) (h6 _ hlt) rfl rfl hd (k H locs ls hz hP hS hL)
end XCALL
/-- a method's contract out of its body -/
theorem xMet_of {V : xV} {y : MethodName} {cc : ByteArray} {nL : Nat} {ret : Option FieldType} {hh mc ms : Nat} {av : List Value} {f : xH} {z : Nat} {post : Option Value → xH → Nat → Prop} (ini : Bool) (hy : plainName y.cls = true) (hnl : (lg_sl av).length ≤ nL) (hini : ini = true → y.name = "<init>")
    (body : ∀ X : xC, xCv X = V → xO X cc nL y.cls hh mc ms ini → xRt X ret mc ms post → xG X 0 (xent av nL) [] f (z, 0, 0)) : xMet V y cc nL ret hh mc ms av f z post := by
  refine Met.ofW (cc := cc) (maxL := nL) (ret := ret) hy rfl ?_
  intro p e s m args below meth c s₁ B hml hv
  obtain ⟨rfl, hsz, hP, hK, hS, hN, hz0⟩ := hv
  have hts0 := atoms_spec (ws := .code y cc nL ret :: xTT) B.pre
  have hts : ∀ w ∈ xTT, w.before av.toArray s = true := fun w h => hts0 w (List.mem_cons_of_mem _ h)
  have hown : s.vm.findClass y.cls = some m.cls := findClass_of_methodNamed B.named
  have hin : meth.name = y.name := (name_of_methodNamed B.named B.method).1
  subst hsz
  have hl := lv_entry av (n := nL) hnl
  rw [lg_entry_eq]
  generalize (lg_sl av ++ List.replicate (nL - (lg_sl av).length) Slot.unset).toArray = ls at hl ⊢
  exact body ((p, e, _, s, m, av.toArray, below, meth, c), _, V) rfl ⟨B.exec, B.bytes, hml, hown, hts, hK, hS, hN, hz0, Nat.le_refl _, Nat.le_refl _, Nat.le_refl _, Nat.le_refl _, fun h => by show meth.name = _; rw [hin]; exact hini h⟩ ⟨B.returns, B.notSynchronized, rfl⟩ s.heap [] ls rfl hP va_S.rf (xL.entry hl)
