/-! ===== the context of a method's body, and the judgement over the pure heap ===== -/
abbrev xC : Type := (Program × Env × Room × State × MethodId × Array Value × List Frame × Method × Code) × (State → Prop) × xV
abbrev xCp (X : xC) : Program := X.1.1
abbrev xCe (X : xC) : Env := X.1.2.1
abbrev xCR (X : xC) : Room := X.1.2.2.1
abbrev xCs (X : xC) : State := X.1.2.2.2.1
abbrev xCm (X : xC) : MethodId := X.1.2.2.2.2.1
abbrev xCa (X : xC) : Array Value := X.1.2.2.2.2.2.1
abbrev xCb (X : xC) : List Frame := X.1.2.2.2.2.2.2.1
abbrev xCh (X : xC) : Method := X.1.2.2.2.2.2.2.2.1
abbrev xCc (X : xC) : Code := X.1.2.2.2.2.2.2.2.2
abbrev xCQ (X : xC) : State → Prop := X.2.1
abbrev xCv (X : xC) : xV := X.2.2
abbrev xCl (X : xC) : Launch := X.2.2.1
abbrev xCD (X : xC) : va_G := X.2.2.2.1
abbrev xCz (X : xC) : Nat := X.2.2.2.2.1
abbrev xCL (X : xC) : Nat := X.2.2.2.2.2.1
abbrev xCP (X : xC) : Nat := X.2.2.2.2.2.2
abbrev xA (X : xC) : Nat → Prop := fun q => xCz X ≤ q
abbrev xW (X : xC) (H : Heap) (locs : List Loc) (k n : Nat) (g : JFrame) : Prop := W (xCp X) (xCl X) (xCe X) (xCR X) (xCs X) (xCm X) (xCa X) (xCb X) (xCh X) (xCc X) H locs k n (xCQ X) g
def xG (X : xC) (pc : Nat) (lo : List (Option Value)) (st : List Value) (f : xH) (y : Nat × Nat × Nat) : Prop :=
  ∀ (H : Heap) (locs : List Loc) (ls : Array Slot), H.size = y.1 → xP (xCD X) (xCs X) (xCz X) f H → va_S (xA X) (xCs X).heap H locs → xL ls lo → xW X H locs y.2.1 y.2.2 (F0 (xCm X) pc ls st)
def xO (X : xC) (cc : ByteArray) (nL : Nat) (own : String) (hh mc ms : Nat) (ini : Bool) : Prop :=
  (xCp X).tables.exec = Jvm.exec ∧ (xCc X).code = cc ∧ (xCc X).maxLocals = nL ∧ (xCs X).vm.findClass own = some (xCm X).cls ∧ (∀ w ∈ xTT, w.before (xCa X) (xCs X) = true) ∧ va_K (xCD X) vwCl [] (xCs X) ∧ xS (xCz X) (xCL X) (xCP X) (xCs X) (xCs X).heap ∧ xN (xCs X) ∧ xCz X ≤ (xCs X).heap.size ∧ hh ≤ (xCR X).frames ∧ 45 * hh ≤ (xCR X).locals ∧ mc ≤ (xCR X).cells ∧ ms ≤ (xCR X).slots ∧ (ini = true → (xCh X).name = "<init>")
section XO
variable {X : xC} {cc : ByteArray} {nL : Nat} {own : String} {hh mc ms : Nat} {ini : Bool}
theorem xO.hx (O : xO X cc nL own hh mc ms ini) : (xCp X).tables.exec = Jvm.exec := O.1
theorem xO.hb (O : xO X cc nL own hh mc ms ini) : (xCc X).code = cc := O.2.1
theorem xO.hml (O : xO X cc nL own hh mc ms ini) : (xCc X).maxLocals = nL := O.2.2.1
theorem xO.hown (O : xO X cc nL own hh mc ms ini) : (xCs X).vm.findClass own = some (xCm X).cls := O.2.2.2.1
theorem xO.hts (O : xO X cc nL own hh mc ms ini) : ∀ w ∈ xTT, w.before (xCa X) (xCs X) = true := O.2.2.2.2.1
theorem xO.hK (O : xO X cc nL own hh mc ms ini) : va_K (xCD X) vwCl [] (xCs X) := O.2.2.2.2.2.1
theorem xO.hS (O : xO X cc nL own hh mc ms ini) : xS (xCz X) (xCL X) (xCP X) (xCs X) (xCs X).heap := O.2.2.2.2.2.2.1
theorem xO.hN (O : xO X cc nL own hh mc ms ini) : xN (xCs X) := O.2.2.2.2.2.2.2.1
theorem xO.hz (O : xO X cc nL own hh mc ms ini) : xCz X ≤ (xCs X).heap.size := O.2.2.2.2.2.2.2.2.1
theorem xO.hR (O : xO X cc nL own hh mc ms ini) : hh ≤ (xCR X).frames ∧ 45 * hh ≤ (xCR X).locals ∧ mc ≤ (xCR X).cells ∧ ms ≤ (xCR X).slots := ⟨O.2.2.2.2.2.2.2.2.2.1, O.2.2.2.2.2.2.2.2.2.2.1, O.2.2.2.2.2.2.2.2.2.2.2.1, O.2.2.2.2.2.2.2.2.2.2.2.2.1⟩
theorem xO.hi (O : xO X cc nL own hh mc ms ini) : ini = true → (xCh X).name = "<init>" := O.2.2.2.2.2.2.2.2.2.2.2.2.2
end XO
/-- how a method ends -/
def xRt (X : xC) (ret : Option FieldType) (mc ms : Nat) (post : Option Value → xH → Nat → Prop) : Prop := (xCh X).sig.returnType = ret ∧ (xCh X).locks = false ∧ xCQ X = MQ (xCb X) (xQ (xCv X) post) (xCa X) (xCs X) mc ms (fun q => xCz X ≤ q)
/-! the 7 classes -/
theorem xcls {ci : Nat} {r : vw_C} (h : vwCl[ci]? = some r) : (∀ w ∈ u_ws r.1 r.2.1 r.2.2, w ∈ xTT) ∧ ∃ ty : Nat → FieldType, (∀ k, k < r.2.2 → parseFieldDescriptor (r.2.1 k).2.2.1 = some (ty k)) ∧ ∀ a, a < r.2.2 → ∀ b, b < r.2.2 → a ≠ b → (r.2.1 a).2.1 ≠ (r.2.1 b).2.1 := by
  match ci, h with
  | 0, h => cases h; exact ⟨xinX0, tyX0, tyX0_ok, nmX0⟩
  | 1, h => cases h; exact ⟨xinX1, tyX1, tyX1_ok, nmX1⟩
  | 2, h => cases h; exact ⟨xinX2, tyX2, tyX2_ok, nmX2⟩
  | 3, h => cases h; exact ⟨xinX3, tyX3, tyX3_ok, nmX3⟩
  | 4, h => cases h; exact ⟨xinX4, tyX4, tyX4_ok, nmX4⟩
  | 5, h => cases h; exact ⟨xinX5, tyX5, tyX5_ok, nmX5⟩
  | 6, h => cases h; exact ⟨xinX6, tyX6, tyX6_ok, nmX6⟩
  | k + 7, h => simp [vwCl] at h
section XG
variable {X : xC} {cc : ByteArray} {nL : Nat} {own : String} {hh mc ms : Nat} {ini : Bool} {pc : Nat} {lo : List (Option Value)} {st : List Value} {f : xH} {y : Nat × Nat × Nat}
theorem xg_iconst (O : xO X cc nL own hh mc ms ini) {v : Int} (hd : decode cc pc = .ok (.iconst v, 1))  (k : xG X (pc + 1) lo (.int (Int32.ofInt v) :: st) f y) : xG X pc lo st f y := fun H locs ls hz hP hS hL => lv_iconst O.hx O.hb hd rfl (k H locs ls hz hP hS hL)
theorem xg_bipush (O : xO X cc nL own hh mc ms ini) {v : Int} (hd : decode cc pc = .ok (.bipush v, 2))  (k : xG X (pc + 2) lo (.int (Int8.ofInt v).toInt32 :: st) f y) : xG X pc lo st f y := fun H locs ls hz hP hS hL => lv_bipush O.hx O.hb hd rfl (k H locs ls hz hP hS hL)
theorem xg_sipush (O : xO X cc nL own hh mc ms ini) {v : Int} (hd : decode cc pc = .ok (.sipush v, 3))  (k : xG X (pc + 3) lo (.int (Int16.ofInt v).toInt32 :: st) f y) : xG X pc lo st f y := fun H locs ls hz hP hS hL => lv_sipush O.hx O.hb hd rfl (k H locs ls hz hP hS hL)
theorem xg_lconst (O : xO X cc nL own hh mc ms ini) {v : Fin 2} (hd : decode cc pc = .ok (.lconst v, 1))  (k : xG X (pc + 1) lo (.long (Int64.ofNat (v : Nat)) :: st) f y) : xG X pc lo st f y := fun H locs ls hz hP hS hL => lv_lconst O.hx O.hb hd rfl (k H locs ls hz hP hS hL)
theorem xg_iadd (O : xO X cc nL own hh mc ms ini) {x y' : Int32} (hd : decode cc pc = .ok (.iadd, 1))  (k : xG X (pc + 1) lo (.int (x + y') :: st) f y) : xG X pc lo (.int y' :: .int x :: st) f y := fun H locs ls hz hP hS hL => lv_iadd O.hx O.hb hd (k H locs ls hz hP hS hL)
theorem xg_isub (O : xO X cc nL own hh mc ms ini) {x y' : Int32} (hd : decode cc pc = .ok (.isub, 1))  (k : xG X (pc + 1) lo (.int (x - y') :: st) f y) : xG X pc lo (.int y' :: .int x :: st) f y := fun H locs ls hz hP hS hL => lv_isub O.hx O.hb hd (k H locs ls hz hP hS hL)
theorem xg_imul (O : xO X cc nL own hh mc ms ini) {x y' : Int32} (hd : decode cc pc = .ok (.imul, 1))  (k : xG X (pc + 1) lo (.int (x * y') :: st) f y) : xG X pc lo (.int y' :: .int x :: st) f y := fun H locs ls hz hP hS hL => lv_imul O.hx O.hb hd (k H locs ls hz hP hS hL)
theorem xg_iand (O : xO X cc nL own hh mc ms ini) {x y' : Int32} (hd : decode cc pc = .ok (.iand, 1))  (k : xG X (pc + 1) lo (.int (x &&& y') :: st) f y) : xG X pc lo (.int y' :: .int x :: st) f y := fun H locs ls hz hP hS hL => lv_iand O.hx O.hb hd (k H locs ls hz hP hS hL)
theorem xg_ior (O : xO X cc nL own hh mc ms ini) {x y' : Int32} (hd : decode cc pc = .ok (.ior, 1))  (k : xG X (pc + 1) lo (.int (x ||| y') :: st) f y) : xG X pc lo (.int y' :: .int x :: st) f y := fun H locs ls hz hP hS hL => lv_ior O.hx O.hb hd (k H locs ls hz hP hS hL)
theorem xg_ixor (O : xO X cc nL own hh mc ms ini) {x y' : Int32} (hd : decode cc pc = .ok (.ixor, 1))  (k : xG X (pc + 1) lo (.int (x ^^^ y') :: st) f y) : xG X pc lo (.int y' :: .int x :: st) f y := fun H locs ls hz hP hS hL => lv_ixor O.hx O.hb hd (k H locs ls hz hP hS hL)
theorem xg_ishr (O : xO X cc nL own hh mc ms ini) {x y' : Int32} (hd : decode cc pc = .ok (.ishr, 1))  (k : xG X (pc + 1) lo ((.int (x >>> (y' &&& 31)) :: st)) f y) : xG X pc lo (.int y' :: .int x :: st) f y := fun H locs ls hz hP hS hL => lv_ishr O.hx O.hb hd (k H locs ls hz hP hS hL)
theorem xg_ineg (O : xO X cc nL own hh mc ms ini) {x : Int32} (hd : decode cc pc = .ok (.ineg, 1))  (k : xG X (pc + 1) lo ((.int (-x) :: st)) f y) : xG X pc lo (.int x :: st) f y := fun H locs ls hz hP hS hL => lv_ineg O.hx O.hb hd (k H locs ls hz hP hS hL)
theorem xg_ladd (O : xO X cc nL own hh mc ms ini) {x y' : Int64} (hd : decode cc pc = .ok (.ladd, 1))  (k : xG X (pc + 1) lo (.long (x + y') :: st) f y) : xG X pc lo (.long y' :: .long x :: st) f y := fun H locs ls hz hP hS hL => lv_ladd O.hx O.hb hd (k H locs ls hz hP hS hL)
theorem xg_lsub (O : xO X cc nL own hh mc ms ini) {x y' : Int64} (hd : decode cc pc = .ok (.lsub, 1))  (k : xG X (pc + 1) lo (.long (x - y') :: st) f y) : xG X pc lo (.long y' :: .long x :: st) f y := fun H locs ls hz hP hS hL => lv_lsub O.hx O.hb hd (k H locs ls hz hP hS hL)
theorem xg_lmul (O : xO X cc nL own hh mc ms ini) {x y' : Int64} (hd : decode cc pc = .ok (.lmul, 1))  (k : xG X (pc + 1) lo (.long (x * y') :: st) f y) : xG X pc lo (.long y' :: .long x :: st) f y := fun H locs ls hz hP hS hL => lv_lmul O.hx O.hb hd (k H locs ls hz hP hS hL)
theorem xg_land (O : xO X cc nL own hh mc ms ini) {x y' : Int64} (hd : decode cc pc = .ok (.land, 1))  (k : xG X (pc + 1) lo (.long (x &&& y') :: st) f y) : xG X pc lo (.long y' :: .long x :: st) f y := fun H locs ls hz hP hS hL => lv_land O.hx O.hb hd (k H locs ls hz hP hS hL)
theorem xg_lor (O : xO X cc nL own hh mc ms ini) {x y' : Int64} (hd : decode cc pc = .ok (.lor, 1))  (k : xG X (pc + 1) lo (.long (x ||| y') :: st) f y) : xG X pc lo (.long y' :: .long x :: st) f y := fun H locs ls hz hP hS hL => lv_lor O.hx O.hb hd (k H locs ls hz hP hS hL)
theorem xg_lshr (O : xO X cc nL own hh mc ms ini) {x : Int64} {y' : Int32} (hd : decode cc pc = .ok (.lshr, 1))  (k : xG X (pc + 1) lo ((.long (x >>> (y'.toInt64 &&& 63)) :: st)) f y) : xG X pc lo (.int y' :: .long x :: st) f y := fun H locs ls hz hP hS hL => lv_lshr O.hx O.hb hd rfl (k H locs ls hz hP hS hL)
theorem xg_i2l (O : xO X cc nL own hh mc ms ini) {x : Int32} (hd : decode cc pc = .ok (.i2l, 1))  (k : xG X (pc + 1) lo ((.long x.toInt64 :: st)) f y) : xG X pc lo (.int x :: st) f y := fun H locs ls hz hP hS hL => lv_i2l O.hx O.hb hd rfl (k H locs ls hz hP hS hL)
theorem xg_l2i (O : xO X cc nL own hh mc ms ini) {x : Int64} (hd : decode cc pc = .ok (.l2i, 1))  (k : xG X (pc + 1) lo ((.int x.toInt32 :: st)) f y) : xG X pc lo (.long x :: st) f y := fun H locs ls hz hP hS hL => lv_l2i O.hx O.hb hd rfl (k H locs ls hz hP hS hL)
theorem xg_i2b (O : xO X cc nL own hh mc ms ini) {x : Int32} (hd : decode cc pc = .ok (.i2b, 1))  (k : xG X (pc + 1) lo ((.int x.toInt8.toInt32 :: st)) f y) : xG X pc lo (.int x :: st) f y := fun H locs ls hz hP hS hL => lv_i2b O.hx O.hb hd rfl (k H locs ls hz hP hS hL)
theorem xg_lcmp (O : xO X cc nL own hh mc ms ini) {x y' : Int64} (hd : decode cc pc = .ok (.lcmp, 1))  (k : xG X (pc + 1) lo ((.int (lg_cmp x y') :: st)) f y) : xG X pc lo (.long y' :: .long x :: st) f y := fun H locs ls hz hP hS hL => W.lcmp O.hx O.hb hd (k H locs ls hz hP hS hL)
theorem xg_idiv (O : xO X cc nL own hh mc ms ini) {x y' : Int32} (hd : decode cc pc = .ok (.idiv, 1)) (hne : ¬ y' = 0) (k : xG X (pc + 1) lo ((.int (x / y') :: st)) f y) : xG X pc lo (.int y' :: .int x :: st) f y := fun H locs ls hz hP hS hL => lv_idiv O.hx O.hb hd hne (k H locs ls hz hP hS hL)
theorem xg_irem (O : xO X cc nL own hh mc ms ini) {x y' : Int32} (hd : decode cc pc = .ok (.irem, 1)) (hne : ¬ y' = 0) (k : xG X (pc + 1) lo ((.int (x - x / y' * y') :: st)) f y) : xG X pc lo (.int y' :: .int x :: st) f y := fun H locs ls hz hP hS hL => lv_irem O.hx O.hb hd hne (k H locs ls hz hP hS hL)
theorem xg_ldiv (O : xO X cc nL own hh mc ms ini) {x y' : Int64} (hd : decode cc pc = .ok (.ldiv, 1)) (hne : ¬ y' = 0) (k : xG X (pc + 1) lo ((.long (x / y') :: st)) f y) : xG X pc lo (.long y' :: .long x :: st) f y := fun H locs ls hz hP hS hL => lv_ldiv O.hx O.hb hd hne (k H locs ls hz hP hS hL)
theorem xg_lrem (O : xO X cc nL own hh mc ms ini) {x y' : Int64} (hd : decode cc pc = .ok (.lrem, 1)) (hne : ¬ y' = 0) (k : xG X (pc + 1) lo ((.long (x - x / y' * y') :: st)) f y) : xG X pc lo (.long y' :: .long x :: st) f y := fun H locs ls hz hP hS hL => lv_lrem O.hx O.hb hd hne (k H locs ls hz hP hS hL)
theorem xg_dup (O : xO X cc nL own hh mc ms ini) {v : Value} (hd : decode cc pc = .ok (.dup, 1)) (hv : v.category = 1) (k : xG X (pc + 1) lo ((v :: v :: st)) f y) : xG X pc lo (v :: st) f y := fun H locs ls hz hP hS hL => lv_dup O.hx O.hb hd hv (k H locs ls hz hP hS hL)
theorem xg_pop (O : xO X cc nL own hh mc ms ini) {v : Value} (hd : decode cc pc = .ok (.pop, 1)) (hv : v.category = 1) (k : xG X (pc + 1) lo (st) f y) : xG X pc lo (v :: st) f y := fun H locs ls hz hP hS hL => lv_pop O.hx O.hb hd hv (k H locs ls hz hP hS hL)
theorem xg_dup2 (O : xO X cc nL own hh mc ms ini) {v w : Value} (hd : decode cc pc = .ok (.dup2, 1)) (hv : v.category = 1) (hw : w.category = 1) (k : xG X (pc + 1) lo ((v :: w :: v :: w :: st)) f y) : xG X pc lo (v :: w :: st) f y := fun H locs ls hz hP hS hL => lv_dup2_11 O.hx O.hb hd hv hw (k H locs ls hz hP hS hL)
theorem xg_iload_n (O : xO X cc nL own hh mc ms ini) {k0 : Fin 4} {x : Int32} (hd : decode cc pc = .ok (.iload_n k0, 1)) (hg : xlg lo (k0 : Nat) = some (.int x)) (k : xG X (pc + 1) lo ((.int x :: st)) f y) : xG X pc lo st f y := fun H locs ls hz hP hS hL => lv_iload_n O.hx O.hb hd rfl (hL.2.2 _ _ hg) (k H locs ls hz hP hS hL)
theorem xg_iload (O : xO X cc nL own hh mc ms ini) {i : Nat} {x : Int32} (hd : decode cc pc = .ok (.iload i, 2)) (hg : xlg lo i = some (.int x)) (k : xG X (pc + 2) lo ((.int x :: st)) f y) : xG X pc lo st f y := fun H locs ls hz hP hS hL => lv_iload O.hx O.hb hd (hL.2.2 _ _ hg) (k H locs ls hz hP hS hL)
theorem xg_lload_n (O : xO X cc nL own hh mc ms ini) {k0 : Fin 4} {x : Int64} (hd : decode cc pc = .ok (.lload_n k0, 1)) (hg : xlg lo (k0 : Nat) = some (.long x)) (k : xG X (pc + 1) lo ((.long x :: st)) f y) : xG X pc lo st f y := fun H locs ls hz hP hS hL => lv_lload_n O.hx O.hb hd rfl (hL.2.2 _ _ hg) (k H locs ls hz hP hS hL)
theorem xg_lload (O : xO X cc nL own hh mc ms ini) {i : Nat} {x : Int64} (hd : decode cc pc = .ok (.lload i, 2)) (hg : xlg lo i = some (.long x)) (k : xG X (pc + 2) lo ((.long x :: st)) f y) : xG X pc lo st f y := fun H locs ls hz hP hS hL => lv_lload O.hx O.hb hd (hL.2.2 _ _ hg) (k H locs ls hz hP hS hL)
theorem xg_aload_n (O : xO X cc nL own hh mc ms ini) {k0 : Fin 4} {x : Nat} (hd : decode cc pc = .ok (.aload_n k0, 1)) (hg : xlg lo (k0 : Nat) = some (.ref x)) (k : xG X (pc + 1) lo ((.ref x :: st)) f y) : xG X pc lo st f y := fun H locs ls hz hP hS hL => lv_aload_n O.hx O.hb hd rfl (hL.2.2 _ _ hg) (k H locs ls hz hP hS hL)
theorem xg_aload (O : xO X cc nL own hh mc ms ini) {i : Nat} {x : Nat} (hd : decode cc pc = .ok (.aload i, 2)) (hg : xlg lo i = some (.ref x)) (k : xG X (pc + 2) lo ((.ref x :: st)) f y) : xG X pc lo st f y := fun H locs ls hz hP hS hL => lv_aload O.hx O.hb hd (hL.2.2 _ _ hg) (k H locs ls hz hP hS hL)
theorem xg_istore_n (O : xO X cc nL own hh mc ms ini) {k0 : Fin 4} {x : Int32} (hd : decode cc pc = .ok (.istore_n k0, 1)) (hi : (k0 : Nat) < lo.length) (k : xG X (pc + 1) (xst1 lo (k0 : Nat) (.int x)) st f y) : xG X pc lo (.int x :: st) f y := fun H locs ls hz hP hS hL => lv_istore_n O.hx O.hb hd rfl hL.has hi rfl (fun ls' hl => k H locs ls' hz hP hS (xL.put1 hl))
theorem xg_istore (O : xO X cc nL own hh mc ms ini) {i : Nat} {x : Int32} (hd : decode cc pc = .ok (.istore i, 2)) (hi : i < lo.length) (k : xG X (pc + 2) (xst1 lo i (.int x)) st f y) : xG X pc lo (.int x :: st) f y := fun H locs ls hz hP hS hL => lv_istore O.hx O.hb hd hL.has hi rfl (fun ls' hl => k H locs ls' hz hP hS (xL.put1 hl))
theorem xg_lstore_n (O : xO X cc nL own hh mc ms ini) {k0 : Fin 4} {x : Int64} (hd : decode cc pc = .ok (.lstore_n k0, 1)) (hi : (k0 : Nat) + 1 < lo.length) (k : xG X (pc + 1) (xst2 lo (k0 : Nat) (.long x)) st f y) : xG X pc lo (.long x :: st) f y := fun H locs ls hz hP hS hL => lv_lstore_n O.hx O.hb hd rfl hL.has hi rfl (fun ls' hl => k H locs ls' hz hP hS (xL.put2 hl))
theorem xg_lstore (O : xO X cc nL own hh mc ms ini) {i : Nat} {x : Int64} (hd : decode cc pc = .ok (.lstore i, 2)) (hi : i + 1 < lo.length) (k : xG X (pc + 2) (xst2 lo i (.long x)) st f y) : xG X pc lo (.long x :: st) f y := fun H locs ls hz hP hS hL => lv_lstore O.hx O.hb hd hL.has hi rfl (fun ls' hl => k H locs ls' hz hP hS (xL.put2 hl))
theorem xg_astore_n (O : xO X cc nL own hh mc ms ini) {k0 : Fin 4} {x : Nat} (hd : decode cc pc = .ok (.astore_n k0, 1)) (hi : (k0 : Nat) < lo.length) (k : xG X (pc + 1) (xst1 lo (k0 : Nat) (.ref x)) st f y) : xG X pc lo (.ref x :: st) f y := fun H locs ls hz hP hS hL => lv_astore_n O.hx O.hb hd rfl hL.has hi rfl (fun ls' hl => k H locs ls' hz hP hS (xL.put1 hl))
theorem xg_astore (O : xO X cc nL own hh mc ms ini) {i : Nat} {x : Nat} (hd : decode cc pc = .ok (.astore i, 2)) (hi : i < lo.length) (k : xG X (pc + 2) (xst1 lo i (.ref x)) st f y) : xG X pc lo (.ref x :: st) f y := fun H locs ls hz hP hS hL => lv_astore O.hx O.hb hd hL.has hi rfl (fun ls' hl => k H locs ls' hz hP hS (xL.put1 hl))
theorem xg_iinc (O : xO X cc nL own hh mc ms ini) {i : Nat} {n : Int} {x : Int32} (hd : decode cc pc = .ok (.iinc i n, 3)) (hg : xlg lo i = some (.int x)) (k : xG X (pc + 3) (xst1 lo i (.int (x + Int32.ofInt n))) st f y) : xG X pc lo st f y := by
  intro H locs ls hz hP hS hL
  obtain ⟨k0, hk0⟩ := List.getElem?_of_mem (xpl_mem (q := (i, .int x)).mpr hg)
  exact lv_iinc O.hx O.hb hd hL.has hk0 rfl (xlg_lt hg) rfl (fun ls' hl => k H locs ls' hz hP hS (xL.put1 hl))
theorem xg_if_eq (O : xO X cc nL own hh mc ms ini) {off : Int} {tg : Nat} {x : Int32} (hd : decode cc pc = .ok (.ifCond .eq off, 3)) (ht : (pc : Int) + off = (tg : Int)) (kt : x = 0 → xG X (tg) lo st f y) (kf : ¬ x = 0 → xG X (pc + 3) lo st f y) : xG X pc lo (.int x :: st) f y := fun H locs ls hz hP hS hL => lv_if_eq O.hx O.hb hd ht (fun q => kt q H locs ls hz hP hS hL) (fun q => kf q H locs ls hz hP hS hL)
theorem xg_icmp_eq (O : xO X cc nL own hh mc ms ini) {off : Int} {tg : Nat} {x y' : Int32} (hd : decode cc pc = .ok (.if_icmp .eq off, 3)) (ht : (pc : Int) + off = (tg : Int)) (kt : x = y' → xG X (tg) lo st f y) (kf : ¬ x = y' → xG X (pc + 3) lo st f y) : xG X pc lo (.int y' :: .int x :: st) f y := fun H locs ls hz hP hS hL => lv_icmp_eq O.hx O.hb hd ht (fun q => kt q H locs ls hz hP hS hL) (fun q => kf q H locs ls hz hP hS hL)
theorem xg_if_ne (O : xO X cc nL own hh mc ms ini) {off : Int} {tg : Nat} {x : Int32} (hd : decode cc pc = .ok (.ifCond .ne off, 3)) (ht : (pc : Int) + off = (tg : Int)) (kt : x = 0 → xG X (pc + 3) lo st f y) (kf : ¬ x = 0 → xG X (tg) lo st f y) : xG X pc lo (.int x :: st) f y := fun H locs ls hz hP hS hL => lv_if_ne O.hx O.hb hd ht (fun q => kf q H locs ls hz hP hS hL) (fun q => kt q H locs ls hz hP hS hL)
theorem xg_icmp_ne (O : xO X cc nL own hh mc ms ini) {off : Int} {tg : Nat} {x y' : Int32} (hd : decode cc pc = .ok (.if_icmp .ne off, 3)) (ht : (pc : Int) + off = (tg : Int)) (kt : x = y' → xG X (pc + 3) lo st f y) (kf : ¬ x = y' → xG X (tg) lo st f y) : xG X pc lo (.int y' :: .int x :: st) f y := fun H locs ls hz hP hS hL => lv_icmp_ne O.hx O.hb hd ht (fun q => kf q H locs ls hz hP hS hL) (fun q => kt q H locs ls hz hP hS hL)
theorem xg_if_lt (O : xO X cc nL own hh mc ms ini) {off : Int} {tg : Nat} {x : Int32} (hd : decode cc pc = .ok (.ifCond .lt off, 3)) (ht : (pc : Int) + off = (tg : Int)) (kt : x < 0 → xG X (tg) lo st f y) (kf : ¬ x < 0 → xG X (pc + 3) lo st f y) : xG X pc lo (.int x :: st) f y := fun H locs ls hz hP hS hL => lv_if_lt O.hx O.hb hd ht (fun q => kt q H locs ls hz hP hS hL) (fun q => kf q H locs ls hz hP hS hL)
theorem xg_icmp_lt (O : xO X cc nL own hh mc ms ini) {off : Int} {tg : Nat} {x y' : Int32} (hd : decode cc pc = .ok (.if_icmp .lt off, 3)) (ht : (pc : Int) + off = (tg : Int)) (kt : x < y' → xG X (tg) lo st f y) (kf : ¬ x < y' → xG X (pc + 3) lo st f y) : xG X pc lo (.int y' :: .int x :: st) f y := fun H locs ls hz hP hS hL => lv_icmp_lt O.hx O.hb hd ht (fun q => kt q H locs ls hz hP hS hL) (fun q => kf q H locs ls hz hP hS hL)
theorem xg_if_ge (O : xO X cc nL own hh mc ms ini) {off : Int} {tg : Nat} {x : Int32} (hd : decode cc pc = .ok (.ifCond .ge off, 3)) (ht : (pc : Int) + off = (tg : Int)) (kt : 0 ≤ x → xG X (tg) lo st f y) (kf : ¬ 0 ≤ x → xG X (pc + 3) lo st f y) : xG X pc lo (.int x :: st) f y := fun H locs ls hz hP hS hL => lv_if_ge O.hx O.hb hd ht (fun q => kt q H locs ls hz hP hS hL) (fun q => kf q H locs ls hz hP hS hL)
theorem xg_icmp_ge (O : xO X cc nL own hh mc ms ini) {off : Int} {tg : Nat} {x y' : Int32} (hd : decode cc pc = .ok (.if_icmp .ge off, 3)) (ht : (pc : Int) + off = (tg : Int)) (kt : y' ≤ x → xG X (tg) lo st f y) (kf : ¬ y' ≤ x → xG X (pc + 3) lo st f y) : xG X pc lo (.int y' :: .int x :: st) f y := fun H locs ls hz hP hS hL => lv_icmp_ge O.hx O.hb hd ht (fun q => kt q H locs ls hz hP hS hL) (fun q => kf q H locs ls hz hP hS hL)
theorem xg_if_gt (O : xO X cc nL own hh mc ms ini) {off : Int} {tg : Nat} {x : Int32} (hd : decode cc pc = .ok (.ifCond .gt off, 3)) (ht : (pc : Int) + off = (tg : Int)) (kt : 0 < x → xG X (tg) lo st f y) (kf : ¬ 0 < x → xG X (pc + 3) lo st f y) : xG X pc lo (.int x :: st) f y := fun H locs ls hz hP hS hL => lv_if_gt O.hx O.hb hd ht (fun q => kt q H locs ls hz hP hS hL) (fun q => kf q H locs ls hz hP hS hL)
theorem xg_icmp_gt (O : xO X cc nL own hh mc ms ini) {off : Int} {tg : Nat} {x y' : Int32} (hd : decode cc pc = .ok (.if_icmp .gt off, 3)) (ht : (pc : Int) + off = (tg : Int)) (kt : y' < x → xG X (tg) lo st f y) (kf : ¬ y' < x → xG X (pc + 3) lo st f y) : xG X pc lo (.int y' :: .int x :: st) f y := fun H locs ls hz hP hS hL => lv_icmp_gt O.hx O.hb hd ht (fun q => kt q H locs ls hz hP hS hL) (fun q => kf q H locs ls hz hP hS hL)
theorem xg_if_le (O : xO X cc nL own hh mc ms ini) {off : Int} {tg : Nat} {x : Int32} (hd : decode cc pc = .ok (.ifCond .le off, 3)) (ht : (pc : Int) + off = (tg : Int)) (kt : x ≤ 0 → xG X (tg) lo st f y) (kf : ¬ x ≤ 0 → xG X (pc + 3) lo st f y) : xG X pc lo (.int x :: st) f y := fun H locs ls hz hP hS hL => lv_if_le O.hx O.hb hd ht (fun q => kt q H locs ls hz hP hS hL) (fun q => kf q H locs ls hz hP hS hL)
theorem xg_icmp_le (O : xO X cc nL own hh mc ms ini) {off : Int} {tg : Nat} {x y' : Int32} (hd : decode cc pc = .ok (.if_icmp .le off, 3)) (ht : (pc : Int) + off = (tg : Int)) (kt : x ≤ y' → xG X (tg) lo st f y) (kf : ¬ x ≤ y' → xG X (pc + 3) lo st f y) : xG X pc lo (.int y' :: .int x :: st) f y := fun H locs ls hz hP hS hL => lv_icmp_le O.hx O.hb hd ht (fun q => kt q H locs ls hz hP hS hL) (fun q => kf q H locs ls hz hP hS hL)
theorem xg_goto (O : xO X cc nL own hh mc ms ini) {off : Int} {tg : Nat} (hd : decode cc pc = .ok (.goto off, 3)) (ht : (pc : Int) + off = (tg : Int)) (k : xG X tg lo st f y) : xG X pc lo st f y := fun H locs ls hz hP hS hL => lv_goto O.hx O.hb hd ht (k H locs ls hz hP hS hL)
theorem xg_ldc (O : xO X cc nL own hh mc ms ini) {idx : Nat} {v : Int32} (hd : decode cc pc = .ok (.ldc idx, 2)) (hc : Cond.constant own idx v ∈ xTT) (k : xG X (pc + 2) lo (.int v :: st) f y) : xG X pc lo st f y := fun H locs ls hz hP hS hL => lv_ldc O.hx O.hb O.hown (O.hts _ hc) hd (k H locs ls hz hP hS hL)
theorem xg_ldc2 (O : xO X cc nL own hh mc ms ini) {idx : Nat} {v : Int64} (hd : decode cc pc = .ok (.ldc2_w idx, 3)) (hc : Cond.constantLong own idx v ∈ xTT) (k : xG X (pc + 3) lo (.long v :: st) f y) : xG X pc lo st f y := fun H locs ls hz hP hS hL => lv_ldc2 O.hx O.hb O.hown (O.hts _ hc) hd (k H locs ls hz hP hS hL)
/-! fields -/
theorem xg_getfield (O : xO X cc nL own hh mc ms ini) {idx ci k0 a : Nat} {fs : List Value} {v : Value} (hd : decode cc pc = .ok (.getfield idx, 3)) (hp : xPoolOK own (idx, ci, k0)) (hf : f a = some (xOb ci fs)) (hv : fs[k0]? = some v) (k : xG X (pc + 3) lo (v :: st) f y) : xG X pc lo (.ref a :: st) f y := by
  intro H locs ls hz hP hS hL
  obtain ⟨r, hr, hk, hl⟩ := hp
  have hc := xcls hr
  refine va_get (D := xCD X) (cl := vwCl) (tys := []) (ws := [(a, .inr (ci, fs))]) (C := r.1) (T := r.2.1) (N := r.2.2) O.hx O.hb O.hts hc.1 O.hown O.hK (fun k q hq => ?_) 0 rfl hr k0 hk (O.hts _ hl) (fun _ h => h) hv hd (k H locs ls hz hP hS hL)
  have hz : k < 1 := (List.getElem?_eq_some_iff.mp hq).1
  rw [show k = 0 by omega] at hq
  cases hq
  exact (hP a _ hf).2
/-- may the value be put into the field? -/
def xfit (ini : Bool) (own : String) (ci k : Nat) (v : Value) : Prop := ∃ r : vw_C, vwCl[ci]? = some r ∧ ((r.2.1 k).2.2.2 = true → ini = true ∧ (r.2.1 k).1 = own) ∧ ∃ ty, parseFieldDescriptor (r.2.1 k).2.2.1 = some ty ∧ narrow ty v = v ∧ fits ty v = true
theorem xg_putfield (O : xO X cc nL own hh mc ms ini) {idx ci k0 a : Nat} {fs : List Value} {v : Value} (hd : decode cc pc = .ok (.putfield idx, 3)) (hp : xPoolOK own (idx, ci, k0)) (hf : f a = some (xOb ci fs)) (ht : xfit ini own ci k0 v) (hl0 : k0 < fs.length) (k : xG X (pc + 3) lo st (xu f a (xOb ci (fs.set k0 v))) y) : xG X pc lo (v :: .ref a :: st) f y := by
  intro H locs ls hz hP hS hL
  obtain ⟨r, hr, hk, hl⟩ := hp
  obtain ⟨r', hr', hfin, ty, hty, hn, hfit⟩ := ht
  cases hr.symm.trans hr'
  obtain ⟨hin, ty0, hty0, hnm⟩ := xcls hr
  have hap := va_apart (own := own) O.hts hin ty0 hty0 hnm O.hK hr
  obtain ⟨ha0, r2, h2, cell, q1, q2, q3, q4⟩ := hP a _ hf
  cases hr.symm.trans h2
  obtain ⟨hSl, hfc, kC, hkC, hkind⟩ := O.hK.1 ci _ hr
  obtain ⟨cf, kf, fi, fd, hi, hsl⟩ := hSl k0 hk
  have hst := (u_facts hfc hkC (u_lays O.hts hin hk) hi).1
  have fin : ∀ H' : Heap, H'[a]? = some (cell.setSlot fd.slot v) → H'.size = H.size → (∀ q, q ≠ a → H'[q]? = H[q]?) → xW X H' (locs ++ [⟨a, fd.slot⟩]) y.2.1 y.2.2 (F0 (xCm X) (pc + 3) ls st) := by
    intro H' e1 e2 e3
    rw [hsl] at e1
    refine k H' _ ls (e2.trans hz) (hP.set ha0 ?_ e3) (hS.put e2 e3 ha0) hL
    exact ⟨_, hr, t_OB.to (V := updV (vp_V fs) k0 v) ⟨_, e1, q2, q3, t_set q4 hap hk v⟩ (fun j _ => vp_updV_set hl0 v j)⟩
  have hlay := O.hts _ (hin _ (u_in_lay hk))
  unfold u_lay at hlay
  by_cases hf2 : (r.2.1 k0).2.2.2 = true
  · rw [if_pos hf2] at hlay
    obtain ⟨hini, hdecl⟩ := hfin hf2
    have hcf : (xCm X).cls = cf := by
      obtain ⟨_, _, c', _, _, _, -, -, hf', -, -, -, hown2, -⟩ := Cond.laysFinal_spec hlay
      have e1 : c' = cf := by have := hi.symm.trans hf'; simp at this; exact this.1.symm
      rw [hdecl] at hown2
      rw [← e1]; exact Option.some.inj (O.hown.symm.trans hown2)
    have h6 := u_fits hfc hkC hkind (Or.inr hlay) hi hty hn hfit
    exact W.putFinK O.hx O.hb O.hown (O.hts _ hl) hi hst hcf (O.hi hini) (by rw [q2]; exact h6) q1 q3 (by rw [hsl]; exact k2_hasslot (q4 k0 hk)) rfl rfl hd fin
  · rw [if_neg hf2] at hlay
    have h6 := u_store hfc hkC hkind hlay hi hty hn hfit
    exact W.putK O.hx O.hb (f := fd) ⟨O.hown, O.hts _ hl, ⟨_, _, _, hi⟩, hst⟩ (by rw [q2]; exact h6) q1 q3 (by rw [hsl]; exact k2_hasslot (q4 k0 hk)) rfl rfl hd fin
/-! arrays -/
theorem xg_iaload (O : xO X cc nL own hh mc ms ini) {a n : Nat} {g : Nat → Int32} {i : Int32} (hd : decode cc pc = .ok (.iaload, 1)) (hf : f a = some (.inl (.int, n, .inl g))) (hin : vp_in i n) (k : xG X (pc + 1) lo (.int (g i.toNatClampNeg) :: st) f y) : xG X pc lo (.int i :: .ref a :: st) f y := by
  intro H locs ls hz hP hS hL
  obtain ⟨ha0, cA, h1, h2, h3⟩ := hP a _ hf
  refine va_iald (D := xCD X) (cl := vwCl) (tys := [(cA, .int)]) (ws := [(a, .inl (cA, n, .inl g))]) O.hx O.hb ⟨O.hK.1, fun k q hq => ?_⟩ (fun k q hq => ?_) 0 0 rfl rfl hin hd (k H locs ls hz hP hS hL)
  · have hz : k < 1 := (List.getElem?_eq_some_iff.mp hq).1
    rw [show k = 0 by omega] at hq
    cases hq
    exact ⟨h1, h2⟩
  · have hz : k < 1 := (List.getElem?_eq_some_iff.mp hq).1
    rw [show k = 0 by omega] at hq
    cases hq
    exact h3
theorem xg_baload (O : xO X cc nL own hh mc ms ini) {a n : Nat} {g : Nat → Int32} {i : Int32} (hd : decode cc pc = .ok (.baload, 1)) (hf : f a = some (.inl (.byte, n, .inl g))) (hin : vp_in i n) (k : xG X (pc + 1) lo (.int (g i.toNatClampNeg) :: st) f y) : xG X pc lo (.int i :: .ref a :: st) f y := by
  intro H locs ls hz hP hS hL
  obtain ⟨ha0, cA, h1, h2, h3⟩ := hP a _ hf
  refine va_bald (D := xCD X) (cl := vwCl) (tys := [(cA, .byte)]) (ws := [(a, .inl (cA, n, .inl g))]) O.hx O.hb ⟨O.hK.1, fun k q hq => ?_⟩ (fun k q hq => ?_) 0 0 rfl rfl hin hd (k H locs ls hz hP hS hL)
  · have hz : k < 1 := (List.getElem?_eq_some_iff.mp hq).1
    rw [show k = 0 by omega] at hq
    cases hq
    exact ⟨h1, h2⟩
  · have hz : k < 1 := (List.getElem?_eq_some_iff.mp hq).1
    rw [show k = 0 by omega] at hq
    cases hq
    exact h3
theorem xg_laload (O : xO X cc nL own hh mc ms ini) {a n : Nat} {g : Nat → Int64} {i : Int32} (hd : decode cc pc = .ok (.laload, 1)) (hf : f a = some (.inl (.long, n, .inr (.inl g)))) (hin : vp_in i n) (k : xG X (pc + 1) lo (.long (g i.toNatClampNeg) :: st) f y) : xG X pc lo (.int i :: .ref a :: st) f y := by
  intro H locs ls hz hP hS hL
  obtain ⟨ha0, cA, h1, h2, h3⟩ := hP a _ hf
  refine va_lald (D := xCD X) (cl := vwCl) (tys := [(cA, .long)]) (ws := [(a, .inl (cA, n, .inr (.inl g)))]) O.hx O.hb ⟨O.hK.1, fun k q hq => ?_⟩ (fun k q hq => ?_) 0 0 rfl rfl hin hd (k H locs ls hz hP hS hL)
  · have hz : k < 1 := (List.getElem?_eq_some_iff.mp hq).1
    rw [show k = 0 by omega] at hq
    cases hq
    exact ⟨h1, h2⟩
  · have hz : k < 1 := (List.getElem?_eq_some_iff.mp hq).1
    rw [show k = 0 by omega] at hq
    cases hq
    exact h3
theorem xg_aaload (O : xO X cc nL own hh mc ms ini) {a n b : Nat} {g : Nat → Option Nat} {i : Int32} (hd : decode cc pc = .ok (.aaload, 1)) (hf : f a = some (xR n g)) (hin : vp_in i n) (hg : g i.toNatClampNeg = some b) (k : xG X (pc + 1) lo (.ref b :: st) f y) : xG X pc lo (.int i :: .ref a :: st) f y := by
  intro H locs ls hz hP hS hL
  obtain ⟨ha0, cA, h1, h2, h3⟩ := hP a _ hf
  refine va_aldq (D := xCD X) (cl := vwCl) (tys := [(cA, .object RX1)]) (ws := [(a, .inl (cA, n, .inr (.inr (.inr (.inr g)))))]) O.hx O.hb ⟨O.hK.1, fun k q hq => ?_⟩ (fun k q hq => ?_) 0 0 rfl rfl hin hd ?_
  · have hz : k < 1 := (List.getElem?_eq_some_iff.mp hq).1
    rw [show k = 0 by omega] at hq
    cases hq
    exact ⟨h1, h2⟩
  · have hz : k < 1 := (List.getElem?_eq_some_iff.mp hq).1
    rw [show k = 0 by omega] at hq
    cases hq
    exact h3
  · rw [hg]
    exact k H locs ls hz hP hS hL
theorem xg_iastore (O : xO X cc nL own hh mc ms ini) {a n : Nat} {g : Nat → Int32} {i : Int32} {x : Int32} (hd : decode cc pc = .ok (.iastore, 1)) (hf : f a = some (.inl (.int, n, .inl g))) (hin : vp_in i n) (k : xG X (pc + 1) lo st (xu f a (.inl (.int, n, .inl (upd g i.toNatClampNeg x)))) y) : xG X pc lo (.int x :: .int i :: .ref a :: st) f y := by
  intro H locs ls hz hP hS hL
  obtain ⟨ha0, cA, h1, h2, h3⟩ := hP a _ hf
  refine W.iast O.hx O.hb h3 (h1 n (fun j => .int (g j))) (fun q => by cases q) (by show ¬ (i < 0 ∨ (arrV _ _ _).slots.size ≤ _); rw [arrV_size]; exact hin) rfl rfl hd fun H1 e z oq => ?_
  refine k H1 _ ls (z.trans hz) (hP.set ha0 ⟨cA, h1, h2, ?_⟩ oq) (hS.put z oq ha0) hL
  rw [e]
  rw [vp_cell_i, vp_cell_i, arrV_store]
  congr 2
  funext q
  by_cases hq : q = i.toNatClampNeg
  · subst hq
    simp [updV, upd]
  · simp [updV, upd, hq]
theorem xg_lastore (O : xO X cc nL own hh mc ms ini) {a n : Nat} {g : Nat → Int64} {i : Int32} {x : Int64} (hd : decode cc pc = .ok (.lastore, 1)) (hf : f a = some (.inl (.long, n, .inr (.inl g)))) (hin : vp_in i n) (k : xG X (pc + 1) lo st (xu f a (.inl (.long, n, .inr (.inl (vp_updL g i.toNatClampNeg x))))) y) : xG X pc lo (.long x :: .int i :: .ref a :: st) f y := by
  intro H locs ls hz hP hS hL
  obtain ⟨ha0, cA, h1, h2, h3⟩ := hP a _ hf
  refine W.last O.hx O.hb h3 (h1 n (fun j => .long (g j))) (fun q => by cases q) (by show ¬ (i < 0 ∨ (arrV _ _ _).slots.size ≤ _); rw [arrV_size]; exact hin) rfl rfl hd fun H1 e z oq => ?_
  refine k H1 _ ls (z.trans hz) (hP.set ha0 ⟨cA, h1, h2, ?_⟩ oq) (hS.put z oq ha0) hL
  rw [e]
  rw [vp_cell_l, vp_cell_l, arrV_store]
  congr 2
  funext q
  by_cases hq : q = i.toNatClampNeg
  · subst hq
    simp [updV, vp_updL]
  · simp [updV, vp_updL, hq]
theorem xg_bastore (O : xO X cc nL own hh mc ms ini) {a n : Nat} {g : Nat → Int32} {i : Int32} {x : Int32} (hd : decode cc pc = .ok (.bastore, 1)) (hf : f a = some (.inl (.byte, n, .inl g))) (hin : vp_in i n) (k : xG X (pc + 1) lo st (xu f a (.inl (.byte, n, .inl (upd g i.toNatClampNeg x.toInt8.toInt32)))) y) : xG X pc lo (.int x :: .int i :: .ref a :: st) f y := by
  intro H locs ls hz hP hS hL
  obtain ⟨ha0, cA, h1, h2, h3⟩ := hP a _ hf
  refine W.bast O.hx O.hb h3 (h1 n (fun j => .int (g j))) (fun q => by cases q) (by show ¬ (i < 0 ∨ (arrV _ _ _).slots.size ≤ _); rw [arrV_size]; exact hin) rfl rfl hd fun H1 e z oq => ?_
  refine k H1 _ ls (z.trans hz) (hP.set ha0 ⟨cA, h1, h2, ?_⟩ oq) (hS.put z oq ha0) hL
  rw [e]
  rw [narrow_byte]
  rw [vp_cell_i, vp_cell_i, arrV_store]
  congr 2
  funext q
  by_cases hq : q = i.toNatClampNeg
  · subst hq
    simp [updV, upd]
  · simp [updV, upd, hq]
theorem xg_aastore (O : xO X cc nL own hh mc ms ini) {a n b : Nat} {g : Nat → Option Nat} {i : Int32} {fs : List Value} (hd : decode cc pc = .ok (.aastore, 1)) (hf : f a = some (xR n g)) (hb0 : f b = some (xOb 1 fs)) (hin : vp_in i n) (k : xG X (pc + 1) lo st (xu f a (xR n (va_up g i.toNatClampNeg (some b)))) y) : xG X pc lo (.ref b :: .int i :: .ref a :: st) f y := by
  intro H locs ls hz hP hS hL
  obtain ⟨ha0, cA, h1, h2, h3⟩ := hP a _ hf
  obtain ⟨hb1, r', hr', cellV, g1, g2, g3, -⟩ := hP b _ hb0
  have hlt : i.toNatClampNeg < n := Nat.not_le.mp fun q => hin (Or.inr q)
  have h0 : ¬ i < 0 := fun q => hin (Or.inl q)
  have hcls := (O.hK.1 1 (RX1, TX1, 4) rfl).2
  obtain ⟨kA, comp, k1, k2, k3, k4⟩ := id h2
  have hcomp : comp = (xCD X).1 1 := Option.some.inj (k3.symm.trans hcls.1)
  subst hcomp
  obtain ⟨kC, hkC, -⟩ := hcls.2
  refine W.aast O.hx O.hb h3 (fun q h => by cases h) (fun h => by cases h) k1 k2 rfl hkC ⟨h0, by show _ < (arrV _ _ _).slots.size; rw [arrV_size]; exact hlt⟩ g1 (fun q h => by rw [g3] at h; cases h) (by rw [g2]; exact hkC) (by rw [g2]; exact va_assign hcls) rfl rfl hd fun H1 e z oq => ?_
  refine k H1 _ ls (z.trans hz) (hP.set ha0 ⟨cA, h1, h2, ?_⟩ oq) (hS.put z oq ha0) hL
  rw [e]
  rw [vp_cell_q, vp_cell_q, arrV_store]
  congr 2
  funext q
  by_cases hq : q = i.toNatClampNeg
  · subst hq
    simp [updV, va_up, va_rf]
  · simp [updV, va_up, hq]
theorem xg_alen (O : xO X cc nL own hh mc ms ini) {a : Nat} {ty : FieldType} {x : vp_A} (hd : decode cc pc = .ok (.arraylength, 1)) (hf : f a = some (.inl (ty, x))) (k : xG X (pc + 1) lo (.int (Int32.ofNat x.1) :: st) f y) : xG X pc lo (.ref a :: st) f y := by
  intro H locs ls hz hP hS hL
  obtain ⟨ha0, cA, h1, h2, h3⟩ := hP a _ hf
  refine va_alen (D := xCD X) (cl := vwCl) (tys := [(cA, ty)]) (ws := [(a, .inl (cA, x))]) O.hx O.hb ⟨O.hK.1, fun k q hq => ?_⟩ (fun k q hq => ?_) 0 0 rfl rfl rfl hd (k H locs ls hz hP hS hL)
  · have hz : k < 1 := (List.getElem?_eq_some_iff.mp hq).1
    rw [show k = 0 by omega] at hq
    cases hq
    exact ⟨h1, h2⟩
  · have hz : k < 1 := (List.getElem?_eq_some_iff.mp hq).1
    rw [show k = 0 by omega] at hq
    cases hq
    exact h3
/-! returns -/
theorem xg_end (O : xO X cc nL own hh mc ms ini) {ret : Option FieldType} {post : Option Value → xH → Nat → Prop} {r : Option Value} (hp : post r f y.1) {H : Heap} {locs : List Loc} (hz : H.size = y.1) (hP : xP (xCD X) (xCs X) (xCz X) f H) (hS : va_S (xA X) (xCs X).heap H locs) : ∀ t : State, t.heap = H → (xCs X).WarmedH t.vm → xQ (xCv X) post (xCa X) (xCs X) (.returned r) t :=
  fun t ht hW => ⟨r, f, y.1, rfl, hp, by rw [ht]; exact hz, by rw [ht]; exact hP.moved hW.alike, hS.F ht⟩
theorem xg_ireturn (O : xO X cc nL own hh mc ms ini) {ty : FieldType} {post : Option Value → xH → Nat → Prop} {v : Int32} (Rt : xRt X (some ty) mc ms post) (hd : decode cc pc = .ok (.ireturn, 1)) (hn : narrow ty (.int v) = .int v) (hp : post (some (.int v)) f y.1) (h1 : y.2.1 ≤ mc) (h2 : y.2.2 ≤ ms) : xG X pc lo [.int v] f y := by
  intro H locs ls hz hP hS hL
  obtain ⟨hr, hlk, hQ⟩ := Rt
  show W _ _ _ _ _ _ _ _ _ _ _ _ _ _ (xCQ X) _
  rw [hQ]
  exact W.widen h1 h2 (W.zret O.hx O.hb hr hn (xg_end O (ret := some ty) hp hz hP hS) hS.2.2 hd hlk)
theorem xg_lreturn (O : xO X cc nL own hh mc ms ini) {post : Option Value → xH → Nat → Prop} {v : Int64} (Rt : xRt X (some .long) mc ms post) (hd : decode cc pc = .ok (.lreturn, 1)) (hp : post (some (.long v)) f y.1) (h1 : y.2.1 ≤ mc) (h2 : y.2.2 ≤ ms) : xG X pc lo [.long v] f y := by
  intro H locs ls hz hP hS hL
  obtain ⟨hr, hlk, hQ⟩ := Rt
  show W _ _ _ _ _ _ _ _ _ _ _ _ _ _ (xCQ X) _
  rw [hQ]
  exact W.widen h1 h2 (W.lret O.hx O.hb hr (xg_end O (ret := some .long) hp hz hP hS) hS.2.2 hd hlk)
theorem xg_areturn (O : xO X cc nL own hh mc ms ini) {C : String} {post : Option Value → xH → Nat → Prop} {v : Nat} (Rt : xRt X (some (.object C)) mc ms post) (hd : decode cc pc = .ok (.areturn, 1)) (hp : post (some (.ref v)) f y.1) (h1 : y.2.1 ≤ mc) (h2 : y.2.2 ≤ ms) : xG X pc lo [.ref v] f y := by
  intro H locs ls hz hP hS hL
  obtain ⟨hr, hlk, hQ⟩ := Rt
  show W _ _ _ _ _ _ _ _ _ _ _ _ _ _ (xCQ X) _
  rw [hQ]
  exact W.widen h1 h2 (W.aret O.hx O.hb hr (Or.inl ⟨C, rfl⟩) (Or.inr ⟨v, rfl⟩) (xg_end O (ret := some (.object C)) hp hz hP hS) hS.2.2 hd hlk)
theorem xg_return (O : xO X cc nL own hh mc ms ini) {post : Option Value → xH → Nat → Prop} (Rt : xRt X none mc ms post) (hd : decode cc pc = .ok (.return_, 1)) (hp : post none f y.1) (h1 : y.2.1 ≤ mc) (h2 : y.2.2 ≤ ms) : xG X pc lo [] f y := by
  intro H locs ls hz hP hS hL
  obtain ⟨hr, hlk, hQ⟩ := Rt
  show W _ _ _ _ _ _ _ _ _ _ _ _ _ _ (xCQ X) _
  rw [hQ]
  exact W.widen h1 h2 (W.vret O.hx O.hb hr (xg_end O (ret := none) hp hz hP hS) hS.2.2 hd hlk)
end XG
