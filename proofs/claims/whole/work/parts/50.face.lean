/-! ===== TuningTables: its world, its helpers ===== -/
theorem dX5_isStep_0 : decode cX5_isStep 0 = .ok (.iload_n 1, 1) := by decide +kernel
theorem dX5_isStep_1 : decode cX5_isStep 1 = .ok (.ifCond .lt 18, 3) := by decide +kernel
theorem dX5_isStep_4 : decode cX5_isStep 4 = .ok (.iload_n 1, 1) := by decide +kernel
theorem dX5_isStep_5 : decode cX5_isStep 5 = .ok (.aload_n 0, 1) := by decide +kernel
theorem dX5_isStep_6 : decode cX5_isStep 6 = .ok (.getfield 19, 3) := by decide +kernel
theorem dX5_isStep_9 : decode cX5_isStep 9 = .ok (.getfield 71, 3) := by decide +kernel
theorem dX5_isStep_12 : decode cX5_isStep 12 = .ok (.if_icmp .ge 7, 3) := by decide +kernel
theorem dX5_isStep_15 : decode cX5_isStep 15 = .ok (.iconst 1, 1) := by decide +kernel
theorem dX5_isStep_16 : decode cX5_isStep 16 = .ok (.goto 4, 3) := by decide +kernel
theorem dX5_isStep_19 : decode cX5_isStep 19 = .ok (.iconst 0, 1) := by decide +kernel
theorem dX5_isStep_20 : decode cX5_isStep 20 = .ok (.ireturn, 1) := by decide +kernel
theorem dX5_isStepOrPeriod_0 : decode cX5_isStepOrPeriod 0 = .ok (.iload_n 1, 1) := by decide +kernel
theorem dX5_isStepOrPeriod_1 : decode cX5_isStepOrPeriod 1 = .ok (.ifCond .lt 18, 3) := by decide +kernel
theorem dX5_isStepOrPeriod_4 : decode cX5_isStepOrPeriod 4 = .ok (.iload_n 1, 1) := by decide +kernel
theorem dX5_isStepOrPeriod_5 : decode cX5_isStepOrPeriod 5 = .ok (.aload_n 0, 1) := by decide +kernel
theorem dX5_isStepOrPeriod_6 : decode cX5_isStepOrPeriod 6 = .ok (.getfield 19, 3) := by decide +kernel
theorem dX5_isStepOrPeriod_9 : decode cX5_isStepOrPeriod 9 = .ok (.getfield 71, 3) := by decide +kernel
theorem dX5_isStepOrPeriod_12 : decode cX5_isStepOrPeriod 12 = .ok (.if_icmp .gt 7, 3) := by decide +kernel
theorem dX5_isStepOrPeriod_15 : decode cX5_isStepOrPeriod 15 = .ok (.iconst 1, 1) := by decide +kernel
theorem dX5_isStepOrPeriod_16 : decode cX5_isStepOrPeriod 16 = .ok (.goto 4, 3) := by decide +kernel
theorem dX5_isStepOrPeriod_19 : decode cX5_isStepOrPeriod 19 = .ok (.iconst 0, 1) := by decide +kernel
theorem dX5_isStepOrPeriod_20 : decode cX5_isStepOrPeriod 20 = .ok (.ireturn, 1) := by decide +kernel
theorem dX5_isPrime_0 : decode cX5_isPrime 0 = .ok (.iload_n 0, 1) := by decide +kernel
theorem dX5_isPrime_1 : decode cX5_isPrime 1 = .ok (.ifCond .lt 13, 3) := by decide +kernel
theorem dX5_isPrime_4 : decode cX5_isPrime 4 = .ok (.iload_n 0, 1) := by decide +kernel
theorem dX5_isPrime_5 : decode cX5_isPrime 5 = .ok (.bipush 6, 2) := by decide +kernel
theorem dX5_isPrime_7 : decode cX5_isPrime 7 = .ok (.if_icmp .ge 7, 3) := by decide +kernel
theorem dX5_isPrime_10 : decode cX5_isPrime 10 = .ok (.iconst 1, 1) := by decide +kernel
theorem dX5_isPrime_11 : decode cX5_isPrime 11 = .ok (.goto 4, 3) := by decide +kernel
theorem dX5_isPrime_14 : decode cX5_isPrime 14 = .ok (.iconst 0, 1) := by decide +kernel
theorem dX5_isPrime_15 : decode cX5_isPrime 15 = .ok (.ireturn, 1) := by decide +kernel
theorem dX5_isPartCount_0 : decode cX5_isPartCount 0 = .ok (.iload_n 0, 1) := by decide +kernel
theorem dX5_isPartCount_1 : decode cX5_isPartCount 1 = .ok (.iconst 1, 1) := by decide +kernel
theorem dX5_isPartCount_2 : decode cX5_isPartCount 2 = .ok (.if_icmp .lt 13, 3) := by decide +kernel
theorem dX5_isPartCount_5 : decode cX5_isPartCount 5 = .ok (.iload_n 0, 1) := by decide +kernel
theorem dX5_isPartCount_6 : decode cX5_isPartCount 6 = .ok (.bipush 36, 2) := by decide +kernel
theorem dX5_isPartCount_8 : decode cX5_isPartCount 8 = .ok (.if_icmp .gt 7, 3) := by decide +kernel
theorem dX5_isPartCount_11 : decode cX5_isPartCount 11 = .ok (.iconst 1, 1) := by decide +kernel
theorem dX5_isPartCount_12 : decode cX5_isPartCount 12 = .ok (.goto 4, 3) := by decide +kernel
theorem dX5_isPartCount_15 : decode cX5_isPartCount 15 = .ok (.iconst 0, 1) := by decide +kernel
theorem dX5_isPartCount_16 : decode cX5_isPartCount 16 = .ok (.ireturn, 1) := by decide +kernel
theorem dX5_mayLink_0 : decode cX5_mayLink 0 = .ok (.iload_n 0, 1) := by decide +kernel
theorem dX5_mayLink_1 : decode cX5_mayLink 1 = .ok (.bipush (-2), 2) := by decide +kernel
theorem dX5_mayLink_3 : decode cX5_mayLink 3 = .ok (.if_icmp .lt 12, 3) := by decide +kernel
theorem dX5_mayLink_6 : decode cX5_mayLink 6 = .ok (.iload_n 0, 1) := by decide +kernel
theorem dX5_mayLink_7 : decode cX5_mayLink 7 = .ok (.iconst 2, 1) := by decide +kernel
theorem dX5_mayLink_8 : decode cX5_mayLink 8 = .ok (.if_icmp .gt 7, 3) := by decide +kernel
theorem dX5_mayLink_11 : decode cX5_mayLink 11 = .ok (.iconst 1, 1) := by decide +kernel
theorem dX5_mayLink_12 : decode cX5_mayLink 12 = .ok (.goto 4, 3) := by decide +kernel
theorem dX5_mayLink_15 : decode cX5_mayLink 15 = .ok (.iconst 0, 1) := by decide +kernel
theorem dX5_mayLink_16 : decode cX5_mayLink 16 = .ok (.ireturn, 1) := by decide +kernel
theorem dJ9_floorDiv_7cf53_0 : decode cJ9_floorDiv_7cf53 0 = .ok (.iload_n 0, 1) := by decide +kernel
theorem dJ9_floorDiv_7cf53_1 : decode cJ9_floorDiv_7cf53 1 = .ok (.iload_n 1, 1) := by decide +kernel
theorem dJ9_floorDiv_7cf53_2 : decode cJ9_floorDiv_7cf53 2 = .ok (.idiv, 1) := by decide +kernel
theorem dJ9_floorDiv_7cf53_3 : decode cJ9_floorDiv_7cf53 3 = .ok (.istore_n 2, 1) := by decide +kernel
theorem dJ9_floorDiv_7cf53_4 : decode cJ9_floorDiv_7cf53 4 = .ok (.iload_n 0, 1) := by decide +kernel
theorem dJ9_floorDiv_7cf53_5 : decode cJ9_floorDiv_7cf53 5 = .ok (.iload_n 1, 1) := by decide +kernel
theorem dJ9_floorDiv_7cf53_6 : decode cJ9_floorDiv_7cf53 6 = .ok (.ixor, 1) := by decide +kernel
theorem dJ9_floorDiv_7cf53_7 : decode cJ9_floorDiv_7cf53 7 = .ok (.ifCond .ge 14, 3) := by decide +kernel
theorem dJ9_floorDiv_7cf53_10 : decode cJ9_floorDiv_7cf53 10 = .ok (.iload_n 2, 1) := by decide +kernel
theorem dJ9_floorDiv_7cf53_11 : decode cJ9_floorDiv_7cf53 11 = .ok (.iload_n 1, 1) := by decide +kernel
theorem dJ9_floorDiv_7cf53_12 : decode cJ9_floorDiv_7cf53 12 = .ok (.imul, 1) := by decide +kernel
theorem dJ9_floorDiv_7cf53_13 : decode cJ9_floorDiv_7cf53 13 = .ok (.iload_n 0, 1) := by decide +kernel
theorem dJ9_floorDiv_7cf53_14 : decode cJ9_floorDiv_7cf53 14 = .ok (.if_icmp .eq 7, 3) := by decide +kernel
theorem dJ9_floorDiv_7cf53_17 : decode cJ9_floorDiv_7cf53 17 = .ok (.iload_n 2, 1) := by decide +kernel
theorem dJ9_floorDiv_7cf53_18 : decode cJ9_floorDiv_7cf53 18 = .ok (.iconst 1, 1) := by decide +kernel
theorem dJ9_floorDiv_7cf53_19 : decode cJ9_floorDiv_7cf53 19 = .ok (.isub, 1) := by decide +kernel
theorem dJ9_floorDiv_7cf53_20 : decode cJ9_floorDiv_7cf53 20 = .ok (.ireturn, 1) := by decide +kernel
theorem dJ9_floorDiv_7cf53_21 : decode cJ9_floorDiv_7cf53 21 = .ok (.iload_n 2, 1) := by decide +kernel
theorem dJ9_floorDiv_7cf53_22 : decode cJ9_floorDiv_7cf53 22 = .ok (.ireturn, 1) := by decide +kernel
theorem dX5_place_0 : decode cX5_place 0 = .ok (.aload_n 0, 1) := by decide +kernel
theorem dX5_place_1 : decode cX5_place 1 = .ok (.getfield 10, 3) := by decide +kernel
theorem dX5_place_4 : decode cX5_place 4 = .ok (.getfield 74, 3) := by decide +kernel
theorem dX5_place_7 : decode cX5_place 7 = .ok (.ireturn, 1) := by decide +kernel
theorem dX5_steps_0 : decode cX5_steps 0 = .ok (.aload_n 0, 1) := by decide +kernel
theorem dX5_steps_1 : decode cX5_steps 1 = .ok (.getfield 19, 3) := by decide +kernel
theorem dX5_steps_4 : decode cX5_steps 4 = .ok (.getfield 71, 3) := by decide +kernel
theorem dX5_steps_7 : decode cX5_steps 7 = .ok (.ireturn, 1) := by decide +kernel
theorem dX5_exponent_0 : decode cX5_exponent 0 = .ok (.aload_n 0, 1) := by decide +kernel
theorem dX5_exponent_1 : decode cX5_exponent 1 = .ok (.iload_n 1, 1) := by decide +kernel
theorem dX5_exponent_2 : decode cX5_exponent 2 = .ok (.invokevirtual 77, 3) := by decide +kernel
theorem dX5_exponent_5 : decode cX5_exponent 5 = .ok (.ifCond .ne 6, 3) := by decide +kernel
theorem dX5_exponent_8 : decode cX5_exponent 8 = .ok (.ldc 80, 2) := by decide +kernel
theorem dX5_exponent_10 : decode cX5_exponent 10 = .ok (.ireturn, 1) := by decide +kernel
theorem dX5_exponent_11 : decode cX5_exponent 11 = .ok (.iload_n 2, 1) := by decide +kernel
theorem dX5_exponent_12 : decode cX5_exponent 12 = .ok (.invokestatic 81, 3) := by decide +kernel
theorem dX5_exponent_15 : decode cX5_exponent 15 = .ok (.ifCond .eq 19, 3) := by decide +kernel
theorem dX5_exponent_18 : decode cX5_exponent 18 = .ok (.aload_n 0, 1) := by decide +kernel
theorem dX5_exponent_19 : decode cX5_exponent 19 = .ok (.getfield 19, 3) := by decide +kernel
theorem dX5_exponent_22 : decode cX5_exponent 22 = .ok (.iload_n 1, 1) := by decide +kernel
theorem dX5_exponent_23 : decode cX5_exponent 23 = .ok (.invokevirtual 84, 3) := by decide +kernel
theorem dX5_exponent_26 : decode cX5_exponent 26 = .ok (.getfield 88, 3) := by decide +kernel
theorem dX5_exponent_29 : decode cX5_exponent 29 = .ok (.iload_n 2, 1) := by decide +kernel
theorem dX5_exponent_30 : decode cX5_exponent 30 = .ok (.iaload, 1) := by decide +kernel
theorem dX5_exponent_31 : decode cX5_exponent 31 = .ok (.goto 5, 3) := by decide +kernel
theorem dX5_exponent_34 : decode cX5_exponent 34 = .ok (.ldc 47, 2) := by decide +kernel
theorem dX5_exponent_36 : decode cX5_exponent 36 = .ok (.ireturn, 1) := by decide +kernel
theorem dX5_reduce_0 : decode cX5_reduce 0 = .ok (.aload_n 0, 1) := by decide +kernel
theorem dX5_reduce_1 : decode cX5_reduce 1 = .ok (.iload_n 1, 1) := by decide +kernel
theorem dX5_reduce_2 : decode cX5_reduce 2 = .ok (.invokevirtual 108, 3) := by decide +kernel
theorem dX5_reduce_5 : decode cX5_reduce 5 = .ok (.ifCond .eq 15, 3) := by decide +kernel
theorem dX5_reduce_8 : decode cX5_reduce 8 = .ok (.aload_n 0, 1) := by decide +kernel
theorem dX5_reduce_9 : decode cX5_reduce 9 = .ok (.getfield 19, 3) := by decide +kernel
theorem dX5_reduce_12 : decode cX5_reduce 12 = .ok (.getfield 111, 3) := by decide +kernel
theorem dX5_reduce_15 : decode cX5_reduce 15 = .ok (.iload_n 1, 1) := by decide +kernel
theorem dX5_reduce_16 : decode cX5_reduce 16 = .ok (.iaload, 1) := by decide +kernel
theorem dX5_reduce_17 : decode cX5_reduce 17 = .ok (.goto 5, 3) := by decide +kernel
theorem dX5_reduce_20 : decode cX5_reduce 20 = .ok (.ldc 80, 2) := by decide +kernel
theorem dX5_reduce_22 : decode cX5_reduce 22 = .ok (.ireturn, 1) := by decide +kernel
theorem dX5_order_0 : decode cX5_order 0 = .ok (.aload_n 0, 1) := by decide +kernel
theorem dX5_order_1 : decode cX5_order 1 = .ok (.iload_n 1, 1) := by decide +kernel
theorem dX5_order_2 : decode cX5_order 2 = .ok (.invokevirtual 108, 3) := by decide +kernel
theorem dX5_order_5 : decode cX5_order 5 = .ok (.ifCond .eq 15, 3) := by decide +kernel
theorem dX5_order_8 : decode cX5_order 8 = .ok (.aload_n 0, 1) := by decide +kernel
theorem dX5_order_9 : decode cX5_order 9 = .ok (.getfield 19, 3) := by decide +kernel
theorem dX5_order_12 : decode cX5_order 12 = .ok (.getfield 114, 3) := by decide +kernel
theorem dX5_order_15 : decode cX5_order 15 = .ok (.iload_n 1, 1) := by decide +kernel
theorem dX5_order_16 : decode cX5_order 16 = .ok (.iaload, 1) := by decide +kernel
theorem dX5_order_17 : decode cX5_order 17 = .ok (.goto 5, 3) := by decide +kernel
theorem dX5_order_20 : decode cX5_order 20 = .ok (.ldc 80, 2) := by decide +kernel
theorem dX5_order_22 : decode cX5_order 22 = .ok (.ireturn, 1) := by decide +kernel
abbrev x5 (w : Nat) : xE := xOb 5 [.ref (w + 1), .ref (w + 4), .ref (w + 111), .ref (w + 119)]
/-- what holds of a scale: c steps xs, the period P, s the order of the reduced ones -/
def Spc (c : Nat) (xs : Nat → xZ) (P : xZ) (s : Nat → Nat) : Prop := 1 ≤ c ∧ c ≤ 24 ∧ xs 0 = (fun _ => 0) ∧ (∀ j, j < c → Stp' (xs j)) ∧ (∀ j, j < c → bd (rdc (xs j) P) 1000) ∧ Per P ∧ (∀ k, k < 6 → 0 ≤ P k) ∧ Srt s c (fun j => sz (rdc (xs j) P))
def TxW (f : xH) (w : Nat) (t : Nat → Nat) (n : Nat) (pl : Int32) : Prop := n ≤ 300 ∧ ∃ (bt g : Nat → Int32) (cc a4 a6 a7 a8 : Int32), f (w + 1) = some (xTx w (nI n) cc a4 pl a6 a7 a8) ∧ f (w + 2) = some (xB 300 bt) ∧ f (w + 3) = some (xI 144 g) ∧ Byt bt t n
def ScC (f : xH) (w c : Nat) (xs : Nat → xZ) (P : xZ) (s : Nat → Nat) : Prop := ∃ (ps : Nat → Nat) (rs : Nat → xZ) (tk so : Nat → Int32), ScW f w c ps xs rs tk so P ∧ (∀ j, j < c → (tk j).toInt = qd (xs j) P) ∧ (∀ j, j < c → rs j = rdc (xs j) P) ∧ ∀ j, j < c → so j = nI (s j)
def PaW (f : xH) (w : Nat) (P : xZ) : Prop := PaO f w ∧ PaN f w ∧ ∃ kp, f (w + 118) = some (xI 222 kp) ∧ KpOK kp P
def DvW (f : xH) (w : Nat) : Prop := DvO f w ∧ DvN f w
/-- the class's cells hold a text t of n bytes, the place pl, a scale -/
def Cls (f : xH) (w : Nat) (t : Nat → Nat) (n : Nat) (pl : Int32) (c : Nat) (xs : Nat → xZ) (P : xZ) (s : Nat → Nat) : Prop := f w = some (x5 w) ∧ TxW f w t n pl ∧ ScC f w c xs P s ∧ PaW f w P ∧ DvW f w
theorem TxW.kept {f f' : xH} {w n : Nat} {t : Nat → Nat} {pl : Int32} (h : TxW f w t n pl) (k : ∀ q, w + 1 ≤ q → q < w + 4 → f' q = f q) : TxW f' w t n pl := by
  obtain ⟨h0, bt, g, cc, a4, a6, a7, a8, h1, h2, h3, h4⟩ := h
  exact ⟨h0, bt, g, cc, a4, a6, a7, a8, (k _ (by omega) (by omega)).trans h1, (k _ (by omega) (by omega)).trans h2, (k _ (by omega) (by omega)).trans h3, h4⟩
theorem ScC.kept {f f' : xH} {w c : Nat} {xs : Nat → xZ} {P : xZ} {s : Nat → Nat} (h : ScC f w c xs P s) (k : ∀ q, w + 4 ≤ q → q < w + 111 → f' q = f q) : ScC f' w c xs P s := by
  obtain ⟨ps, rs, tk, so, h1, h2⟩ := h
  exact ⟨ps, rs, tk, so, h1.kept k, h2⟩
theorem PaW.kept {f f' : xH} {w : Nat} {P : xZ} (h : PaW f w P) (k : ∀ q, w + 111 ≤ q → q < w + 119 → f' q = f q) : PaW f' w P := by
  obtain ⟨h1, h2, kp, h3, h4⟩ := h
  exact ⟨h1.kept (k _ (by omega) (by omega)), h2.kept (fun q a b => k q (by omega) (by omega)), kp, (k _ (by omega) (by omega)).trans h3, h4⟩
theorem DvN.kept {f f' : xH} {w : Nat} (h : DvN f w) (k : ∀ q, w + 120 ≤ q → q < w + 124 → f' q = f q) : DvN f' w := by
  obtain ⟨⟨x1, h1⟩, x2, h2⟩ := h
  exact ⟨⟨x1, h1.kept (k _ (by omega) (by omega)) (k _ (by omega) (by omega))⟩, x2, h2.kept (k _ (by omega) (by omega)) (k _ (by omega) (by omega))⟩
theorem DvW.kept {f f' : xH} {w : Nat} (h : DvW f w) (k : ∀ q, w + 119 ≤ q → q < w + 124 → f' q = f q) : DvW f' w := by
  obtain ⟨h1, h2⟩ := h
  exact ⟨(k _ (by omega) (by omega)).trans h1, h2.kept (fun q a b => k q (by omega) (by omega))⟩
theorem Cls.kept {f f' : xH} {w n c : Nat} {t : Nat → Nat} {pl : Int32} {xs : Nat → xZ} {P : xZ} {s : Nat → Nat} (h : Cls f w t n pl c xs P s) (k : ∀ q, w ≤ q → q < w + 124 → f' q = f q) : Cls f' w t n pl c xs P s := by
  obtain ⟨h1, h2, h3, h4, h5⟩ := h
  exact ⟨(k _ (by omega) (by omega)).trans h1, h2.kept (fun q a b => k q (by omega) (by omega)), h3.kept (fun q a b => k q (by omega) (by omega)), h4.kept (fun q a b => k q (by omega) (by omega)), h5.kept (fun q a b => k q (by omega) (by omega))⟩
theorem s_nI {s : Int32} {m : Nat} (h0 : 0 ≤ s.toInt) (h1 : s.toInt < m) : ∃ k, k < m ∧ s = nI k := by
  have := s.toInt_lt
  exact ⟨s.toInt.toNat, by omega, n_eq.mpr (by rw [nI_toInt (by omega)]; omega)⟩
set_option maxRecDepth 100000 in
set_option maxHeartbeats 4000000 in
theorem c_isStep (V : xV) {w z c : Nat} {f : xH} {s : Int32} {post : Option Value → xH → Nat → Prop} (h5 : f w = some (x5 w)) (h4 : f (w + 4) = some (xSc w c)) (hc : c ≤ 24) (hp1 : 0 ≤ s.toInt → s.toInt < c → post (some (.int 1)) f z) (hp0 : ¬ (0 ≤ s.toInt ∧ s.toInt < c) → post (some (.int 0)) f z) :
    xMet V yX5_isStep cX5_isStep 2 (some .boolean) 1 0 0 [.ref w, .int s] f z post := by
  refine xMet_of false (by decide) (Nat.le_of_ble_eq_true rfl) (fun h => by cases h) (fun X hX O Rt => ?_)
  have O : xO X cX5_isStep 2 RX5 1 0 0 false := O
  show xG X 0 [some (.ref w), some (.int s)] [] f (z, 0, 0)
  have hci : (nI c).toInt = (c : Int) := nI_toInt (by omega)
  refine xgo O Rt xplX5_q xclX5_q [] 30 ?_
  simp (maxSteps := 10000000) (disch := omega) only [↓reduceIte, ↓xrun_s, ↓xck_e, xdo_e, xlg_0, xlg_c, xst1_0, xst1_1, xst1_c, xst2_0, xst2_1, xst2_c, xk2_n, xk2_i, xk2_a, xk2_l, xct_i, xct_a, xct_l, xf4_0, xf4_1, xf4_2, xf4_3, List.contains_cons, List.contains_nil, Bool.or_false, Bool.false_or, Bool.or_self, Bool.true_or, Bool.or_true, cond_true, cond_false, List.set_cons_zero, List.set_cons_succ, List.length_cons, List.length_nil, true_and, and_true, xu_s, xu_u, xeqs, Nat.le_refl, not_true_eq_false, xq_10, xq_01, Int32.reduceAdd, Int32.reduceMul, Int32.reduceSub, Int32.reduceLE, Int32.reduceLT, Int32.reduceToNatClampNeg, Nat.reduceAdd, Nat.reduceMul, Nat.reduceBEq, Nat.reduceLT, Nat.reduceLeDiff, Nat.reduceEqDiff, Nat.zero_add, Bool.false_eq_true, reduceCtorEq, if_false, if_true, not_false_eq_true, true_imp_iff, false_imp_iff, imp_self, ↓xil_e, ↓xll_e, ↓xal_e, ↓xs1i_e, ↓xs2i_e, ↓xs1l_e, ↓xs2l_e, ↓xsil_e, ↓xs1_e, ↓xs2_e, ↓xs1a_e, ↓xsia_e, ↓xsiia_e, ↓xslia_e, ↓xsaia_e, ↓xsva_e, ↓xse1i_e, ↓xse1l_e, ↓xse1a_e, ↓xse0_e, ↓xfv_0, ↓xfv_c, ↓xgf_e, ↓xpf_e, ↓xia_e, ↓xia_n, ↓xba_e, ↓xba_n, ↓xla_e, ↓xla_n, ↓xob_e, ↓xra_e, ↓xno_e, ↓xle_e, ↓xnr_i, ↓xnr_b0, ↓xnr_b1, ↓xnr_n, ↓xdo_e, ↓xkl_0, ↓xe_iconst, ↓xe_iload_n, ↓xe_aload_n, ↓xe_goto, ↓xe_getfield, ↓xe_ireturn, ↓xe_if_lt, ↓xe_icmp_ge, dX5_isStep_0, dX5_isStep_1, dX5_isStep_4, dX5_isStep_5, dX5_isStep_6, dX5_isStep_9, dX5_isStep_12, dX5_isStep_15, dX5_isStep_16, dX5_isStep_19, dX5_isStep_20, xpX5_19, xpX5_71, xki_0, xki_1, h5, h4, n_lt, n_le, n_0, hci, xt_1_18, xtc_1_18, xt_12_7, xtc_12_7, xt_16_4, xtc_16_4]
  exact ⟨fun q => hp0 (by omega), fun q => ⟨fun q2 => hp0 (by omega), fun q2 => hp1 (by omega) (by omega)⟩⟩
set_option maxRecDepth 100000 in
set_option maxHeartbeats 4000000 in
theorem c_isStepOrPeriod (V : xV) {w z c : Nat} {f : xH} {s : Int32} {post : Option Value → xH → Nat → Prop} (h5 : f w = some (x5 w)) (h4 : f (w + 4) = some (xSc w c)) (hc : c ≤ 24) (hp1 : 0 ≤ s.toInt → s.toInt ≤ c → post (some (.int 1)) f z) (hp0 : ¬ (0 ≤ s.toInt ∧ s.toInt ≤ c) → post (some (.int 0)) f z) :
    xMet V yX5_isStepOrPeriod cX5_isStepOrPeriod 2 (some .boolean) 1 0 0 [.ref w, .int s] f z post := by
  refine xMet_of false (by decide) (Nat.le_of_ble_eq_true rfl) (fun h => by cases h) (fun X hX O Rt => ?_)
  have O : xO X cX5_isStepOrPeriod 2 RX5 1 0 0 false := O
  show xG X 0 [some (.ref w), some (.int s)] [] f (z, 0, 0)
  have hci : (nI c).toInt = (c : Int) := nI_toInt (by omega)
  refine xgo O Rt xplX5_q xclX5_q [] 30 ?_
  simp (maxSteps := 10000000) (disch := omega) only [↓reduceIte, ↓xrun_s, ↓xck_e, xdo_e, xlg_0, xlg_c, xst1_0, xst1_1, xst1_c, xst2_0, xst2_1, xst2_c, xk2_n, xk2_i, xk2_a, xk2_l, xct_i, xct_a, xct_l, xf4_0, xf4_1, xf4_2, xf4_3, List.contains_cons, List.contains_nil, Bool.or_false, Bool.false_or, Bool.or_self, Bool.true_or, Bool.or_true, cond_true, cond_false, List.set_cons_zero, List.set_cons_succ, List.length_cons, List.length_nil, true_and, and_true, xu_s, xu_u, xeqs, Nat.le_refl, not_true_eq_false, xq_10, xq_01, Int32.reduceAdd, Int32.reduceMul, Int32.reduceSub, Int32.reduceLE, Int32.reduceLT, Int32.reduceToNatClampNeg, Nat.reduceAdd, Nat.reduceMul, Nat.reduceBEq, Nat.reduceLT, Nat.reduceLeDiff, Nat.reduceEqDiff, Nat.zero_add, Bool.false_eq_true, reduceCtorEq, if_false, if_true, not_false_eq_true, true_imp_iff, false_imp_iff, imp_self, ↓xil_e, ↓xll_e, ↓xal_e, ↓xs1i_e, ↓xs2i_e, ↓xs1l_e, ↓xs2l_e, ↓xsil_e, ↓xs1_e, ↓xs2_e, ↓xs1a_e, ↓xsia_e, ↓xsiia_e, ↓xslia_e, ↓xsaia_e, ↓xsva_e, ↓xse1i_e, ↓xse1l_e, ↓xse1a_e, ↓xse0_e, ↓xfv_0, ↓xfv_c, ↓xgf_e, ↓xpf_e, ↓xia_e, ↓xia_n, ↓xba_e, ↓xba_n, ↓xla_e, ↓xla_n, ↓xob_e, ↓xra_e, ↓xno_e, ↓xle_e, ↓xnr_i, ↓xnr_b0, ↓xnr_b1, ↓xnr_n, ↓xdo_e, ↓xkl_0, ↓xe_iconst, ↓xe_iload_n, ↓xe_aload_n, ↓xe_goto, ↓xe_getfield, ↓xe_ireturn, ↓xe_if_lt, ↓xe_icmp_gt, dX5_isStepOrPeriod_0, dX5_isStepOrPeriod_1, dX5_isStepOrPeriod_4, dX5_isStepOrPeriod_5, dX5_isStepOrPeriod_6, dX5_isStepOrPeriod_9, dX5_isStepOrPeriod_12, dX5_isStepOrPeriod_15, dX5_isStepOrPeriod_16, dX5_isStepOrPeriod_19, dX5_isStepOrPeriod_20, xpX5_19, xpX5_71, xki_0, xki_1, h5, h4, n_lt, n_le, n_0, hci, xt_1_18, xtc_1_18, xt_12_7, xtc_12_7, xt_16_4, xtc_16_4]
  exact ⟨fun q => hp0 (by omega), fun q => ⟨fun q2 => hp0 (by omega), fun q2 => hp1 (by omega) (by omega)⟩⟩
set_option maxRecDepth 100000 in
set_option maxHeartbeats 4000000 in
theorem c_isPrime (V : xV) {z : Nat} {f : xH} {p : Int32} {post : Option Value → xH → Nat → Prop} (hp1 : 0 ≤ p.toInt → p.toInt < 6 → post (some (.int 1)) f z) (hp0 : ¬ (0 ≤ p.toInt ∧ p.toInt < 6) → post (some (.int 0)) f z) :
    xMet V yX5_isPrime cX5_isPrime 1 (some .boolean) 1 0 0 [.int p] f z post := by
  refine xMet_of false (by decide) (Nat.le_of_ble_eq_true rfl) (fun h => by cases h) (fun X hX O Rt => ?_)
  have O : xO X cX5_isPrime 1 RX5 1 0 0 false := O
  show xG X 0 [some (.int p)] [] f (z, 0, 0)
  have e6 : (6 : Int32).toInt = 6 := rfl
  refine xgo O Rt xplX5_q xclX5_q [] 30 ?_
  simp (maxSteps := 10000000) (disch := omega) only [↓reduceIte, ↓xrun_s, ↓xck_e, xdo_e, xlg_0, xlg_c, xst1_0, xst1_1, xst1_c, xst2_0, xst2_1, xst2_c, xk2_n, xk2_i, xk2_a, xk2_l, xct_i, xct_a, xct_l, xf4_0, xf4_1, xf4_2, xf4_3, List.contains_cons, List.contains_nil, Bool.or_false, Bool.false_or, Bool.or_self, Bool.true_or, Bool.or_true, cond_true, cond_false, List.set_cons_zero, List.set_cons_succ, List.length_cons, List.length_nil, true_and, and_true, xu_s, xu_u, xeqs, Nat.le_refl, not_true_eq_false, xq_10, xq_01, Int32.reduceAdd, Int32.reduceMul, Int32.reduceSub, Int32.reduceLE, Int32.reduceLT, Int32.reduceToNatClampNeg, Nat.reduceAdd, Nat.reduceMul, Nat.reduceBEq, Nat.reduceLT, Nat.reduceLeDiff, Nat.reduceEqDiff, Nat.zero_add, Bool.false_eq_true, reduceCtorEq, if_false, if_true, not_false_eq_true, true_imp_iff, false_imp_iff, imp_self, ↓xil_e, ↓xll_e, ↓xal_e, ↓xs1i_e, ↓xs2i_e, ↓xs1l_e, ↓xs2l_e, ↓xsil_e, ↓xs1_e, ↓xs2_e, ↓xs1a_e, ↓xsia_e, ↓xsiia_e, ↓xslia_e, ↓xsaia_e, ↓xsva_e, ↓xse1i_e, ↓xse1l_e, ↓xse1a_e, ↓xse0_e, ↓xfv_0, ↓xfv_c, ↓xgf_e, ↓xpf_e, ↓xia_e, ↓xia_n, ↓xba_e, ↓xba_n, ↓xla_e, ↓xla_n, ↓xob_e, ↓xra_e, ↓xno_e, ↓xle_e, ↓xnr_i, ↓xnr_b0, ↓xnr_b1, ↓xnr_n, ↓xdo_e, ↓xkl_0, ↓xe_iconst, ↓xe_bipush, ↓xe_iload_n, ↓xe_goto, ↓xe_ireturn, ↓xe_if_lt, ↓xe_icmp_ge, dX5_isPrime_0, dX5_isPrime_1, dX5_isPrime_4, dX5_isPrime_5, dX5_isPrime_7, dX5_isPrime_10, dX5_isPrime_11, dX5_isPrime_14, dX5_isPrime_15, xkb_6, xki_0, xki_1, n_lt, n_le, n_0, e6, xt_1_13, xtc_1_13, xt_7_7, xtc_7_7, xt_11_4, xtc_11_4]
  exact ⟨fun q => hp0 (by omega), fun q => ⟨fun q2 => hp0 (by omega), fun q2 => hp1 (by omega) (by omega)⟩⟩
set_option maxRecDepth 100000 in
set_option maxHeartbeats 4000000 in
theorem c_isPartCount (V : xV) {z : Nat} {f : xH} {p : Int32} {post : Option Value → xH → Nat → Prop} (hp1 : 1 ≤ p.toInt → p.toInt ≤ 36 → post (some (.int 1)) f z) (hp0 : ¬ (1 ≤ p.toInt ∧ p.toInt ≤ 36) → post (some (.int 0)) f z) :
    xMet V yX5_isPartCount cX5_isPartCount 1 (some .boolean) 1 0 0 [.int p] f z post := by
  refine xMet_of false (by decide) (Nat.le_of_ble_eq_true rfl) (fun h => by cases h) (fun X hX O Rt => ?_)
  have O : xO X cX5_isPartCount 1 RX5 1 0 0 false := O
  show xG X 0 [some (.int p)] [] f (z, 0, 0)
  have e36 : (36 : Int32).toInt = 36 := rfl
  refine xgo O Rt xplX5_q xclX5_q [] 30 ?_
  simp (maxSteps := 10000000) (disch := omega) only [↓reduceIte, ↓xrun_s, ↓xck_e, xdo_e, xlg_0, xlg_c, xst1_0, xst1_1, xst1_c, xst2_0, xst2_1, xst2_c, xk2_n, xk2_i, xk2_a, xk2_l, xct_i, xct_a, xct_l, xf4_0, xf4_1, xf4_2, xf4_3, List.contains_cons, List.contains_nil, Bool.or_false, Bool.false_or, Bool.or_self, Bool.true_or, Bool.or_true, cond_true, cond_false, List.set_cons_zero, List.set_cons_succ, List.length_cons, List.length_nil, true_and, and_true, xu_s, xu_u, xeqs, Nat.le_refl, not_true_eq_false, xq_10, xq_01, Int32.reduceAdd, Int32.reduceMul, Int32.reduceSub, Int32.reduceLE, Int32.reduceLT, Int32.reduceToNatClampNeg, Nat.reduceAdd, Nat.reduceMul, Nat.reduceBEq, Nat.reduceLT, Nat.reduceLeDiff, Nat.reduceEqDiff, Nat.zero_add, Bool.false_eq_true, reduceCtorEq, if_false, if_true, not_false_eq_true, true_imp_iff, false_imp_iff, imp_self, ↓xil_e, ↓xll_e, ↓xal_e, ↓xs1i_e, ↓xs2i_e, ↓xs1l_e, ↓xs2l_e, ↓xsil_e, ↓xs1_e, ↓xs2_e, ↓xs1a_e, ↓xsia_e, ↓xsiia_e, ↓xslia_e, ↓xsaia_e, ↓xsva_e, ↓xse1i_e, ↓xse1l_e, ↓xse1a_e, ↓xse0_e, ↓xfv_0, ↓xfv_c, ↓xgf_e, ↓xpf_e, ↓xia_e, ↓xia_n, ↓xba_e, ↓xba_n, ↓xla_e, ↓xla_n, ↓xob_e, ↓xra_e, ↓xno_e, ↓xle_e, ↓xnr_i, ↓xnr_b0, ↓xnr_b1, ↓xnr_n, ↓xdo_e, ↓xkl_0, ↓xe_iconst, ↓xe_bipush, ↓xe_iload_n, ↓xe_goto, ↓xe_ireturn, ↓xe_icmp_lt, ↓xe_icmp_gt, dX5_isPartCount_0, dX5_isPartCount_1, dX5_isPartCount_2, dX5_isPartCount_5, dX5_isPartCount_6, dX5_isPartCount_8, dX5_isPartCount_11, dX5_isPartCount_12, dX5_isPartCount_15, dX5_isPartCount_16, xkb_36, xki_0, xki_1, n_lt, n_le, n_1, e36, xt_2_13, xtc_2_13, xt_8_7, xtc_8_7, xt_12_4, xtc_12_4]
  exact ⟨fun q => hp0 (by omega), fun q => ⟨fun q2 => hp0 (by omega), fun q2 => hp1 (by omega) (by omega)⟩⟩
set_option maxRecDepth 100000 in
set_option maxHeartbeats 4000000 in
theorem c_mayLink (V : xV) {z : Nat} {f : xH} {p : Int32} {post : Option Value → xH → Nat → Prop} (hp1 : -2 ≤ p.toInt → p.toInt ≤ 2 → post (some (.int 1)) f z) (hp0 : ¬ (-2 ≤ p.toInt ∧ p.toInt ≤ 2) → post (some (.int 0)) f z) :
    xMet V yX5_mayLink cX5_mayLink 1 (some .boolean) 1 0 0 [.int p] f z post := by
  refine xMet_of false (by decide) (Nat.le_of_ble_eq_true rfl) (fun h => by cases h) (fun X hX O Rt => ?_)
  have O : xO X cX5_mayLink 1 RX5 1 0 0 false := O
  show xG X 0 [some (.int p)] [] f (z, 0, 0)
  have e2 : (2 : Int32).toInt = 2 := rfl
  have em2 : (-2 : Int32).toInt = -2 := rfl
  refine xgo O Rt xplX5_q xclX5_q [] 30 ?_
  simp (maxSteps := 10000000) (disch := omega) only [↓reduceIte, ↓xrun_s, ↓xck_e, xdo_e, xlg_0, xlg_c, xst1_0, xst1_1, xst1_c, xst2_0, xst2_1, xst2_c, xk2_n, xk2_i, xk2_a, xk2_l, xct_i, xct_a, xct_l, xf4_0, xf4_1, xf4_2, xf4_3, List.contains_cons, List.contains_nil, Bool.or_false, Bool.false_or, Bool.or_self, Bool.true_or, Bool.or_true, cond_true, cond_false, List.set_cons_zero, List.set_cons_succ, List.length_cons, List.length_nil, true_and, and_true, xu_s, xu_u, xeqs, Nat.le_refl, not_true_eq_false, xq_10, xq_01, Int32.reduceAdd, Int32.reduceMul, Int32.reduceSub, Int32.reduceLE, Int32.reduceLT, Int32.reduceToNatClampNeg, Nat.reduceAdd, Nat.reduceMul, Nat.reduceBEq, Nat.reduceLT, Nat.reduceLeDiff, Nat.reduceEqDiff, Nat.zero_add, Bool.false_eq_true, reduceCtorEq, if_false, if_true, not_false_eq_true, true_imp_iff, false_imp_iff, imp_self, ↓xil_e, ↓xll_e, ↓xal_e, ↓xs1i_e, ↓xs2i_e, ↓xs1l_e, ↓xs2l_e, ↓xsil_e, ↓xs1_e, ↓xs2_e, ↓xs1a_e, ↓xsia_e, ↓xsiia_e, ↓xslia_e, ↓xsaia_e, ↓xsva_e, ↓xse1i_e, ↓xse1l_e, ↓xse1a_e, ↓xse0_e, ↓xfv_0, ↓xfv_c, ↓xgf_e, ↓xpf_e, ↓xia_e, ↓xia_n, ↓xba_e, ↓xba_n, ↓xla_e, ↓xla_n, ↓xob_e, ↓xra_e, ↓xno_e, ↓xle_e, ↓xnr_i, ↓xnr_b0, ↓xnr_b1, ↓xnr_n, ↓xdo_e, ↓xkl_0, ↓xe_iconst, ↓xe_bipush, ↓xe_iload_n, ↓xe_goto, ↓xe_ireturn, ↓xe_icmp_lt, ↓xe_icmp_gt, dX5_mayLink_0, dX5_mayLink_1, dX5_mayLink_3, dX5_mayLink_6, dX5_mayLink_7, dX5_mayLink_8, dX5_mayLink_11, dX5_mayLink_12, dX5_mayLink_15, dX5_mayLink_16, xkb_m2, xki_0, xki_1, xki_2, n_lt, n_le, e2, em2, xt_3_12, xtc_3_12, xt_8_7, xtc_8_7, xt_12_4, xtc_12_4]
  exact ⟨fun q => hp0 (by omega), fun q => ⟨fun q2 => hp0 (by omega), fun q2 => hp1 (by omega) (by omega)⟩⟩
theorem xor_nn (a b : Int32) (hb : 0 ≤ b.toInt) : (a ^^^ b).toInt < 0 ↔ a.toInt < 0 := by
  have h : ∀ y : Int32, y.toInt < 0 ↔ y.toBitVec.msb = true := fun y => by
    rw [BitVec.msb_eq_toInt, decide_eq_true_eq]; rfl
  have hbm : b.toBitVec.msb = false := by
    rcases hm : b.toBitVec.msb with _ | _
    · rfl
    · have := (h b).mpr hm; omega
  rw [h, h, Int32.toBitVec_xor, BitVec.msb_xor, hbm, Bool.xor_false]
theorem n_div {a b : Int32} (h : 0 < b.toInt) : (a / b).toInt = a.toInt.tdiv b.toInt := by
  have h1 := a.le_toInt
  have h2 := a.toInt_lt
  rw [Int32.toInt_div]
  rcases Int.le_total 0 a.toInt with q | q
  · have := Int.tdiv_nonneg q (Int.le_of_lt h)
    have := Int.tdiv_le_self b.toInt q
    exact Int.bmod_eq_of_le (by omega) (by omega)
  · have e : a.toInt.tdiv b.toInt = -((-a.toInt).tdiv b.toInt) := by rw [Int.neg_tdiv, Int.neg_neg]
    have := Int.tdiv_nonneg (show 0 ≤ -a.toInt by omega) (Int.le_of_lt h)
    have h3 := Int.tdiv_le_self b.toInt (show 0 ≤ -a.toInt by omega)
    rw [e]
    exact Int.bmod_eq_of_le (by omega) (by omega)
/-- as xMet_of, for a method of a class some of whose other methods the natives replace -/
theorem xMet_ofF {V : xV} {y : MethodName} {cc : ByteArray} {nL : Nat} {ret : Option FieldType} {hh mc ms : Nat} {av : List Value} {f : xH} {z : Nat} {post : Option Value → xH → Nat → Prop} (ini : Bool) (hy : plainFor y = true) (hnl : (lg_sl av).length ≤ nL) (hini : ini = true → y.name = "<init>")
    (body : ∀ X : xC, xCv X = V → xO X cc nL y.cls hh mc ms ini → xRt X ret mc ms post → xG X 0 (xent av nL) [] f (z, 0, 0)) : xMet V y cc nL ret hh mc ms av f z post := by
  unfold xMet
  refine MetFree.of_bodySF (code := cc) (maxLocals := nL) (ret := ret) hy ?_ ?_
  · intro args s m h hn
    obtain ⟨meth, c, h1, h2, h3, h4, h5, h6, -, -⟩ := Cond.code_spec hn (atoms_spec (ws := .code y cc nL ret :: xTT) h _ List.mem_cons_self)
    exact ⟨meth, c, h1, h2, h3, h4, h5, h6⟩
  · intro p e s m args below meth c s₁ B hml hv _
    obtain ⟨rfl, hsz, hP, hK, hS, hN, hz0⟩ := hv
    have hts0 := atoms_spec (ws := .code y cc nL ret :: xTT) B.pre
    have hts : ∀ w ∈ xTT, w.before av.toArray s = true := fun w h => hts0 w (List.mem_cons_of_mem _ h)
    have hown : s.vm.findClass y.cls = some m.cls := findClass_of_methodNamed B.named
    have hin : meth.name = y.name := (name_of_methodNamed B.named B.method).1
    subst hsz
    have hl := lv_entry av (n := nL) hnl
    rw [lg_entry_eq]
    generalize (lg_sl av ++ List.replicate (nL - (lg_sl av).length) Slot.unset).toArray = ls at hl ⊢
    have hh0 : s₁.heap = s.heap := by rw [B.state]; rfl
    obtain ⟨t, a1, o, b1, b2, b3⟩ := body ((p, e, _, s, m, av.toArray, below, meth, c), MQ below (xQ V post) av.toArray s mc ms (fun q => V.2.2.1 ≤ q), V) rfl ⟨B.exec, B.bytes, hml, hown, hts, hK, hS, hN, hz0, Nat.le_refl _, Nat.le_refl _, Nat.le_refl _, Nat.le_refl _, fun h => by show meth.name = _; rw [hin]; exact hini h⟩ ⟨B.returns, B.notSynchronized, rfl⟩ s.heap [] ls rfl hP va_S.rf (xL.entry hl) s₁ hh0 (Stand.of_body B)
    exact ⟨t, o, a1, b1, b2, ⟨b3.1, b3.2⟩⟩
set_option maxRecDepth 100000 in
set_option maxHeartbeats 4000000 in
theorem c_floorDiv (V : xV) {z : Nat} {f : xH} {a b : Int32} {post : Option Value → xH → Nat → Prop} (hb : 0 < b.toInt) (ha : -1000000 ≤ a.toInt ∧ a.toInt ≤ 1000000) (hp : ∀ r : Int32, r.toInt = a.toInt / b.toInt → post (some (.int r)) f z) :
    xMet V yJ9_floorDiv_7cf53 cJ9_floorDiv_7cf53 3 (some .int) 1 0 0 [.int a, .int b] f z post := by
  refine xMet_ofF false (by decide +kernel) (Nat.le_of_ble_eq_true rfl) (fun h => by cases h) (fun X hX O Rt => ?_)
  have O : xO X cJ9_floorDiv_7cf53 3 RJ9 1 0 0 false := O
  show xG X 0 [some (.int a), some (.int b), none] [] f (z, 0, 0)
  have b0 : (b = 0) = False := eq_false (fun q => by rw [q, n_0] at hb; omega)
  refine xgo O Rt xpl0_q xcl0_q [] 30 ?_
  simp (maxSteps := 10000000) (disch := omega) only [↓reduceIte, ↓xrun_s, ↓xck_e, xdo_e, xlg_0, xlg_c, xst1_0, xst1_1, xst1_c, xst2_0, xst2_1, xst2_c, xk2_n, xk2_i, xk2_a, xk2_l, xct_i, xct_a, xct_l, xf4_0, xf4_1, xf4_2, xf4_3, List.contains_cons, List.contains_nil, Bool.or_false, Bool.false_or, Bool.or_self, Bool.true_or, Bool.or_true, cond_true, cond_false, List.set_cons_zero, List.set_cons_succ, List.length_cons, List.length_nil, true_and, and_true, xu_s, xu_u, xeqs, Nat.le_refl, not_true_eq_false, xq_10, xq_01, Int32.reduceAdd, Int32.reduceMul, Int32.reduceSub, Int32.reduceLE, Int32.reduceLT, Int32.reduceToNatClampNeg, Nat.reduceAdd, Nat.reduceMul, Nat.reduceBEq, Nat.reduceLT, Nat.reduceLeDiff, Nat.reduceEqDiff, Nat.zero_add, Bool.false_eq_true, reduceCtorEq, if_false, if_true, not_false_eq_true, true_imp_iff, false_imp_iff, imp_self, ↓xil_e, ↓xll_e, ↓xal_e, ↓xs1i_e, ↓xs2i_e, ↓xs1l_e, ↓xs2l_e, ↓xsil_e, ↓xs1_e, ↓xs2_e, ↓xs1a_e, ↓xsia_e, ↓xsiia_e, ↓xslia_e, ↓xsaia_e, ↓xsva_e, ↓xse1i_e, ↓xse1l_e, ↓xse1a_e, ↓xse0_e, ↓xfv_0, ↓xfv_c, ↓xgf_e, ↓xpf_e, ↓xia_e, ↓xia_n, ↓xba_e, ↓xba_n, ↓xla_e, ↓xla_n, ↓xob_e, ↓xra_e, ↓xno_e, ↓xle_e, ↓xnr_i, ↓xnr_b0, ↓xnr_b1, ↓xnr_n, ↓xdo_e, ↓xkl_0, ↓xe_iconst, ↓xe_isub, ↓xe_imul, ↓xe_ixor, ↓xe_idiv, ↓xe_iload_n, ↓xe_istore_n, ↓xe_ireturn, ↓xe_icmp_eq, ↓xe_if_ge, dJ9_floorDiv_7cf53_0, dJ9_floorDiv_7cf53_1, dJ9_floorDiv_7cf53_2, dJ9_floorDiv_7cf53_3, dJ9_floorDiv_7cf53_4, dJ9_floorDiv_7cf53_5, dJ9_floorDiv_7cf53_6, dJ9_floorDiv_7cf53_7, dJ9_floorDiv_7cf53_10, dJ9_floorDiv_7cf53_11, dJ9_floorDiv_7cf53_12, dJ9_floorDiv_7cf53_13, dJ9_floorDiv_7cf53_14, dJ9_floorDiv_7cf53_17, dJ9_floorDiv_7cf53_18, dJ9_floorDiv_7cf53_19, dJ9_floorDiv_7cf53_20, dJ9_floorDiv_7cf53_21, dJ9_floorDiv_7cf53_22, xki_1, b0, xt_7_14, xtc_7_14, xt_14_7, xtc_14_7]
  have hd : (a / b).toInt = a.toInt.tdiv b.toInt := n_div hb
  have hx := xor_nn a b (by omega)
  have hbnd : -1000000 ≤ a.toInt.tdiv b.toInt ∧ a.toInt.tdiv b.toInt ≤ 1000000 := by
    rcases Int.le_total 0 a.toInt with q | q
    · have := Int.tdiv_nonneg q (Int.le_of_lt hb)
      have := Int.tdiv_le_self b.toInt q
      omega
    · have e : a.toInt.tdiv b.toInt = -((-a.toInt).tdiv b.toInt) := by rw [Int.neg_tdiv, Int.neg_neg]
      have := Int.tdiv_nonneg (show 0 ≤ -a.toInt by omega) (Int.le_of_lt hb)
      have h3 := Int.tdiv_le_self b.toInt (show 0 ≤ -a.toInt by omega)
      omega
  have hneg : ∀ (q : a.toInt < 0), a.toInt.tdiv b.toInt * b.toInt ≤ 0 ∧ -1000000 ≤ a.toInt.tdiv b.toInt * b.toInt ∧ a.toInt ≤ a.toInt.tdiv b.toInt * b.toInt ∧ a.toInt.tdiv b.toInt * b.toInt < a.toInt + b.toInt := by
    intro q
    have e : a.toInt.tdiv b.toInt = -((-a.toInt).tdiv b.toInt) := by rw [Int.neg_tdiv, Int.neg_neg]
    have e2 : (-a.toInt).tdiv b.toInt = (-a.toInt) / b.toInt := Int.tdiv_eq_ediv_of_nonneg (by omega)
    have h4 := Int.ediv_mul_le (-a.toInt) (show b.toInt ≠ 0 by omega)
    have h5 := Int.lt_ediv_add_one_mul_self (-a.toInt) hb
    rw [Int.add_mul] at h5
    have h6 : 0 ≤ (-a.toInt) / b.toInt * b.toInt := Int.mul_nonneg (Int.ediv_nonneg (by omega) (by omega)) (by omega)
    rw [e, e2, Int.neg_mul]
    omega
  refine ⟨fun q => ?_, fun q => ⟨fun q2 => ?_, fun q2 => ?_⟩⟩
  · have q := (n_le _ _).mp q
    rw [n_0] at q
    refine hp _ ?_
    rw [hd]
    exact Int.tdiv_eq_ediv_of_nonneg (by omega)
  · refine hp _ ?_
    have q : a.toInt < 0 := hx.mp (by have : ¬ (0 : Int32).toInt ≤ (a ^^^ b).toInt := fun y => q ((n_le _ _).mpr y); rw [n_0] at this; omega)
    obtain ⟨g1, g2, g3, g4⟩ := hneg q
    have q2 := n_eq.mp q2
    rw [n_mul (by rw [hd]; omega) (by rw [hd]; omega), hd] at q2
    rw [hd]
    refine (Int.ediv_eq_of_eq_mul_left (by omega) ?_).symm
    exact q2.symm
  · refine hp _ ?_
    have q : a.toInt < 0 := hx.mp (by have : ¬ (0 : Int32).toInt ≤ (a ^^^ b).toInt := fun y => q ((n_le _ _).mpr y); rw [n_0] at this; omega)
    obtain ⟨g1, g2, g3, g4⟩ := hneg q
    have q2 : ¬ a.toInt.tdiv b.toInt * b.toInt = a.toInt := fun y => q2 (n_eq.mpr (by rw [n_mul (by rw [hd]; omega) (by rw [hd]; omega), hd]; exact y))
    rw [n_sub (by rw [hd, n_1]; omega) (by rw [hd, n_1]; omega), hd, n_1]
    refine ((Int.ediv_emod_unique hb (r := a.toInt - (a.toInt.tdiv b.toInt - 1) * b.toInt)).mpr ⟨?_, ?_, ?_⟩).1.symm
    · rw [Int.mul_comm b.toInt]; omega
    · rw [Int.sub_mul]; omega
    · rw [Int.sub_mul]; omega
