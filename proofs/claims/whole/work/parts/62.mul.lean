/-! ===== TuningTablesModel: numbers in limbs; multiply ===== -/
theorem dX6_multiply_0 : decode cX6_multiply 0 = .ok (.lconst 0, 1) := by decide +kernel
theorem dX6_multiply_1 : decode cX6_multiply 1 = .ok (.lstore 4, 2) := by decide +kernel
theorem dX6_multiply_3 : decode cX6_multiply 3 = .ok (.iconst 0, 1) := by decide +kernel
theorem dX6_multiply_4 : decode cX6_multiply 4 = .ok (.istore 6, 2) := by decide +kernel
theorem dX6_multiply_6 : decode cX6_multiply 6 = .ok (.iload 6, 2) := by decide +kernel
theorem dX6_multiply_8 : decode cX6_multiply 8 = .ok (.iload_n 1, 1) := by decide +kernel
theorem dX6_multiply_9 : decode cX6_multiply 9 = .ok (.if_icmp .ge 38, 3) := by decide +kernel
theorem dX6_multiply_12 : decode cX6_multiply 12 = .ok (.aload_n 0, 1) := by decide +kernel
theorem dX6_multiply_13 : decode cX6_multiply 13 = .ok (.iload 6, 2) := by decide +kernel
theorem dX6_multiply_15 : decode cX6_multiply 15 = .ok (.laload, 1) := by decide +kernel
theorem dX6_multiply_16 : decode cX6_multiply 16 = .ok (.lload_n 2, 1) := by decide +kernel
theorem dX6_multiply_17 : decode cX6_multiply 17 = .ok (.lmul, 1) := by decide +kernel
theorem dX6_multiply_18 : decode cX6_multiply 18 = .ok (.lload 4, 2) := by decide +kernel
theorem dX6_multiply_20 : decode cX6_multiply 20 = .ok (.ladd, 1) := by decide +kernel
theorem dX6_multiply_21 : decode cX6_multiply 21 = .ok (.lstore 7, 2) := by decide +kernel
theorem dX6_multiply_23 : decode cX6_multiply 23 = .ok (.aload_n 0, 1) := by decide +kernel
theorem dX6_multiply_24 : decode cX6_multiply 24 = .ok (.iload 6, 2) := by decide +kernel
theorem dX6_multiply_26 : decode cX6_multiply 26 = .ok (.lload 7, 2) := by decide +kernel
theorem dX6_multiply_28 : decode cX6_multiply 28 = .ok (.ldc2_w 79, 3) := by decide +kernel
theorem dX6_multiply_31 : decode cX6_multiply 31 = .ok (.lrem, 1) := by decide +kernel
theorem dX6_multiply_32 : decode cX6_multiply 32 = .ok (.lastore, 1) := by decide +kernel
theorem dX6_multiply_33 : decode cX6_multiply 33 = .ok (.lload 7, 2) := by decide +kernel
theorem dX6_multiply_35 : decode cX6_multiply 35 = .ok (.ldc2_w 79, 3) := by decide +kernel
theorem dX6_multiply_38 : decode cX6_multiply 38 = .ok (.ldiv, 1) := by decide +kernel
theorem dX6_multiply_39 : decode cX6_multiply 39 = .ok (.lstore 4, 2) := by decide +kernel
theorem dX6_multiply_41 : decode cX6_multiply 41 = .ok (.iinc 6 1, 3) := by decide +kernel
theorem dX6_multiply_44 : decode cX6_multiply 44 = .ok (.goto (-38), 3) := by decide +kernel
theorem dX6_multiply_47 : decode cX6_multiply 47 = .ok (.iload_n 1, 1) := by decide +kernel
theorem dX6_multiply_48 : decode cX6_multiply 48 = .ok (.istore 6, 2) := by decide +kernel
theorem dX6_multiply_50 : decode cX6_multiply 50 = .ok (.lload 4, 2) := by decide +kernel
theorem dX6_multiply_52 : decode cX6_multiply 52 = .ok (.lconst 0, 1) := by decide +kernel
theorem dX6_multiply_53 : decode cX6_multiply 53 = .ok (.lcmp, 1) := by decide +kernel
theorem dX6_multiply_54 : decode cX6_multiply 54 = .ok (.ifCond .le 27, 3) := by decide +kernel
theorem dX6_multiply_57 : decode cX6_multiply 57 = .ok (.aload_n 0, 1) := by decide +kernel
theorem dX6_multiply_58 : decode cX6_multiply 58 = .ok (.iload 6, 2) := by decide +kernel
theorem dX6_multiply_60 : decode cX6_multiply 60 = .ok (.lload 4, 2) := by decide +kernel
theorem dX6_multiply_62 : decode cX6_multiply 62 = .ok (.ldc2_w 79, 3) := by decide +kernel
theorem dX6_multiply_65 : decode cX6_multiply 65 = .ok (.lrem, 1) := by decide +kernel
theorem dX6_multiply_66 : decode cX6_multiply 66 = .ok (.lastore, 1) := by decide +kernel
theorem dX6_multiply_67 : decode cX6_multiply 67 = .ok (.lload 4, 2) := by decide +kernel
theorem dX6_multiply_69 : decode cX6_multiply 69 = .ok (.ldc2_w 79, 3) := by decide +kernel
theorem dX6_multiply_72 : decode cX6_multiply 72 = .ok (.ldiv, 1) := by decide +kernel
theorem dX6_multiply_73 : decode cX6_multiply 73 = .ok (.lstore 4, 2) := by decide +kernel
theorem dX6_multiply_75 : decode cX6_multiply 75 = .ok (.iinc 6 1, 3) := by decide +kernel
theorem dX6_multiply_78 : decode cX6_multiply 78 = .ok (.goto (-28), 3) := by decide +kernel
theorem dX6_multiply_81 : decode cX6_multiply 81 = .ok (.iload 6, 2) := by decide +kernel
theorem dX6_multiply_83 : decode cX6_multiply 83 = .ok (.ireturn, 1) := by decide +kernel
def jN (n : Nat) : Int64 := Int64.ofNat n
theorem jN_int {n : Nat} (h : n < 9223372036854775808) : (jN n).toInt = (n : Int) := Int64.toInt_ofNat_of_lt (by simpa using h)
theorem jN_mul (a b : Nat) : jN a * jN b = jN (a * b) := (Int64.ofNat_mul a b).symm
theorem jN_add (a b : Nat) : jN a + jN b = jN (a + b) := (Int64.ofNat_add a b).symm
theorem jN_sub {a b : Nat} (h : b ≤ a) : jN a - jN b = jN (a - b) := (Int64.ofNat_sub a b h).symm
theorem jN_div {a b : Nat} (ha : a < 9223372036854775808) (hb : b < 9223372036854775808) : jN a / jN b = jN (a / b) := by
  apply Int64.toInt_inj.mp
  have hl : a / b < 9223372036854775808 := Nat.lt_of_le_of_lt (Nat.div_le_self a b) ha
  rw [Int64.toInt_div, jN_int ha, jN_int hb, jN_int hl]
  have e : (a : Int).tdiv (b : Int) = ((a / b : Nat) : Int) := by rw [Int.tdiv_eq_ediv_of_nonneg (by omega)]; rfl
  rw [e]
  generalize a / b = q at hl
  exact Int.bmod_eq_of_le (by omega) (by omega)
theorem lgc_le (x y : Int64) : (lg_cmp x y ≤ 0) = (x.toInt ≤ y.toInt) := by
  rcases lg_cases x y with ⟨h, q⟩ | ⟨h, q⟩ | ⟨h, q⟩ <;> rw [h]
  · exact propext ⟨fun h => absurd h (by decide), fun h => absurd q (by omega)⟩
  · rw [q]; exact propext ⟨fun _ => Int.le_refl _, fun _ => by decide⟩
  · exact propext ⟨fun _ => by omega, fun _ => by decide⟩
theorem lgc_ge (x y : Int64) : (0 ≤ lg_cmp x y) = (y.toInt ≤ x.toInt) := by
  rcases lg_cases x y with ⟨h, q⟩ | ⟨h, q⟩ | ⟨h, q⟩ <;> rw [h]
  · exact propext ⟨fun _ => by omega, fun _ => by decide⟩
  · rw [q]; exact propext ⟨fun _ => Int.le_refl _, fun _ => by decide⟩
  · exact propext ⟨fun h => absurd h (by decide), fun h => absurd q (by omega)⟩
theorem lgc_eq (x y : Int64) : (lg_cmp x y = 0) = (x.toInt = y.toInt) := by
  rcases lg_cases x y with ⟨h, q⟩ | ⟨h, q⟩ | ⟨h, q⟩ <;> rw [h]
  · exact propext ⟨fun h => absurd h (by decide), fun h => absurd q (by omega)⟩
  · rw [q]; exact propext ⟨fun _ => rfl, fun _ => rfl⟩
  · exact propext ⟨fun h => absurd h (by decide), fun h => absurd q (by omega)⟩
def BB (k : Nat) : Nat := 1000000000 ^ k
theorem BB0 : BB 0 = 1 := rfl
theorem BB1 (k : Nat) : BB (k + 1) = BB k * 1000000000 := by unfold BB; exact Nat.pow_succ _ _
theorem BB_pos (k : Nat) : 0 < BB k := Nat.pow_pos (by omega)
theorem BB_le {k l : Nat} (h : k ≤ l) : BB k ≤ BB l := Nat.pow_le_pow_right (by omega) h
theorem BB_lt {k l : Nat} (h : BB k < BB l) : k < l := by
  rcases Nat.lt_or_ge k l with q | q
  · exact q
  · have := BB_le q; omega
/-- the number that limbs are -/
def bv (d : Nat → Nat) : Nat → Nat
  | 0 => 0
  | k + 1 => bv d k + d k * BB k
theorem bv_ext {d d' : Nat → Nat} : ∀ k, (∀ i, i < k → d i = d' i) → bv d k = bv d' k
  | 0, _ => rfl
  | k + 1, h => by
    show bv d k + d k * BB k = bv d' k + d' k * BB k
    rw [bv_ext k (fun i hi => h i (by omega)), h k (by omega)]
theorem bv_lt {d : Nat → Nat} : ∀ k, (∀ i, i < k → d i < 1000000000) → bv d k < BB k
  | 0, _ => by rw [BB0]; exact Nat.one_pos
  | k + 1, h => by
    have h1 := bv_lt k (fun i hi => h i (by omega))
    have h2 : d k + 1 ≤ 1000000000 := h k (by omega)
    have h3 := Nat.mul_le_mul_right (BB k) h2
    show bv d k + d k * BB k < BB (k + 1)
    rw [BB1, Nat.mul_comm (BB k)]
    rw [Nat.add_mul, Nat.one_mul] at h3
    omega
def upN (d : Nat → Nat) (k x : Nat) : Nat → Nat := fun j => if j = k then x else d j
theorem updN (d : Nat → Nat) (k x : Nat) : vp_updL (fun j => jN (d j)) k (jN x) = fun j => jN (upN d k x j) := by
  funext j
  simp only [vp_updL, upN]
  split <;> rfl
theorem bv_up {d : Nat → Nat} {k x : Nat} : bv (upN d k x) (k + 1) = bv d k + x * BB k := by
  show bv (upN d k x) k + upN d k x k * BB k = _
  rw [bv_ext (d := upN d k x) (d' := d) k (fun i hi => by simp only [upN, if_neg (show ¬ i = k by omega)])]
  simp [upN]
set_option maxRecDepth 100000 in
set_option maxHeartbeats 8000000 in
theorem c6_multiply (V : xV) {a z m b : Nat} {f : xH} {d : Nat → Nat} {post : Option Value → xH → Nat → Prop} (hf : f a = some (xJ 2000 (fun i => jN (d i)))) (hm1 : 1 ≤ m) (hm : m ≤ 1999) (hd : ∀ i, i < m → d i < 1000000000) (hb1 : 1 ≤ b) (hb : b < 2147483648) (htop : BB (m - 1) ≤ bv d m) (hV : bv d m * b < BB 1999)
    (hp : ∀ m' d', 1 ≤ m' → m' ≤ 1999 → (∀ i, i < m' → d' i < 1000000000) → bv d' m' = bv d m * b → BB (m' - 1) ≤ bv d' m' → post (some (.int (nI m'))) (xu f a (xJ 2000 (fun i => jN (d' i)))) z) :
    xMet V yX6_multiply cX6_multiply 9 (some .int) 1 0 0 [.ref a, .int (nI m), .long (jN b)] f z post := by
  refine xMet_of false (by decide) (Nat.le_of_ble_eq_true rfl) (fun h => by cases h) (fun X hX O Rt => ?_)
  have O : xO X cX6_multiply 9 RX6 1 0 0 false := O
  show xG X 0 [some (.ref a), some (.int (nI m)), some (.long (jN b)), none, none, none, none, none, none] [] f (z, 0, 0)
  have hB : (1000000000 : Int64) = jN 1000000000 := rfl
  have h0 : (0 : Int64) = jN 0 := rfl
  have hW : BB (m - 1) ≤ bv d m * b := Nat.le_trans htop (Nat.le_mul_of_pos_right _ hb1)
  have loop2 : ∀ c now : Nat, c < 2147483648 → 1 ≤ now → now ≤ 1999 → ∀ d' u, (∀ i, i < now → d' i < 1000000000) → bv d' now + c * BB now = bv d m * b → BB (now - 1) ≤ bv d m * b → xG X 50 [some (.ref a), some (.int (nI m)), some (.long (jN b)), none, some (.long (jN c)), none, some (.int (nI now)), u, none] [] (xu f a (xJ 2000 (fun i => jN (d' i)))) (z, 0, 0) := by
    intro c
    induction c using Nat.strongRecOn with
    | ind c ih =>
      intro now hc hn1 hn d' u hd' hbv hBn
      have hci : (jN c).toInt = (c : Int) := jN_int (by omega)
      have h0i : (jN 0).toInt = 0 := rfl
      by_cases c0 : c = 0
      · subst c0
        have hcc : ((jN 0).toInt ≤ (jN 0).toInt) = True := eq_true (Int.le_refl _)
        refine xgo O Rt xplX6_q xclX6_q [6, 50] 30 ?_
        simp (maxSteps := 10000000) (disch := omega) only [↓reduceIte, ↓xrun_s, ↓xck_e, xdo_e, xlg_0, xlg_c, xst1_0, xst1_1, xst1_c, xst2_0, xst2_1, xst2_c, xk2_n, xk2_i, xk2_a, xk2_l, xct_i, xct_a, xct_l, xf4_0, xf4_1, xf4_2, xf4_3, List.contains_cons, List.contains_nil, Bool.or_false, Bool.false_or, Bool.or_self, Bool.true_or, Bool.or_true, cond_true, cond_false, List.set_cons_zero, List.set_cons_succ, List.length_cons, List.length_nil, true_and, and_true, xu_s, xu_u, xeqs, Nat.le_refl, not_true_eq_false, xq_10, xq_01, Int32.reduceAdd, Int32.reduceMul, Int32.reduceSub, Int32.reduceLE, Int32.reduceLT, Int32.reduceToNatClampNeg, Nat.reduceAdd, Nat.reduceMul, Nat.reduceBEq, Nat.reduceLT, Nat.reduceLeDiff, Nat.reduceEqDiff, Nat.zero_add, Bool.false_eq_true, reduceCtorEq, if_false, if_true, not_false_eq_true, true_imp_iff, false_imp_iff, imp_self, ↓xil_e, ↓xll_e, ↓xal_e, ↓xs1i_e, ↓xs2i_e, ↓xs1l_e, ↓xs2l_e, ↓xsil_e, ↓xs1_e, ↓xs2_e, ↓xs1a_e, ↓xsia_e, ↓xsiia_e, ↓xslia_e, ↓xsaia_e, ↓xsva_e, ↓xse1i_e, ↓xse1l_e, ↓xse1a_e, ↓xse0_e, ↓xfv_0, ↓xfv_c, ↓xgf_e, ↓xpf_e, ↓xia_e, ↓xia_n, ↓xba_e, ↓xba_n, ↓xla_e, ↓xla_n, ↓xob_e, ↓xra_e, ↓xno_e, ↓xle_e, ↓xnr_i, ↓xnr_b0, ↓xnr_b1, ↓xnr_n, ↓xdo_e, ↓xkl_0, ↓xe_iconst, ↓xe_lconst, ↓xe_ladd, ↓xe_lmul, ↓xe_ldiv, ↓xe_lrem, ↓xe_lcmp, ↓xe_iload, ↓xe_iload_n, ↓xe_lload, ↓xe_lload_n, ↓xe_aload_n, ↓xe_istore, ↓xe_lstore, ↓xe_iinc, ↓xe_goto, ↓xe_ldc2_w, ↓xe_laload, ↓xe_lastore, ↓xe_ireturn, ↓xe_icmp_ge, ↓xe_if_le, dX6_multiply_0, dX6_multiply_1, dX6_multiply_3, dX6_multiply_4, dX6_multiply_6, dX6_multiply_8, dX6_multiply_9, dX6_multiply_12, dX6_multiply_13, dX6_multiply_15, dX6_multiply_16, dX6_multiply_17, dX6_multiply_18, dX6_multiply_20, dX6_multiply_21, dX6_multiply_23, dX6_multiply_24, dX6_multiply_26, dX6_multiply_28, dX6_multiply_31, dX6_multiply_32, dX6_multiply_33, dX6_multiply_35, dX6_multiply_38, dX6_multiply_39, dX6_multiply_41, dX6_multiply_44, dX6_multiply_47, dX6_multiply_48, dX6_multiply_50, dX6_multiply_52, dX6_multiply_53, dX6_multiply_54, dX6_multiply_57, dX6_multiply_58, dX6_multiply_60, dX6_multiply_62, dX6_multiply_65, dX6_multiply_66, dX6_multiply_67, dX6_multiply_69, dX6_multiply_72, dX6_multiply_73, dX6_multiply_75, dX6_multiply_78, dX6_multiply_81, dX6_multiply_83, xcX6_79, xki_0, xki_1, xkl_0, xkl_1, lgc_le, h0, hcc, xt_9_38, xtc_9_38, xt_44_m38, xtc_44_m38, xt_54_27, xtc_54_27, xt_78_m28, xtc_78_m28]
        refine hp now d' hn1 hn hd' ?_ ?_
        · omega
        · have : bv d' now = bv d m * b := by omega
          rw [this]; exact hBn
      · have hcc : ((jN c).toInt ≤ (jN 0).toInt) = False := eq_false (by rw [hci, h0i]; omega)
        have hge : BB now ≤ bv d m * b := by
          have := Nat.le_mul_of_pos_left (BB now) (show 0 < c by omega)
          omega
        have hnow : now < 1999 := BB_lt (Nat.lt_of_le_of_lt hge hV)
        have v0 : vp_in (nI now) 2000 := vp_in_nI (by omega) (by omega)
        have v1 : (nI now).toNatClampNeg = now := nI_clamp (by omega)
        have nn : nI now + 1 = nI (now + 1) := nI_1 now
        have ed : jN c / jN 1000000000 = jN (c / 1000000000) := jN_div (by omega) (by omega)
        have es : jN c - jN (c / 1000000000 * 1000000000) = jN (c - c / 1000000000 * 1000000000) := jN_sub (by omega)
        have eb : (jN 1000000000 = jN 0) = False := eq_false (by decide)
        refine xgo O Rt xplX6_q xclX6_q [6, 50] 30 ?_
        simp (maxSteps := 10000000) (disch := omega) only [↓reduceIte, ↓xrun_s, ↓xck_e, xdo_e, xlg_0, xlg_c, xst1_0, xst1_1, xst1_c, xst2_0, xst2_1, xst2_c, xk2_n, xk2_i, xk2_a, xk2_l, xct_i, xct_a, xct_l, xf4_0, xf4_1, xf4_2, xf4_3, List.contains_cons, List.contains_nil, Bool.or_false, Bool.false_or, Bool.or_self, Bool.true_or, Bool.or_true, cond_true, cond_false, List.set_cons_zero, List.set_cons_succ, List.length_cons, List.length_nil, true_and, and_true, xu_s, xu_u, xeqs, Nat.le_refl, not_true_eq_false, xq_10, xq_01, Int32.reduceAdd, Int32.reduceMul, Int32.reduceSub, Int32.reduceLE, Int32.reduceLT, Int32.reduceToNatClampNeg, Nat.reduceAdd, Nat.reduceMul, Nat.reduceBEq, Nat.reduceLT, Nat.reduceLeDiff, Nat.reduceEqDiff, Nat.zero_add, Bool.false_eq_true, reduceCtorEq, if_false, if_true, not_false_eq_true, true_imp_iff, false_imp_iff, imp_self, ↓xil_e, ↓xll_e, ↓xal_e, ↓xs1i_e, ↓xs2i_e, ↓xs1l_e, ↓xs2l_e, ↓xsil_e, ↓xs1_e, ↓xs2_e, ↓xs1a_e, ↓xsia_e, ↓xsiia_e, ↓xslia_e, ↓xsaia_e, ↓xsva_e, ↓xse1i_e, ↓xse1l_e, ↓xse1a_e, ↓xse0_e, ↓xfv_0, ↓xfv_c, ↓xgf_e, ↓xpf_e, ↓xia_e, ↓xia_n, ↓xba_e, ↓xba_n, ↓xla_e, ↓xla_n, ↓xob_e, ↓xra_e, ↓xno_e, ↓xle_e, ↓xnr_i, ↓xnr_b0, ↓xnr_b1, ↓xnr_n, ↓xdo_e, ↓xkl_0, ↓xe_iconst, ↓xe_lconst, ↓xe_ladd, ↓xe_lmul, ↓xe_ldiv, ↓xe_lrem, ↓xe_lcmp, ↓xe_iload, ↓xe_iload_n, ↓xe_lload, ↓xe_lload_n, ↓xe_aload_n, ↓xe_istore, ↓xe_lstore, ↓xe_iinc, ↓xe_goto, ↓xe_ldc2_w, ↓xe_laload, ↓xe_lastore, ↓xe_ireturn, ↓xe_icmp_ge, ↓xe_if_le, dX6_multiply_0, dX6_multiply_1, dX6_multiply_3, dX6_multiply_4, dX6_multiply_6, dX6_multiply_8, dX6_multiply_9, dX6_multiply_12, dX6_multiply_13, dX6_multiply_15, dX6_multiply_16, dX6_multiply_17, dX6_multiply_18, dX6_multiply_20, dX6_multiply_21, dX6_multiply_23, dX6_multiply_24, dX6_multiply_26, dX6_multiply_28, dX6_multiply_31, dX6_multiply_32, dX6_multiply_33, dX6_multiply_35, dX6_multiply_38, dX6_multiply_39, dX6_multiply_41, dX6_multiply_44, dX6_multiply_47, dX6_multiply_48, dX6_multiply_50, dX6_multiply_52, dX6_multiply_53, dX6_multiply_54, dX6_multiply_57, dX6_multiply_58, dX6_multiply_60, dX6_multiply_62, dX6_multiply_65, dX6_multiply_66, dX6_multiply_67, dX6_multiply_69, dX6_multiply_72, dX6_multiply_73, dX6_multiply_75, dX6_multiply_78, dX6_multiply_81, dX6_multiply_83, xcX6_79, xki_0, xki_1, xkl_0, xkl_1, lgc_le, h0, hcc, hB, v0, v1, nn, ed, jN_mul, es, updN, eb, xt_9_38, xtc_9_38, xt_44_m38, xtc_44_m38, xt_54_27, xtc_54_27, xt_78_m28, xtc_78_m28]
        refine ih (c / 1000000000) (by omega) (now + 1) (by omega) (by omega) (by omega) _ _ (fun i hi => ?_) ?_ (by rw [Nat.add_sub_cancel]; exact hge)
        · simp only [upN]
          split
          · omega
          · exact hd' i (by omega)
        · rw [bv_up, BB1]
          have e1 : c / 1000000000 * (BB now * 1000000000) = (c / 1000000000 * 1000000000) * BB now := by rw [Nat.mul_comm (BB now), Nat.mul_assoc]
          have e2 : (c - c / 1000000000 * 1000000000) * BB now + (c / 1000000000 * 1000000000) * BB now = c * BB now := by rw [← Nat.add_mul, Nat.sub_add_cancel (by omega)]
          rw [e1]
          omega
  have loop1 : ∀ k i : Nat, i + k = m → ∀ d' c u, (∀ j, j < i → d' j < 1000000000) → (∀ j, i ≤ j → d' j = d j) → bv d' i + c * BB i = bv d i * b → c < b → xG X 6 [some (.ref a), some (.int (nI m)), some (.long (jN b)), none, some (.long (jN c)), none, some (.int (nI i)), u, none] [] (xu f a (xJ 2000 (fun i => jN (d' i)))) (z, 0, 0) := by
    intro k
    induction k with
    | zero =>
      intro i hi d' c u h1 h2 h3 h4
      have : i = m := by omega
      subst this
      have hcc : (nI i ≤ nI i) = True := eq_true ((nI_leI (by omega) (by omega)).mpr (by omega))
      refine xgo O Rt xplX6_q xclX6_q [6, 50] 30 ?_
      simp (maxSteps := 10000000) (disch := omega) only [↓reduceIte, ↓xrun_s, ↓xck_e, xdo_e, xlg_0, xlg_c, xst1_0, xst1_1, xst1_c, xst2_0, xst2_1, xst2_c, xk2_n, xk2_i, xk2_a, xk2_l, xct_i, xct_a, xct_l, xf4_0, xf4_1, xf4_2, xf4_3, List.contains_cons, List.contains_nil, Bool.or_false, Bool.false_or, Bool.or_self, Bool.true_or, Bool.or_true, cond_true, cond_false, List.set_cons_zero, List.set_cons_succ, List.length_cons, List.length_nil, true_and, and_true, xu_s, xu_u, xeqs, Nat.le_refl, not_true_eq_false, xq_10, xq_01, Int32.reduceAdd, Int32.reduceMul, Int32.reduceSub, Int32.reduceLE, Int32.reduceLT, Int32.reduceToNatClampNeg, Nat.reduceAdd, Nat.reduceMul, Nat.reduceBEq, Nat.reduceLT, Nat.reduceLeDiff, Nat.reduceEqDiff, Nat.zero_add, Bool.false_eq_true, reduceCtorEq, if_false, if_true, not_false_eq_true, true_imp_iff, false_imp_iff, imp_self, ↓xil_e, ↓xll_e, ↓xal_e, ↓xs1i_e, ↓xs2i_e, ↓xs1l_e, ↓xs2l_e, ↓xsil_e, ↓xs1_e, ↓xs2_e, ↓xs1a_e, ↓xsia_e, ↓xsiia_e, ↓xslia_e, ↓xsaia_e, ↓xsva_e, ↓xse1i_e, ↓xse1l_e, ↓xse1a_e, ↓xse0_e, ↓xfv_0, ↓xfv_c, ↓xgf_e, ↓xpf_e, ↓xia_e, ↓xia_n, ↓xba_e, ↓xba_n, ↓xla_e, ↓xla_n, ↓xob_e, ↓xra_e, ↓xno_e, ↓xle_e, ↓xnr_i, ↓xnr_b0, ↓xnr_b1, ↓xnr_n, ↓xdo_e, ↓xkl_0, ↓xe_iconst, ↓xe_lconst, ↓xe_ladd, ↓xe_lmul, ↓xe_ldiv, ↓xe_lrem, ↓xe_lcmp, ↓xe_iload, ↓xe_iload_n, ↓xe_lload, ↓xe_lload_n, ↓xe_aload_n, ↓xe_istore, ↓xe_lstore, ↓xe_iinc, ↓xe_goto, ↓xe_ldc2_w, ↓xe_laload, ↓xe_lastore, ↓xe_ireturn, ↓xe_icmp_ge, ↓xe_if_le, dX6_multiply_0, dX6_multiply_1, dX6_multiply_3, dX6_multiply_4, dX6_multiply_6, dX6_multiply_8, dX6_multiply_9, dX6_multiply_12, dX6_multiply_13, dX6_multiply_15, dX6_multiply_16, dX6_multiply_17, dX6_multiply_18, dX6_multiply_20, dX6_multiply_21, dX6_multiply_23, dX6_multiply_24, dX6_multiply_26, dX6_multiply_28, dX6_multiply_31, dX6_multiply_32, dX6_multiply_33, dX6_multiply_35, dX6_multiply_38, dX6_multiply_39, dX6_multiply_41, dX6_multiply_44, dX6_multiply_47, dX6_multiply_48, dX6_multiply_50, dX6_multiply_52, dX6_multiply_53, dX6_multiply_54, dX6_multiply_57, dX6_multiply_58, dX6_multiply_60, dX6_multiply_62, dX6_multiply_65, dX6_multiply_66, dX6_multiply_67, dX6_multiply_69, dX6_multiply_72, dX6_multiply_73, dX6_multiply_75, dX6_multiply_78, dX6_multiply_81, dX6_multiply_83, xcX6_79, xki_0, xki_1, xkl_0, xkl_1, hcc, xt_9_38, xtc_9_38, xt_44_m38, xtc_44_m38, xt_54_27, xtc_54_27, xt_78_m28, xtc_78_m28]
      exact loop2 c i (by omega) hm1 hm d' u h1 h3 hW
    | succ k ih =>
      intro i hi d' c u h1 h2 h3 h4
      have hcc : (nI m ≤ nI i) = False := eq_false (fun q => by have := (nI_leI (by omega) (by omega)).mp q; omega)
      have v0 : vp_in (nI i) 2000 := vp_in_nI (by omega) (by omega)
      have v1 : (nI i).toNatClampNeg = i := nI_clamp (by omega)
      have nn : nI i + 1 = nI (i + 1) := nI_1 i
      have hdi := hd i (by omega)
      have hv1 : d i * b + c < 1000000000 * b := by
        have := Nat.mul_le_mul_right b (show d i + 1 ≤ 1000000000 by omega)
        rw [Nat.add_mul, Nat.one_mul] at this
        omega
      have hdd : d' i = d i := h2 i (Nat.le_refl _)
      obtain ⟨v, hv⟩ : ∃ v, v = d i * b + c := ⟨_, rfl⟩
      rw [← hv] at hv1
      have ev : jN (d' i * b) + jN c = jN v := by rw [hdd, jN_add, hv]
      have ed : jN v / jN 1000000000 = jN (v / 1000000000) := jN_div (by omega) (by omega)
      have es : jN v - jN (v / 1000000000 * 1000000000) = jN (v - v / 1000000000 * 1000000000) := jN_sub (by omega)
      have eb : (jN 1000000000 = jN 0) = False := eq_false (by decide)
      refine xgo O Rt xplX6_q xclX6_q [6, 50] 60 ?_
      simp (maxSteps := 10000000) (disch := omega) only [↓reduceIte, ↓xrun_s, ↓xck_e, xdo_e, xlg_0, xlg_c, xst1_0, xst1_1, xst1_c, xst2_0, xst2_1, xst2_c, xk2_n, xk2_i, xk2_a, xk2_l, xct_i, xct_a, xct_l, xf4_0, xf4_1, xf4_2, xf4_3, List.contains_cons, List.contains_nil, Bool.or_false, Bool.false_or, Bool.or_self, Bool.true_or, Bool.or_true, cond_true, cond_false, List.set_cons_zero, List.set_cons_succ, List.length_cons, List.length_nil, true_and, and_true, xu_s, xu_u, xeqs, Nat.le_refl, not_true_eq_false, xq_10, xq_01, Int32.reduceAdd, Int32.reduceMul, Int32.reduceSub, Int32.reduceLE, Int32.reduceLT, Int32.reduceToNatClampNeg, Nat.reduceAdd, Nat.reduceMul, Nat.reduceBEq, Nat.reduceLT, Nat.reduceLeDiff, Nat.reduceEqDiff, Nat.zero_add, Bool.false_eq_true, reduceCtorEq, if_false, if_true, not_false_eq_true, true_imp_iff, false_imp_iff, imp_self, ↓xil_e, ↓xll_e, ↓xal_e, ↓xs1i_e, ↓xs2i_e, ↓xs1l_e, ↓xs2l_e, ↓xsil_e, ↓xs1_e, ↓xs2_e, ↓xs1a_e, ↓xsia_e, ↓xsiia_e, ↓xslia_e, ↓xsaia_e, ↓xsva_e, ↓xse1i_e, ↓xse1l_e, ↓xse1a_e, ↓xse0_e, ↓xfv_0, ↓xfv_c, ↓xgf_e, ↓xpf_e, ↓xia_e, ↓xia_n, ↓xba_e, ↓xba_n, ↓xla_e, ↓xla_n, ↓xob_e, ↓xra_e, ↓xno_e, ↓xle_e, ↓xnr_i, ↓xnr_b0, ↓xnr_b1, ↓xnr_n, ↓xdo_e, ↓xkl_0, ↓xe_iconst, ↓xe_lconst, ↓xe_ladd, ↓xe_lmul, ↓xe_ldiv, ↓xe_lrem, ↓xe_lcmp, ↓xe_iload, ↓xe_iload_n, ↓xe_lload, ↓xe_lload_n, ↓xe_aload_n, ↓xe_istore, ↓xe_lstore, ↓xe_iinc, ↓xe_goto, ↓xe_ldc2_w, ↓xe_laload, ↓xe_lastore, ↓xe_ireturn, ↓xe_icmp_ge, ↓xe_if_le, dX6_multiply_0, dX6_multiply_1, dX6_multiply_3, dX6_multiply_4, dX6_multiply_6, dX6_multiply_8, dX6_multiply_9, dX6_multiply_12, dX6_multiply_13, dX6_multiply_15, dX6_multiply_16, dX6_multiply_17, dX6_multiply_18, dX6_multiply_20, dX6_multiply_21, dX6_multiply_23, dX6_multiply_24, dX6_multiply_26, dX6_multiply_28, dX6_multiply_31, dX6_multiply_32, dX6_multiply_33, dX6_multiply_35, dX6_multiply_38, dX6_multiply_39, dX6_multiply_41, dX6_multiply_44, dX6_multiply_47, dX6_multiply_48, dX6_multiply_50, dX6_multiply_52, dX6_multiply_53, dX6_multiply_54, dX6_multiply_57, dX6_multiply_58, dX6_multiply_60, dX6_multiply_62, dX6_multiply_65, dX6_multiply_66, dX6_multiply_67, dX6_multiply_69, dX6_multiply_72, dX6_multiply_73, dX6_multiply_75, dX6_multiply_78, dX6_multiply_81, dX6_multiply_83, xcX6_79, xki_0, xki_1, xkl_0, xkl_1, hcc, hB, h0, v0, v1, nn, ev, ed, jN_mul, es, updN, eb, xt_9_38, xtc_9_38, xt_44_m38, xtc_44_m38, xt_54_27, xtc_54_27, xt_78_m28, xtc_78_m28]
      refine ih (i + 1) (by omega) _ _ _ (fun j hj => ?_) (fun j hj => ?_) ?_ ?_
      · simp only [upN]
        split
        · omega
        · exact h1 j (by omega)
      · simp only [upN, if_neg (show ¬ j = i by omega)]
        exact h2 j (by omega)
      · rw [bv_up, BB1]
        have e1 : v / 1000000000 * (BB i * 1000000000) = (v / 1000000000 * 1000000000) * BB i := by rw [Nat.mul_comm (BB i), Nat.mul_assoc]
        have e2 : (v - v / 1000000000 * 1000000000) * BB i + (v / 1000000000 * 1000000000) * BB i = v * BB i := by rw [← Nat.add_mul, Nat.sub_add_cancel (by omega)]
        have e3 : v * BB i = d i * BB i * b + c * BB i := by rw [hv, Nat.add_mul, Nat.mul_right_comm]
        have e4 : bv d (i + 1) * b = bv d i * b + d i * BB i * b := by
          show (bv d i + d i * BB i) * b = _
          rw [Nat.add_mul]
        rw [e1, e4]
        omega
      · exact Nat.div_lt_of_lt_mul hv1
  refine xgo O Rt xplX6_q xclX6_q [6, 50] 30 ?_
  simp (maxSteps := 10000000) (disch := omega) only [↓reduceIte, ↓xrun_s, ↓xck_e, xdo_e, xlg_0, xlg_c, xst1_0, xst1_1, xst1_c, xst2_0, xst2_1, xst2_c, xk2_n, xk2_i, xk2_a, xk2_l, xct_i, xct_a, xct_l, xf4_0, xf4_1, xf4_2, xf4_3, List.contains_cons, List.contains_nil, Bool.or_false, Bool.false_or, Bool.or_self, Bool.true_or, Bool.or_true, cond_true, cond_false, List.set_cons_zero, List.set_cons_succ, List.length_cons, List.length_nil, true_and, and_true, xu_s, xu_u, xeqs, Nat.le_refl, not_true_eq_false, xq_10, xq_01, Int32.reduceAdd, Int32.reduceMul, Int32.reduceSub, Int32.reduceLE, Int32.reduceLT, Int32.reduceToNatClampNeg, Nat.reduceAdd, Nat.reduceMul, Nat.reduceBEq, Nat.reduceLT, Nat.reduceLeDiff, Nat.reduceEqDiff, Nat.zero_add, Bool.false_eq_true, reduceCtorEq, if_false, if_true, not_false_eq_true, true_imp_iff, false_imp_iff, imp_self, ↓xil_e, ↓xll_e, ↓xal_e, ↓xs1i_e, ↓xs2i_e, ↓xs1l_e, ↓xs2l_e, ↓xsil_e, ↓xs1_e, ↓xs2_e, ↓xs1a_e, ↓xsia_e, ↓xsiia_e, ↓xslia_e, ↓xsaia_e, ↓xsva_e, ↓xse1i_e, ↓xse1l_e, ↓xse1a_e, ↓xse0_e, ↓xfv_0, ↓xfv_c, ↓xgf_e, ↓xpf_e, ↓xia_e, ↓xia_n, ↓xba_e, ↓xba_n, ↓xla_e, ↓xla_n, ↓xob_e, ↓xra_e, ↓xno_e, ↓xle_e, ↓xnr_i, ↓xnr_b0, ↓xnr_b1, ↓xnr_n, ↓xdo_e, ↓xkl_0, ↓xe_iconst, ↓xe_lconst, ↓xe_ladd, ↓xe_lmul, ↓xe_ldiv, ↓xe_lrem, ↓xe_lcmp, ↓xe_iload, ↓xe_iload_n, ↓xe_lload, ↓xe_lload_n, ↓xe_aload_n, ↓xe_istore, ↓xe_lstore, ↓xe_iinc, ↓xe_goto, ↓xe_ldc2_w, ↓xe_laload, ↓xe_lastore, ↓xe_ireturn, ↓xe_icmp_ge, ↓xe_if_le, dX6_multiply_0, dX6_multiply_1, dX6_multiply_3, dX6_multiply_4, dX6_multiply_6, dX6_multiply_8, dX6_multiply_9, dX6_multiply_12, dX6_multiply_13, dX6_multiply_15, dX6_multiply_16, dX6_multiply_17, dX6_multiply_18, dX6_multiply_20, dX6_multiply_21, dX6_multiply_23, dX6_multiply_24, dX6_multiply_26, dX6_multiply_28, dX6_multiply_31, dX6_multiply_32, dX6_multiply_33, dX6_multiply_35, dX6_multiply_38, dX6_multiply_39, dX6_multiply_41, dX6_multiply_44, dX6_multiply_47, dX6_multiply_48, dX6_multiply_50, dX6_multiply_52, dX6_multiply_53, dX6_multiply_54, dX6_multiply_57, dX6_multiply_58, dX6_multiply_60, dX6_multiply_62, dX6_multiply_65, dX6_multiply_66, dX6_multiply_67, dX6_multiply_69, dX6_multiply_72, dX6_multiply_73, dX6_multiply_75, dX6_multiply_78, dX6_multiply_81, dX6_multiply_83, xcX6_79, xki_0, xki_1, xkl_0, xkl_1, h0, xt_9_38, xtc_9_38, xt_44_m38, xtc_44_m38, xt_54_27, xtc_54_27, xt_78_m28, xtc_78_m28]
  have := loop1 m 0 (by omega) d 0 none (fun j hj => absurd hj (by omega)) (fun j _ => rfl) (by simp [bv]) (by omega)
  rw [xu_id hf] at this
  exact this
