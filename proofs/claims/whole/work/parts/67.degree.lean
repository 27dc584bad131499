/-! ===== TuningTablesModel: reduced, degreeOf ===== -/
set_option maxRecDepth 100000 in
set_option maxHeartbeats 8000000 in
theorem c6_reduced (V : xV) {v z s c : Nat} {f : xH} {i3 i4 i14 i15 i16 i17 i18 i19 i21 i22 : Int32} {xs : Nat → xZ} {P : xZ} {post : Option Value → xH → Nat → Prop} (h6 : f v = some (x6 v i3 i4 (nI c) i14 i15 i16 i17 i18 i19 i21 i22)) (hC : RfC f v) (hS : Scr f v) (hX : Exs f v c xs) (hP : E6 f (v + 5) P) (ha : I6 f (v + 9) 6) (hc : c ≤ 24) (hs : s < c) (hb : bd (xs s) 1000) (hper : Per P) (hq : -700 ≤ qd (xs s) P ∧ qd (xs s) P ≤ 700)
    (hp : ∀ f', (∀ q, q < v + 6 ∨ v + 10 ≤ q → f' q = f q) → Scr f' v → E6 f' (v + 9) (rdc (xs s) P) → post none f' z) :
    xMet V yX6_reduced cX6_reduced 5 none 6 0 0 [.ref v, .int (nI s), .ref (v + 9)] f z post := by
  refine xMet_of false (by decide) (Nat.le_of_ble_eq_true rfl) (fun h => by cases h) (fun X hX' O Rt => ?_)
  have O : xO X cX6_reduced 5 RX6 6 0 0 false := O
  show xG X 0 [some (.ref v), some (.int (nI s)), some (.ref (v + 9)), none, none] [] f (z, 0, 0)
  have six : (6 : Int32).toInt = 6 := rfl
  refine xgo O Rt xplX6_q xclX6_q [15] 30 ?_
  simp (maxSteps := 10000000) (disch := omega) only [↓reduceIte, ↓xrun_s, ↓xck_e, xdo_e, xlg_0, xlg_c, xst1_0, xst1_1, xst1_c, xst2_0, xst2_1, xst2_c, xk2_n, xk2_i, xk2_a, xk2_l, xct_i, xct_a, xct_l, xf4_0, xf4_1, xf4_2, xf4_3, List.contains_cons, List.contains_nil, Bool.or_false, Bool.false_or, Bool.or_self, Bool.true_or, Bool.or_true, cond_true, cond_false, List.set_cons_zero, List.set_cons_succ, List.length_cons, List.length_nil, true_and, and_true, xu_s, xu_u, xeqs, Nat.le_refl, not_true_eq_false, xq_10, xq_01, Int32.reduceAdd, Int32.reduceMul, Int32.reduceSub, Int32.reduceLE, Int32.reduceLT, Int32.reduceToNatClampNeg, Nat.reduceAdd, Nat.reduceMul, Nat.reduceBEq, Nat.reduceLT, Nat.reduceLeDiff, Nat.reduceEqDiff, Nat.zero_add, Bool.false_eq_true, reduceCtorEq, if_false, if_true, not_false_eq_true, true_imp_iff, false_imp_iff, imp_self, ↓xil_e, ↓xll_e, ↓xal_e, ↓xs1i_e, ↓xs2i_e, ↓xs1l_e, ↓xs2l_e, ↓xsil_e, ↓xs1_e, ↓xs2_e, ↓xs1a_e, ↓xsia_e, ↓xsiia_e, ↓xslia_e, ↓xsaia_e, ↓xsva_e, ↓xse1i_e, ↓xse1l_e, ↓xse1a_e, ↓xse0_e, ↓xfv_0, ↓xfv_c, ↓xgf_e, ↓xpf_e, ↓xia_e, ↓xia_n, ↓xba_e, ↓xba_n, ↓xla_e, ↓xla_n, ↓xob_e, ↓xra_e, ↓xno_e, ↓xle_e, ↓xnr_i, ↓xnr_b0, ↓xnr_b1, ↓xnr_n, ↓xdo_e, ↓xkl_0, ↓xe_iconst, ↓xe_bipush, ↓xe_isub, ↓xe_imul, ↓xe_dup2, ↓xe_iload, ↓xe_iload_n, ↓xe_aload_n, ↓xe_istore, ↓xe_istore_n, ↓xe_iinc, ↓xe_goto, ↓xe_getfield, ↓xe_iaload, ↓xe_iastore, ↓xe_return_, ↓xe_icmp_ge, ↓xe_invokevirtual, dX6_reduced_0, dX6_reduced_1, dX6_reduced_2, dX6_reduced_3, dX6_reduced_6, dX6_reduced_7, dX6_reduced_8, dX6_reduced_11, dX6_reduced_12, dX6_reduced_13, dX6_reduced_15, dX6_reduced_17, dX6_reduced_19, dX6_reduced_22, dX6_reduced_23, dX6_reduced_25, dX6_reduced_26, dX6_reduced_27, dX6_reduced_28, dX6_reduced_29, dX6_reduced_32, dX6_reduced_34, dX6_reduced_35, dX6_reduced_36, dX6_reduced_37, dX6_reduced_38, dX6_reduced_41, dX6_reduced_44, xpX6_36, xkb_6, xki_0, xki_1, xt_19_25, xtc_19_25, xt_41_m26, xtc_41_m26]
  refine xg_callVv (Qp := fun f' => (∀ q, q ≠ v + 9 → f' q = f q) ∧ E6 f' (v + 9) (if s = c then P else xs s)) O dX6_reduced_3 xl_X6_101 xk_X6_take (c6_take _ h6 hX hP ha (by omega) (by omega) (by omega) hc (by omega) (fun f' q1 q2 => ⟨rfl, ⟨q1, q2⟩, rfl⟩)) h6 rfl rfl rfl (Nat.le_of_ble_eq_true rfl) rfl (Nat.le_of_ble_eq_true rfl) (Nat.le_of_ble_eq_true rfl) (Nat.le_of_ble_eq_true rfl) (fun f1 hq => ?_)
  obtain ⟨k1, e1⟩ := hq
  rw [if_neg (by omega)] at e1
  have g6 : f1 v = some (x6 v i3 i4 (nI c) i14 i15 i16 i17 i18 i19 i21 i22) := by rw [k1 _ (by omega)]; exact h6
  refine xgo O Rt xplX6_q xclX6_q [15] 30 ?_
  simp (maxSteps := 10000000) (disch := omega) only [↓reduceIte, ↓xrun_s, ↓xck_e, xdo_e, xlg_0, xlg_c, xst1_0, xst1_1, xst1_c, xst2_0, xst2_1, xst2_c, xk2_n, xk2_i, xk2_a, xk2_l, xct_i, xct_a, xct_l, xf4_0, xf4_1, xf4_2, xf4_3, List.contains_cons, List.contains_nil, Bool.or_false, Bool.false_or, Bool.or_self, Bool.true_or, Bool.or_true, cond_true, cond_false, List.set_cons_zero, List.set_cons_succ, List.length_cons, List.length_nil, true_and, and_true, xu_s, xu_u, xeqs, Nat.le_refl, not_true_eq_false, xq_10, xq_01, Int32.reduceAdd, Int32.reduceMul, Int32.reduceSub, Int32.reduceLE, Int32.reduceLT, Int32.reduceToNatClampNeg, Nat.reduceAdd, Nat.reduceMul, Nat.reduceBEq, Nat.reduceLT, Nat.reduceLeDiff, Nat.reduceEqDiff, Nat.zero_add, Bool.false_eq_true, reduceCtorEq, if_false, if_true, not_false_eq_true, true_imp_iff, false_imp_iff, imp_self, ↓xil_e, ↓xll_e, ↓xal_e, ↓xs1i_e, ↓xs2i_e, ↓xs1l_e, ↓xs2l_e, ↓xsil_e, ↓xs1_e, ↓xs2_e, ↓xs1a_e, ↓xsia_e, ↓xsiia_e, ↓xslia_e, ↓xsaia_e, ↓xsva_e, ↓xse1i_e, ↓xse1l_e, ↓xse1a_e, ↓xse0_e, ↓xfv_0, ↓xfv_c, ↓xgf_e, ↓xpf_e, ↓xia_e, ↓xia_n, ↓xba_e, ↓xba_n, ↓xla_e, ↓xla_n, ↓xob_e, ↓xra_e, ↓xno_e, ↓xle_e, ↓xnr_i, ↓xnr_b0, ↓xnr_b1, ↓xnr_n, ↓xdo_e, ↓xkl_0, ↓xe_iconst, ↓xe_bipush, ↓xe_isub, ↓xe_imul, ↓xe_dup2, ↓xe_iload, ↓xe_iload_n, ↓xe_aload_n, ↓xe_istore, ↓xe_istore_n, ↓xe_iinc, ↓xe_goto, ↓xe_getfield, ↓xe_iaload, ↓xe_iastore, ↓xe_return_, ↓xe_icmp_ge, ↓xe_invokevirtual, dX6_reduced_0, dX6_reduced_1, dX6_reduced_2, dX6_reduced_3, dX6_reduced_6, dX6_reduced_7, dX6_reduced_8, dX6_reduced_11, dX6_reduced_12, dX6_reduced_13, dX6_reduced_15, dX6_reduced_17, dX6_reduced_19, dX6_reduced_22, dX6_reduced_23, dX6_reduced_25, dX6_reduced_26, dX6_reduced_27, dX6_reduced_28, dX6_reduced_29, dX6_reduced_32, dX6_reduced_34, dX6_reduced_35, dX6_reduced_36, dX6_reduced_37, dX6_reduced_38, dX6_reduced_41, dX6_reduced_44, xpX6_36, xkb_6, xki_0, xki_1, xt_19_25, xtc_19_25, xt_41_m26, xtc_41_m26]
  refine xg_callVi (Qp := fun r f' => r.toInt = qd (xs s) P ∧ (∀ q, q < v + 6 ∨ v + 9 ≤ q → f' q = f1 q) ∧ Scr f' v) O dX6_reduced_8 xl_X6_105 xk_X6_periodsIn (c6_periodsIn _ g6 (hC.kept (k1 _ (by omega)) (k1 _ (by omega))) (hS.kept (fun q a b => k1 q (by omega))) e1 (hP.kept (k1 _ (by omega))) (by omega) hb hper hq (fun r f' q1 q2 q3 => ⟨r, rfl, ⟨q1, q2, q3⟩, rfl⟩)) g6 rfl rfl rfl (Nat.le_of_ble_eq_true rfl) rfl (Nat.le_of_ble_eq_true rfl) (Nat.le_of_ble_eq_true rfl) (Nat.le_of_ble_eq_true rfl) (fun r f2 hq => ?_)
  rename_i hq0
  obtain ⟨hr, k2, hS2⟩ := hq
  have g62 : f2 v = some (x6 v i3 i4 (nI c) i14 i15 i16 i17 i18 i19 i21 i22) := by rw [k2 _ (by omega)]; exact g6
  obtain ⟨ev, he1, he2⟩ := e1.kept (k2 _ (by omega))
  obtain ⟨pv, hp1, hp2⟩ := (hP.kept (k1 _ (by omega))).kept (k2 _ (by omega))
  have loop : ∀ n k : Nat, k + n = 6 → ∀ g : Nat → Int32, (∀ j, j < k → (g j).toInt = rdc (xs s) P j) → (∀ j, k ≤ j → j < 6 → (g j).toInt = xs s j) → xG X 15 [some (.ref v), some (.int (nI s)), some (.ref (v + 9)), some (.int r), some (.int (nI k))] [] (xu f2 (v + 9) (xI 6 g)) (z, 0, 0) := by
    intro n
    induction n with
    | zero =>
      intro k hk g hg hg2
      have : k = 6 := by omega
      subst this
      have hti : (nI 6).toInt = 6 := rfl
      have cT : ((6 : Int) ≤ 6) = True := eq_true (Int.le_refl _)
      refine xgo O Rt xplX6_q xclX6_q [15] 30 ?_
      simp (maxSteps := 10000000) (disch := omega) only [↓reduceIte, ↓xrun_s, ↓xck_e, xdo_e, xlg_0, xlg_c, xst1_0, xst1_1, xst1_c, xst2_0, xst2_1, xst2_c, xk2_n, xk2_i, xk2_a, xk2_l, xct_i, xct_a, xct_l, xf4_0, xf4_1, xf4_2, xf4_3, List.contains_cons, List.contains_nil, Bool.or_false, Bool.false_or, Bool.or_self, Bool.true_or, Bool.or_true, cond_true, cond_false, List.set_cons_zero, List.set_cons_succ, List.length_cons, List.length_nil, true_and, and_true, xu_s, xu_u, xeqs, Nat.le_refl, not_true_eq_false, xq_10, xq_01, Int32.reduceAdd, Int32.reduceMul, Int32.reduceSub, Int32.reduceLE, Int32.reduceLT, Int32.reduceToNatClampNeg, Nat.reduceAdd, Nat.reduceMul, Nat.reduceBEq, Nat.reduceLT, Nat.reduceLeDiff, Nat.reduceEqDiff, Nat.zero_add, Bool.false_eq_true, reduceCtorEq, if_false, if_true, not_false_eq_true, true_imp_iff, false_imp_iff, imp_self, ↓xil_e, ↓xll_e, ↓xal_e, ↓xs1i_e, ↓xs2i_e, ↓xs1l_e, ↓xs2l_e, ↓xsil_e, ↓xs1_e, ↓xs2_e, ↓xs1a_e, ↓xsia_e, ↓xsiia_e, ↓xslia_e, ↓xsaia_e, ↓xsva_e, ↓xse1i_e, ↓xse1l_e, ↓xse1a_e, ↓xse0_e, ↓xfv_0, ↓xfv_c, ↓xgf_e, ↓xpf_e, ↓xia_e, ↓xia_n, ↓xba_e, ↓xba_n, ↓xla_e, ↓xla_n, ↓xob_e, ↓xra_e, ↓xno_e, ↓xle_e, ↓xnr_i, ↓xnr_b0, ↓xnr_b1, ↓xnr_n, ↓xdo_e, ↓xkl_0, ↓xe_iconst, ↓xe_bipush, ↓xe_isub, ↓xe_imul, ↓xe_dup2, ↓xe_iload, ↓xe_iload_n, ↓xe_aload_n, ↓xe_istore, ↓xe_istore_n, ↓xe_iinc, ↓xe_goto, ↓xe_getfield, ↓xe_iaload, ↓xe_iastore, ↓xe_return_, ↓xe_icmp_ge, ↓xe_invokevirtual, dX6_reduced_0, dX6_reduced_1, dX6_reduced_2, dX6_reduced_3, dX6_reduced_6, dX6_reduced_7, dX6_reduced_8, dX6_reduced_11, dX6_reduced_12, dX6_reduced_13, dX6_reduced_15, dX6_reduced_17, dX6_reduced_19, dX6_reduced_22, dX6_reduced_23, dX6_reduced_25, dX6_reduced_26, dX6_reduced_27, dX6_reduced_28, dX6_reduced_29, dX6_reduced_32, dX6_reduced_34, dX6_reduced_35, dX6_reduced_36, dX6_reduced_37, dX6_reduced_38, dX6_reduced_41, dX6_reduced_44, xpX6_36, xkb_6, xki_0, xki_1, n_le, six, hti, cT, xt_19_25, xtc_19_25, xt_41_m26, xtc_41_m26]
      exact hp _ (fun q hq => by rw [xu_n (by omega), k2 _ (by omega), k1 _ (by omega)]) (hS2.kept (fun q a b => xu_n (by omega))) ⟨g, xu_s _ _ _, hg⟩
    | succ n ih =>
      intro k hk g hg hg2
      have hti : (nI k).toInt = (k : Int) := nI_int (by omega)
      have nk : nI k + 1 = nI (k + 1) := nI_1 k
      have v0 : vp_in (nI k) 6 := vp_in_nI (by omega) (by omega)
      have v1 : (nI k).toNatClampNeg = k := nI_clamp (by omega)
      have hu : xu f2 (v + 9) (xI 6 g) v = some (x6 v i3 i4 (nI c) i14 i15 i16 i17 i18 i19 i21 i22) := by rw [xu_n (by omega)]; exact g62
      have hu2 : xu f2 (v + 9) (xI 6 g) (v + 5) = some (xI 6 pv) := by rw [xu_n (by omega)]; exact hp1
      have cF : ((6 : Int) ≤ (k : Int)) = False := eq_false (by omega)
      refine xgo O Rt xplX6_q xclX6_q [15] 40 ?_
      simp (maxSteps := 10000000) (disch := omega) only [↓reduceIte, ↓xrun_s, ↓xck_e, xdo_e, xlg_0, xlg_c, xst1_0, xst1_1, xst1_c, xst2_0, xst2_1, xst2_c, xk2_n, xk2_i, xk2_a, xk2_l, xct_i, xct_a, xct_l, xf4_0, xf4_1, xf4_2, xf4_3, List.contains_cons, List.contains_nil, Bool.or_false, Bool.false_or, Bool.or_self, Bool.true_or, Bool.or_true, cond_true, cond_false, List.set_cons_zero, List.set_cons_succ, List.length_cons, List.length_nil, true_and, and_true, xu_s, xu_u, xeqs, Nat.le_refl, not_true_eq_false, xq_10, xq_01, Int32.reduceAdd, Int32.reduceMul, Int32.reduceSub, Int32.reduceLE, Int32.reduceLT, Int32.reduceToNatClampNeg, Nat.reduceAdd, Nat.reduceMul, Nat.reduceBEq, Nat.reduceLT, Nat.reduceLeDiff, Nat.reduceEqDiff, Nat.zero_add, Bool.false_eq_true, reduceCtorEq, if_false, if_true, not_false_eq_true, true_imp_iff, false_imp_iff, imp_self, ↓xil_e, ↓xll_e, ↓xal_e, ↓xs1i_e, ↓xs2i_e, ↓xs1l_e, ↓xs2l_e, ↓xsil_e, ↓xs1_e, ↓xs2_e, ↓xs1a_e, ↓xsia_e, ↓xsiia_e, ↓xslia_e, ↓xsaia_e, ↓xsva_e, ↓xse1i_e, ↓xse1l_e, ↓xse1a_e, ↓xse0_e, ↓xfv_0, ↓xfv_c, ↓xgf_e, ↓xpf_e, ↓xia_e, ↓xia_n, ↓xba_e, ↓xba_n, ↓xla_e, ↓xla_n, ↓xob_e, ↓xra_e, ↓xno_e, ↓xle_e, ↓xnr_i, ↓xnr_b0, ↓xnr_b1, ↓xnr_n, ↓xdo_e, ↓xkl_0, ↓xe_iconst, ↓xe_bipush, ↓xe_isub, ↓xe_imul, ↓xe_dup2, ↓xe_iload, ↓xe_iload_n, ↓xe_aload_n, ↓xe_istore, ↓xe_istore_n, ↓xe_iinc, ↓xe_goto, ↓xe_getfield, ↓xe_iaload, ↓xe_iastore, ↓xe_return_, ↓xe_icmp_ge, ↓xe_invokevirtual, dX6_reduced_0, dX6_reduced_1, dX6_reduced_2, dX6_reduced_3, dX6_reduced_6, dX6_reduced_7, dX6_reduced_8, dX6_reduced_11, dX6_reduced_12, dX6_reduced_13, dX6_reduced_15, dX6_reduced_17, dX6_reduced_19, dX6_reduced_22, dX6_reduced_23, dX6_reduced_25, dX6_reduced_26, dX6_reduced_27, dX6_reduced_28, dX6_reduced_29, dX6_reduced_32, dX6_reduced_34, dX6_reduced_35, dX6_reduced_36, dX6_reduced_37, dX6_reduced_38, dX6_reduced_41, dX6_reduced_44, xpX6_36, xkb_6, xki_0, xki_1, n_le, six, hti, cF, hu, hu2, v0, v1, nk, xt_19_25, xtc_19_25, xt_41_m26, xtc_41_m26]
      refine ih (k + 1) (by omega) _ (fun j hj => ?_) (fun j a b => ?_)
      · simp only [upd]
        by_cases ej : j = k
        · rw [if_pos ej, ej]
          have c1 := hb k (by omega)
          have c2 := hper.1 k (by omega)
          have d1 := hg2 k (Nat.le_refl _) (by omega)
          have d2 := hp2 k (by omega)
          have c3 := mulb (a := qd (xs s) P) (b := P k) (A := 700) (B := 3) (by omega) (by omega) c2.1 c2.2
          have w2 : (r * pv k).toInt = qd (xs s) P * P k := by rw [n_mul (by rw [hr, d2]; omega) (by rw [hr, d2]; omega), hr, d2]
          rw [n_sub (by rw [d1, w2]; omega) (by rw [d1, w2]; omega), d1, w2]
          simp only [rdc, zadd, Int.neg_mul]
          omega
        · rw [if_neg ej]; exact hg j (by omega)
      · simp only [upd]
        rw [if_neg (by omega)]
        exact hg2 j (by omega) b
  refine xgo O Rt xplX6_q xclX6_q [15] 30 ?_
  simp (maxSteps := 10000000) (disch := omega) only [↓reduceIte, ↓xrun_s, ↓xck_e, xdo_e, xlg_0, xlg_c, xst1_0, xst1_1, xst1_c, xst2_0, xst2_1, xst2_c, xk2_n, xk2_i, xk2_a, xk2_l, xct_i, xct_a, xct_l, xf4_0, xf4_1, xf4_2, xf4_3, List.contains_cons, List.contains_nil, Bool.or_false, Bool.false_or, Bool.or_self, Bool.true_or, Bool.or_true, cond_true, cond_false, List.set_cons_zero, List.set_cons_succ, List.length_cons, List.length_nil, true_and, and_true, xu_s, xu_u, xeqs, Nat.le_refl, not_true_eq_false, xq_10, xq_01, Int32.reduceAdd, Int32.reduceMul, Int32.reduceSub, Int32.reduceLE, Int32.reduceLT, Int32.reduceToNatClampNeg, Nat.reduceAdd, Nat.reduceMul, Nat.reduceBEq, Nat.reduceLT, Nat.reduceLeDiff, Nat.reduceEqDiff, Nat.zero_add, Bool.false_eq_true, reduceCtorEq, if_false, if_true, not_false_eq_true, true_imp_iff, false_imp_iff, imp_self, ↓xil_e, ↓xll_e, ↓xal_e, ↓xs1i_e, ↓xs2i_e, ↓xs1l_e, ↓xs2l_e, ↓xsil_e, ↓xs1_e, ↓xs2_e, ↓xs1a_e, ↓xsia_e, ↓xsiia_e, ↓xslia_e, ↓xsaia_e, ↓xsva_e, ↓xse1i_e, ↓xse1l_e, ↓xse1a_e, ↓xse0_e, ↓xfv_0, ↓xfv_c, ↓xgf_e, ↓xpf_e, ↓xia_e, ↓xia_n, ↓xba_e, ↓xba_n, ↓xla_e, ↓xla_n, ↓xob_e, ↓xra_e, ↓xno_e, ↓xle_e, ↓xnr_i, ↓xnr_b0, ↓xnr_b1, ↓xnr_n, ↓xdo_e, ↓xkl_0, ↓xe_iconst, ↓xe_bipush, ↓xe_isub, ↓xe_imul, ↓xe_dup2, ↓xe_iload, ↓xe_iload_n, ↓xe_aload_n, ↓xe_istore, ↓xe_istore_n, ↓xe_iinc, ↓xe_goto, ↓xe_getfield, ↓xe_iaload, ↓xe_iastore, ↓xe_return_, ↓xe_icmp_ge, ↓xe_invokevirtual, dX6_reduced_0, dX6_reduced_1, dX6_reduced_2, dX6_reduced_3, dX6_reduced_6, dX6_reduced_7, dX6_reduced_8, dX6_reduced_11, dX6_reduced_12, dX6_reduced_13, dX6_reduced_15, dX6_reduced_17, dX6_reduced_19, dX6_reduced_22, dX6_reduced_23, dX6_reduced_25, dX6_reduced_26, dX6_reduced_27, dX6_reduced_28, dX6_reduced_29, dX6_reduced_32, dX6_reduced_34, dX6_reduced_35, dX6_reduced_36, dX6_reduced_37, dX6_reduced_38, dX6_reduced_41, dX6_reduced_44, xpX6_36, xkb_6, xki_0, xki_1, xt_19_25, xtc_19_25, xt_41_m26, xtc_41_m26]
  have := loop 6 0 (by omega) ev (fun j hj => absurd hj (by omega)) (fun j _ hj => he2 j hj)
  rw [xu_id he1] at this
  exact this
theorem dg_prop {S Q m : Int} (hQ : 0 < Q) : (2 * dg S Q m - 1) * Q < 2 * m * S ∧ 2 * m * S ≤ (2 * dg S Q m + 1) * Q := by
  unfold dg
  generalize 2 * m * S = M
  have h1 := Int.ediv_mul_le (Q - M) (show 2 * Q ≠ 0 by omega)
  have h2 := Int.lt_ediv_add_one_mul_self (Q - M) (show 0 < 2 * Q by omega)
  generalize (Q - M) / (2 * Q) = g at h1 h2
  have e1 : g * (2 * Q) = 2 * (g * Q) := by rw [Int.mul_left_comm]
  have e2 : (g + 1) * (2 * Q) = 2 * (g * Q) + 2 * Q := by rw [Int.add_mul, e1]; omega
  have e3 : (2 * -g - 1) * Q = -(2 * (g * Q)) - Q := by rw [Int.sub_mul, Int.mul_assoc, Int.neg_mul]; omega
  have e4 : (2 * -g + 1) * Q = -(2 * (g * Q)) + Q := by rw [Int.add_mul, Int.mul_assoc, Int.neg_mul]; omega
  rw [e1] at h1
  rw [e2] at h2
  rw [e3, e4]
  omega
theorem wt_LG {k : Nat} (hk : k < 6) : -1329227995784915872903807060280344576 ≤ (wt k : Int) * 1329227995784915872903807060280344576 - 100 * LG k ∧ (wt k : Int) * 1329227995784915872903807060280344576 - 100 * LG k ≤ 1329227995784915872903807060280344576 := by
  rcases (by omega : k = 0 ∨ k = 1 ∨ k = 2 ∨ k = 3 ∨ k = 4 ∨ k = 5) with rfl | rfl | rfl | rfl | rfl | rfl
  · rw [LG0]; decide
  · rw [LG1]; decide
  · rw [LG2]; decide
  · rw [LG3]; decide
  · rw [LG4]; decide
  · rw [LG5]; decide
/-- a combination's weight, both ways -/
theorem wP_diff (e : xZ) : ((wP (zneg e) 6 : Int) - (wP e 6 : Int)) * 1329227995784915872903807060280344576 ≤ -(100 * sz e) + (offN e 6 : Int) * 1329227995784915872903807060280344576 ∧ ((wP e 6 : Int) - (wP (zneg e) 6 : Int)) * 1329227995784915872903807060280344576 ≤ 100 * sz e + (offN e 6 : Int) * 1329227995784915872903807060280344576 := by
  have h : ∀ k, k < 6 → -(((e k).natAbs : Int) * 1329227995784915872903807060280344576) ≤ e k * (wt k : Int) * 1329227995784915872903807060280344576 - 100 * (e k * LG k) ∧ e k * (wt k : Int) * 1329227995784915872903807060280344576 - 100 * (e k * LG k) ≤ ((e k).natAbs : Int) * 1329227995784915872903807060280344576 := by
    intro k hk
    have := mulb (a := e k) (b := (wt k : Int) * 1329227995784915872903807060280344576 - 100 * LG k) (A := ((e k).natAbs : Int)) (B := 1329227995784915872903807060280344576) (by omega) (by omega) (wt_LG hk).1 (wt_LG hk).2
    rw [Int.mul_sub, ← Int.mul_assoc, Int.mul_left_comm] at this
    exact this
  have g : ∀ k, (((e k).toNat * wt k : Nat) : Int) - (((zneg e k).toNat * wt k : Nat) : Int) = e k * (wt k : Int) := by
    intro k
    rw [Int.natCast_mul, Int.natCast_mul, ← Int.sub_mul]
    congr 1
    simp only [zneg]
    omega
  have h0 := h 0 (by omega)
  have h1 := h 1 (by omega)
  have h2 := h 2 (by omega)
  have h3 := h 3 (by omega)
  have h4 := h 4 (by omega)
  have h5 := h 5 (by omega)
  have g0 := g 0
  have g1 := g 1
  have g2 := g 2
  have g3 := g 3
  have g4 := g 4
  have g5 := g 5
  simp only [wP, sz, offN]
  omega
/-- a step as the reference may be asked for its degree -/
def Sdg (e P : xZ) : Prop := Stp' e ∧ ∃ (y : xZ) (n0 : Int), bd y 46 ∧ ∀ k, k < 6 → e k = y k + n0 * P k
theorem cap_deg {e P : xZ} {m l : Int} (h : Sdg e P) (hper : Per P) (hpn : ∀ k, k < 6 → 0 ≤ P k) (hm : 1 ≤ m ∧ m ≤ 36) (hl1 : -1600 ≤ l ∧ l ≤ 1600) (hl : -4253529586511730793292182592897102643200 ≤ 2 * m * sz e - l * sz P ∧ 2 * m * sz e - l * sz P ≤ 4253529586511730793292182592897102643200) : bd (zlin (2 * m) e l P) 80000 ∧ Cap (zlin (2 * m) e l P) := by
  obtain ⟨⟨hb, hs1, hs2⟩, y, n0, hy, he⟩ := h
  have hbd : bd (zlin (2 * m) e l P) 76900 := by
    intro k hk
    have a1 := hb k hk
    have a2 := hper.1 k hk
    have a3 := mulb (a := 2 * m) (b := e k) (A := 72) (B := 1000) (by omega) (by omega) a1.1 a1.2
    have a4 := mulb (a := l) (b := P k) (A := 1600) (B := 3) hl1.1 hl1.2 a2.1 a2.2
    simp only [zlin]
    omega
  have hoff := off_bd (B := 76900) hbd 6 (by omega)
  have hd := wP_diff (zlin (2 * m) e l P)
  rw [sz_zlin] at hd
  have hform : ∀ k, k < 6 → zlin (2 * m) e l P k = 2 * m * y k - (l - 2 * m * n0) * P k := by
    intro k hk
    simp only [zlin]
    rw [he k hk, Int.mul_add, Int.sub_mul, Int.mul_assoc (2 * m) n0]
    omega
  have hty : ∀ k, k < 6 → -3312 ≤ 2 * m * y k ∧ 2 * m * y k ≤ 3312 := fun k hk => mulb (a := 2 * m) (b := y k) (A := 72) (B := 46) (by omega) (by omega) (hy k hk).1 (hy k hk).2
  refine ⟨hbd.mono (by omega), ?_⟩
  rcases Int.le_total 0 (l - 2 * m * n0) with q | q
  · have hle : ∀ k, k < 6 → zlin (2 * m) e l P k ≤ 3312 := fun k hk => by
      have := Int.mul_nonneg q (hpn k hk)
      have := hty k hk
      rw [hform k hk]
      omega
    have hw : wP (zlin (2 * m) e l P) 6 ≤ 4935000 := by
      have z0 := hle 0 (by omega)
      have z1 := hle 1 (by omega)
      have z2 := hle 2 (by omega)
      have z3 := hle 3 (by omega)
      have z4 := hle 4 (by omega)
      have z5 := hle 5 (by omega)
      simp only [wP, wt]
      omega
    exact cap_of (by omega) (by omega)
  · have hle : ∀ k, k < 6 → -3312 ≤ zlin (2 * m) e l P k := fun k hk => by
      have := Int.mul_nonneg (show 0 ≤ -(l - 2 * m * n0) by omega) (hpn k hk)
      rw [Int.neg_mul] at this
      have := hty k hk
      rw [hform k hk]
      omega
    have hw : wP (zneg (zlin (2 * m) e l P)) 6 ≤ 4935000 := by
      have z0 := hle 0 (by omega)
      have z1 := hle 1 (by omega)
      have z2 := hle 2 (by omega)
      have z3 := hle 3 (by omega)
      have z4 := hle 4 (by omega)
      have z5 := hle 5 (by omega)
      simp only [wP, wt, zneg]
      omega
    exact cap_of (by omega) (by omega)
