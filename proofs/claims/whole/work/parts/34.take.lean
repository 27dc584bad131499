/-! ===== Scale.take, becomeChain ===== -/
theorem dX3_take_0 : decode cX3_take 0 = .ok (.aload_n 0, 1) := by decide +kernel
theorem dX3_take_1 : decode cX3_take 1 = .ok (.aload_n 1, 1) := by decide +kernel
theorem dX3_take_2 : decode cX3_take 2 = .ok (.getfield 46, 3) := by decide +kernel
theorem dX3_take_5 : decode cX3_take 5 = .ok (.putfield 38, 3) := by decide +kernel
theorem dX3_take_8 : decode cX3_take 8 = .ok (.iconst 1, 1) := by decide +kernel
theorem dX3_take_9 : decode cX3_take 9 = .ok (.istore_n 2, 1) := by decide +kernel
theorem dX3_take_10 : decode cX3_take 10 = .ok (.iload_n 2, 1) := by decide +kernel
theorem dX3_take_11 : decode cX3_take 11 = .ok (.aload_n 0, 1) := by decide +kernel
theorem dX3_take_12 : decode cX3_take 12 = .ok (.getfield 38, 3) := by decide +kernel
theorem dX3_take_15 : decode cX3_take 15 = .ok (.if_icmp .ge 28, 3) := by decide +kernel
theorem dX3_take_18 : decode cX3_take 18 = .ok (.aload_n 0, 1) := by decide +kernel
theorem dX3_take_19 : decode cX3_take 19 = .ok (.getfield 11, 3) := by decide +kernel
theorem dX3_take_22 : decode cX3_take 22 = .ok (.iload_n 2, 1) := by decide +kernel
theorem dX3_take_23 : decode cX3_take 23 = .ok (.aaload, 1) := by decide +kernel
theorem dX3_take_24 : decode cX3_take 24 = .ok (.aload_n 1, 1) := by decide +kernel
theorem dX3_take_25 : decode cX3_take 25 = .ok (.getfield 49, 3) := by decide +kernel
theorem dX3_take_28 : decode cX3_take 28 = .ok (.iload_n 2, 1) := by decide +kernel
theorem dX3_take_29 : decode cX3_take 29 = .ok (.iconst 1, 1) := by decide +kernel
theorem dX3_take_30 : decode cX3_take 30 = .ok (.isub, 1) := by decide +kernel
theorem dX3_take_31 : decode cX3_take 31 = .ok (.bipush 6, 2) := by decide +kernel
theorem dX3_take_33 : decode cX3_take 33 = .ok (.imul, 1) := by decide +kernel
theorem dX3_take_34 : decode cX3_take 34 = .ok (.invokestatic 52, 3) := by decide +kernel
theorem dX3_take_37 : decode cX3_take 37 = .ok (.iinc 2 1, 3) := by decide +kernel
theorem dX3_take_40 : decode cX3_take 40 = .ok (.goto (-30), 3) := by decide +kernel
theorem dX3_take_43 : decode cX3_take 43 = .ok (.aload_n 0, 1) := by decide +kernel
theorem dX3_take_44 : decode cX3_take 44 = .ok (.getfield 28, 3) := by decide +kernel
theorem dX3_take_47 : decode cX3_take 47 = .ok (.aload_n 1, 1) := by decide +kernel
theorem dX3_take_48 : decode cX3_take 48 = .ok (.getfield 49, 3) := by decide +kernel
theorem dX3_take_51 : decode cX3_take 51 = .ok (.aload_n 0, 1) := by decide +kernel
theorem dX3_take_52 : decode cX3_take 52 = .ok (.getfield 38, 3) := by decide +kernel
theorem dX3_take_55 : decode cX3_take 55 = .ok (.iconst 1, 1) := by decide +kernel
theorem dX3_take_56 : decode cX3_take 56 = .ok (.isub, 1) := by decide +kernel
theorem dX3_take_57 : decode cX3_take 57 = .ok (.bipush 6, 2) := by decide +kernel
theorem dX3_take_59 : decode cX3_take 59 = .ok (.imul, 1) := by decide +kernel
theorem dX3_take_60 : decode cX3_take 60 = .ok (.invokestatic 52, 3) := by decide +kernel
theorem dX3_take_63 : decode cX3_take 63 = .ok (.aload_n 0, 1) := by decide +kernel
theorem dX3_take_64 : decode cX3_take 64 = .ok (.invokevirtual 56, 3) := by decide +kernel
theorem dX3_take_67 : decode cX3_take 67 = .ok (.return_, 1) := by decide +kernel
theorem dX3_becomeChain_0 : decode cX3_becomeChain 0 = .ok (.aload_n 0, 1) := by decide +kernel
theorem dX3_becomeChain_1 : decode cX3_becomeChain 1 = .ok (.getfield 32, 3) := by decide +kernel
theorem dX3_becomeChain_4 : decode cX3_becomeChain 4 = .ok (.aload_n 0, 1) := by decide +kernel
theorem dX3_becomeChain_5 : decode cX3_becomeChain 5 = .ok (.getfield 28, 3) := by decide +kernel
theorem dX3_becomeChain_8 : decode cX3_becomeChain 8 = .ok (.aload_n 0, 1) := by decide +kernel
theorem dX3_becomeChain_9 : decode cX3_becomeChain 9 = .ok (.getfield 32, 3) := by decide +kernel
theorem dX3_becomeChain_12 : decode cX3_becomeChain 12 = .ok (.aload_n 0, 1) := by decide +kernel
theorem dX3_becomeChain_13 : decode cX3_becomeChain 13 = .ok (.getfield 28, 3) := by decide +kernel
theorem dX3_becomeChain_16 : decode cX3_becomeChain 16 = .ok (.invokevirtual 62, 3) := by decide +kernel
theorem dX3_becomeChain_19 : decode cX3_becomeChain 19 = .ok (.ineg, 1) := by decide +kernel
theorem dX3_becomeChain_20 : decode cX3_becomeChain 20 = .ok (.invokevirtual 66, 3) := by decide +kernel
theorem dX3_becomeChain_23 : decode cX3_becomeChain 23 = .ok (.aload_n 0, 1) := by decide +kernel
theorem dX3_becomeChain_24 : decode cX3_becomeChain 24 = .ok (.iload_n 1, 1) := by decide +kernel
theorem dX3_becomeChain_25 : decode cX3_becomeChain 25 = .ok (.putfield 38, 3) := by decide +kernel
theorem dX3_becomeChain_28 : decode cX3_becomeChain 28 = .ok (.aload_n 0, 1) := by decide +kernel
theorem dX3_becomeChain_29 : decode cX3_becomeChain 29 = .ok (.getfield 35, 3) := by decide +kernel
theorem dX3_becomeChain_32 : decode cX3_becomeChain 32 = .ok (.invokevirtual 59, 3) := by decide +kernel
theorem dX3_becomeChain_35 : decode cX3_becomeChain 35 = .ok (.iconst 0, 1) := by decide +kernel
theorem dX3_becomeChain_36 : decode cX3_becomeChain 36 = .ok (.istore_n 2, 1) := by decide +kernel
theorem dX3_becomeChain_37 : decode cX3_becomeChain 37 = .ok (.iload_n 2, 1) := by decide +kernel
theorem dX3_becomeChain_38 : decode cX3_becomeChain 38 = .ok (.aload_n 0, 1) := by decide +kernel
theorem dX3_becomeChain_39 : decode cX3_becomeChain 39 = .ok (.getfield 38, 3) := by decide +kernel
theorem dX3_becomeChain_42 : decode cX3_becomeChain 42 = .ok (.if_icmp .ge 66, 3) := by decide +kernel
theorem dX3_becomeChain_45 : decode cX3_becomeChain 45 = .ok (.aload_n 0, 1) := by decide +kernel
theorem dX3_becomeChain_46 : decode cX3_becomeChain 46 = .ok (.getfield 11, 3) := by decide +kernel
theorem dX3_becomeChain_49 : decode cX3_becomeChain 49 = .ok (.iload_n 2, 1) := by decide +kernel
theorem dX3_becomeChain_50 : decode cX3_becomeChain 50 = .ok (.aaload, 1) := by decide +kernel
theorem dX3_becomeChain_51 : decode cX3_becomeChain 51 = .ok (.aload_n 0, 1) := by decide +kernel
theorem dX3_becomeChain_52 : decode cX3_becomeChain 52 = .ok (.getfield 35, 3) := by decide +kernel
theorem dX3_becomeChain_55 : decode cX3_becomeChain 55 = .ok (.invokevirtual 70, 3) := by decide +kernel
theorem dX3_becomeChain_58 : decode cX3_becomeChain 58 = .ok (.aload_n 0, 1) := by decide +kernel
theorem dX3_becomeChain_59 : decode cX3_becomeChain 59 = .ok (.iload_n 2, 1) := by decide +kernel
theorem dX3_becomeChain_60 : decode cX3_becomeChain 60 = .ok (.invokevirtual 74, 3) := by decide +kernel
theorem dX3_becomeChain_63 : decode cX3_becomeChain 63 = .ok (.aload_n 0, 1) := by decide +kernel
theorem dX3_becomeChain_64 : decode cX3_becomeChain 64 = .ok (.getfield 35, 3) := by decide +kernel
theorem dX3_becomeChain_67 : decode cX3_becomeChain 67 = .ok (.aload_n 0, 1) := by decide +kernel
theorem dX3_becomeChain_68 : decode cX3_becomeChain 68 = .ok (.getfield 32, 3) := by decide +kernel
theorem dX3_becomeChain_71 : decode cX3_becomeChain 71 = .ok (.iconst 1, 1) := by decide +kernel
theorem dX3_becomeChain_72 : decode cX3_becomeChain 72 = .ok (.invokevirtual 66, 3) := by decide +kernel
theorem dX3_becomeChain_75 : decode cX3_becomeChain 75 = .ok (.aload_n 0, 1) := by decide +kernel
theorem dX3_becomeChain_76 : decode cX3_becomeChain 76 = .ok (.getfield 35, 3) := by decide +kernel
theorem dX3_becomeChain_79 : decode cX3_becomeChain 79 = .ok (.aload_n 0, 1) := by decide +kernel
theorem dX3_becomeChain_80 : decode cX3_becomeChain 80 = .ok (.getfield 28, 3) := by decide +kernel
theorem dX3_becomeChain_83 : decode cX3_becomeChain 83 = .ok (.iconst 1, 1) := by decide +kernel
theorem dX3_becomeChain_84 : decode cX3_becomeChain 84 = .ok (.invokevirtual 78, 3) := by decide +kernel
theorem dX3_becomeChain_87 : decode cX3_becomeChain 87 = .ok (.ifCond .ne 15, 3) := by decide +kernel
theorem dX3_becomeChain_90 : decode cX3_becomeChain 90 = .ok (.aload_n 0, 1) := by decide +kernel
theorem dX3_becomeChain_91 : decode cX3_becomeChain 91 = .ok (.getfield 35, 3) := by decide +kernel
theorem dX3_becomeChain_94 : decode cX3_becomeChain 94 = .ok (.aload_n 0, 1) := by decide +kernel
theorem dX3_becomeChain_95 : decode cX3_becomeChain 95 = .ok (.getfield 28, 3) := by decide +kernel
theorem dX3_becomeChain_98 : decode cX3_becomeChain 98 = .ok (.iconst (-1), 1) := by decide +kernel
theorem dX3_becomeChain_99 : decode cX3_becomeChain 99 = .ok (.invokevirtual 66, 3) := by decide +kernel
theorem dX3_becomeChain_102 : decode cX3_becomeChain 102 = .ok (.iinc 2 1, 3) := by decide +kernel
theorem dX3_becomeChain_105 : decode cX3_becomeChain 105 = .ok (.goto (-68), 3) := by decide +kernel
theorem dX3_becomeChain_108 : decode cX3_becomeChain 108 = .ok (.aload_n 0, 1) := by decide +kernel
theorem dX3_becomeChain_109 : decode cX3_becomeChain 109 = .ok (.invokevirtual 56, 3) := by decide +kernel
theorem dX3_becomeChain_112 : decode cX3_becomeChain 112 = .ok (.return_, 1) := by decide +kernel
abbrev xTx (w : Nat) (a2 : Int32) (c : Int32) (a4 a5 a6 a7 a8 : Int32) : xE := xOb 4 [.ref (w + 2), .ref (w + 3), .int a2, .int c, .int a4, .int a5, .int a6, .int a7, .int a8]
def rowz (g : Nat → Int32) (j : Nat) : xZ := fun k => (g (j * 6 + k)).toInt
set_option maxRecDepth 100000 in
set_option maxHeartbeats 8000000 in
theorem c_take (V : xV) {w z n c : Nat} {f : xH} {ps : Nat → Nat} {xs rs : Nat → xZ} {tk so : Nat → Int32} {P : xZ} {g : Nat → Int32} {a2 a4 a5 a6 a7 a8 : Int32} {post : Option Value → xH → Nat → Prop} (hW : ScW f w n ps xs rs tk so P) (hT : f (w + 1) = some (xTx w a2 (nI c) a4 a5 a6 a7 a8)) (hg : f (w + 3) = some (xI 144 g)) (hc1 : 1 ≤ c) (hc2 : c ≤ 24) (h0 : Stp' (xs 0)) (hst : ∀ j, j + 1 < c → Stp' (rowz g j)) (hper : Per (rowz g (c - 1)))
    (hp : ∀ f' xs' rs' tk' so' s, (∀ q, q < w + 4 ∨ w + 111 ≤ q → f' q = f q) → ScW f' w c ps xs' rs' tk' so' (rowz g (c - 1)) → xs' 0 = xs 0 → (∀ j, j + 1 < c → xs' (j + 1) = rowz g j) → (∀ j, j < c → (tk' j).toInt = qd (xs' j) (rowz g (c - 1))) → (∀ j, j < c → rs' j = rdc (xs' j) (rowz g (c - 1))) → Srt s c (fun j => sz (rdc (xs' j) (rowz g (c - 1)))) → (∀ j, j < c → so' j = nI (s j)) → post none f' z) :
    xMet V yX3_take cX3_take 3 none 5 0 0 [.ref (w + 4), .ref (w + 1)] f z post := by
  refine xMet_of false (by decide) (Nat.le_of_ble_eq_true rfl) (fun h => by cases h) (fun X hX O Rt => ?_)
  have O : xO X cX3_take 3 RX3 5 0 0 false := O
  show xG X 0 [some (.ref (w + 4)), some (.ref (w + 1)), none] [] f (z, 0, 0)
  have hb1000 : ∀ j, j < c → ∀ k, k < 6 → -1000 ≤ (g (j * 6 + k)).toInt ∧ (g (j * 6 + k)).toInt ≤ 1000 := by
    intro j hj k hk
    by_cases e : j + 1 < c
    · exact (hst j e).1 k hk
    · have : j = c - 1 := by omega
      subst this
      have := hper.1 k hk
      simp only [rowz] at this
      omega
  have loop : ∀ k i : Nat, i + k = c → 1 ≤ i → ∀ f' xs', (∀ q, q < w + 4 ∨ w + 111 ≤ q → f' q = f q) → ScW f' w c ps xs' rs tk so P → xs' 0 = xs 0 → (∀ j, j + 1 < i → xs' (j + 1) = rowz g j) →
      xG X 10 [some (.ref (w + 4)), some (.ref (w + 1)), some (.int (nI i))] [] f' (z, 0, 0) := by
    intro k
    induction k with
    | zero =>
      intro i hi hi1 f' xs' k1 hW' x0 xj
      have hic : i = c := by omega
      have h1 : f' (w + 4) = some (xSc w c) := hW'.1
      have hT' : f' (w + 1) = some (xTx w a2 (nI c) a4 a5 a6 a7 a8) := by rw [k1 _ (by omega)]; exact hT
      have hg' : f' (w + 3) = some (xI 144 g) := by rw [k1 _ (by omega)]; exact hg
      have hcc : (nI c ≤ nI i) = True := eq_true ((nI_leI (by omega) (by omega)).mpr (by omega))
      have e1 : nI c - 1 = nI (c - 1) := pk_sub (b := 1) hc1
      have e2 : nI (c - 1) * 6 = nI ((c - 1) * 6) := pk_mul _ 6
      obtain ⟨-, -, -, -, -, -, -, -, -, hP', -⟩ := id hW'
      refine xgo O Rt xplX3_q xclX3_q [10] 60 ?_
      simp (maxSteps := 10000000) (disch := omega) only [↓reduceIte, ↓xrun_s, ↓xck_e, xdo_e, xlg_0, xlg_c, xst1_0, xst1_1, xst1_c, xst2_0, xst2_1, xst2_c, xk2_n, xk2_i, xk2_a, xk2_l, xct_i, xct_a, xct_l, xf4_0, xf4_1, xf4_2, xf4_3, List.contains_cons, List.contains_nil, Bool.or_false, Bool.false_or, Bool.or_self, Bool.true_or, Bool.or_true, cond_true, cond_false, List.set_cons_zero, List.set_cons_succ, List.length_cons, List.length_nil, true_and, and_true, xu_s, xu_u, xeqs, Nat.le_refl, not_true_eq_false, xq_10, xq_01, Int32.reduceAdd, Int32.reduceMul, Int32.reduceSub, Int32.reduceLE, Int32.reduceLT, Int32.reduceToNatClampNeg, Nat.reduceAdd, Nat.reduceMul, Nat.reduceBEq, Nat.reduceLT, Nat.reduceLeDiff, Nat.reduceEqDiff, Nat.zero_add, Bool.false_eq_true, reduceCtorEq, if_false, if_true, not_false_eq_true, true_imp_iff, false_imp_iff, imp_self, ↓xil_e, ↓xll_e, ↓xal_e, ↓xs1i_e, ↓xs2i_e, ↓xs1l_e, ↓xs2l_e, ↓xsil_e, ↓xs1_e, ↓xs2_e, ↓xs1a_e, ↓xsia_e, ↓xsiia_e, ↓xslia_e, ↓xsaia_e, ↓xsva_e, ↓xse1i_e, ↓xse1l_e, ↓xse1a_e, ↓xse0_e, ↓xfv_0, ↓xfv_c, ↓xgf_e, ↓xpf_e, ↓xia_e, ↓xia_n, ↓xba_e, ↓xba_n, ↓xla_e, ↓xla_n, ↓xob_e, ↓xra_e, ↓xno_e, ↓xle_e, ↓xnr_i, ↓xnr_b0, ↓xnr_b1, ↓xnr_n, ↓xdo_e, ↓xkl_0, ↓xe_iconst, ↓xe_bipush, ↓xe_isub, ↓xe_imul, ↓xe_iload_n, ↓xe_aload_n, ↓xe_istore_n, ↓xe_iinc, ↓xe_goto, ↓xe_getfield, ↓xe_putfield, ↓xe_aaload, ↓xe_return_, ↓xe_icmp_ge, ↓xe_invokevirtual, ↓xe_invokestatic, dX3_take_0, dX3_take_1, dX3_take_2, dX3_take_5, dX3_take_8, dX3_take_9, dX3_take_10, dX3_take_11, dX3_take_12, dX3_take_15, dX3_take_18, dX3_take_19, dX3_take_22, dX3_take_23, dX3_take_24, dX3_take_25, dX3_take_28, dX3_take_29, dX3_take_30, dX3_take_31, dX3_take_33, dX3_take_34, dX3_take_37, dX3_take_40, dX3_take_43, dX3_take_44, dX3_take_47, dX3_take_48, dX3_take_51, dX3_take_52, dX3_take_55, dX3_take_56, dX3_take_57, dX3_take_59, dX3_take_60, dX3_take_63, dX3_take_64, dX3_take_67, xpX3_11, xpX3_28, xpX3_38, xpX3_46, xpX3_49, xkb_6, xki_1, h1, hcc, hT', e1, e2, xft_3_7, xt_15_28, xtc_15_28, xt_40_m30, xtc_40_m30]
      refine xg_callSv (Qp := fun f2 => (∀ q, q ≠ w + 9 → q ≠ w + 10 → f2 q = f' q) ∧ Nt f2 (w + 9) (w + 10) (rowz g (c - 1))) O dX3_take_60 xl_X3_52 xk_X3_setNote (c_setNote _ hP' hg' (by omega) (by omega) (by omega) (by omega) (fun k hk => hb1000 (c - 1) (by omega) k hk) (fun f2 q1 q2 => ⟨rfl, ⟨q1, q2⟩, rfl⟩)) rfl (Nat.le_of_ble_eq_true rfl) rfl (Nat.le_of_ble_eq_true rfl) (Nat.le_of_ble_eq_true rfl) (Nat.le_of_ble_eq_true rfl) (fun f2 hq => ?_)
      obtain ⟨k2, n2⟩ := hq
      have hW2 := hW'.per' k2 n2
      have h12 : f2 (w + 4) = some (xSc w c) := hW2.1
      refine xgo O Rt xplX3_q xclX3_q [10] 60 ?_
      simp (maxSteps := 10000000) (disch := omega) only [↓reduceIte, ↓xrun_s, ↓xck_e, xdo_e, xlg_0, xlg_c, xst1_0, xst1_1, xst1_c, xst2_0, xst2_1, xst2_c, xk2_n, xk2_i, xk2_a, xk2_l, xct_i, xct_a, xct_l, xf4_0, xf4_1, xf4_2, xf4_3, List.contains_cons, List.contains_nil, Bool.or_false, Bool.false_or, Bool.or_self, Bool.true_or, Bool.or_true, cond_true, cond_false, List.set_cons_zero, List.set_cons_succ, List.length_cons, List.length_nil, true_and, and_true, xu_s, xu_u, xeqs, Nat.le_refl, not_true_eq_false, xq_10, xq_01, Int32.reduceAdd, Int32.reduceMul, Int32.reduceSub, Int32.reduceLE, Int32.reduceLT, Int32.reduceToNatClampNeg, Nat.reduceAdd, Nat.reduceMul, Nat.reduceBEq, Nat.reduceLT, Nat.reduceLeDiff, Nat.reduceEqDiff, Nat.zero_add, Bool.false_eq_true, reduceCtorEq, if_false, if_true, not_false_eq_true, true_imp_iff, false_imp_iff, imp_self, ↓xil_e, ↓xll_e, ↓xal_e, ↓xs1i_e, ↓xs2i_e, ↓xs1l_e, ↓xs2l_e, ↓xsil_e, ↓xs1_e, ↓xs2_e, ↓xs1a_e, ↓xsia_e, ↓xsiia_e, ↓xslia_e, ↓xsaia_e, ↓xsva_e, ↓xse1i_e, ↓xse1l_e, ↓xse1a_e, ↓xse0_e, ↓xfv_0, ↓xfv_c, ↓xgf_e, ↓xpf_e, ↓xia_e, ↓xia_n, ↓xba_e, ↓xba_n, ↓xla_e, ↓xla_n, ↓xob_e, ↓xra_e, ↓xno_e, ↓xle_e, ↓xnr_i, ↓xnr_b0, ↓xnr_b1, ↓xnr_n, ↓xdo_e, ↓xkl_0, ↓xe_iconst, ↓xe_bipush, ↓xe_isub, ↓xe_imul, ↓xe_iload_n, ↓xe_aload_n, ↓xe_istore_n, ↓xe_iinc, ↓xe_goto, ↓xe_getfield, ↓xe_putfield, ↓xe_aaload, ↓xe_return_, ↓xe_icmp_ge, ↓xe_invokevirtual, ↓xe_invokestatic, dX3_take_0, dX3_take_1, dX3_take_2, dX3_take_5, dX3_take_8, dX3_take_9, dX3_take_10, dX3_take_11, dX3_take_12, dX3_take_15, dX3_take_18, dX3_take_19, dX3_take_22, dX3_take_23, dX3_take_24, dX3_take_25, dX3_take_28, dX3_take_29, dX3_take_30, dX3_take_31, dX3_take_33, dX3_take_34, dX3_take_37, dX3_take_40, dX3_take_43, dX3_take_44, dX3_take_47, dX3_take_48, dX3_take_51, dX3_take_52, dX3_take_55, dX3_take_56, dX3_take_57, dX3_take_59, dX3_take_60, dX3_take_63, dX3_take_64, dX3_take_67, xpX3_11, xpX3_28, xpX3_38, xpX3_46, xpX3_49, xkb_6, xki_1, xft_3_7, xt_15_28, xtc_15_28, xt_40_m30, xtc_40_m30]
      refine xg_callVv (Qp := fun f3 => ∃ rs' tk' so' s, (∀ q, q < w + 4 ∨ w + 111 ≤ q → f3 q = f2 q) ∧ ScW f3 w c ps xs' rs' tk' so' (rowz g (c - 1)) ∧ (∀ j, j < c → (tk' j).toInt = qd (xs' j) (rowz g (c - 1))) ∧ (∀ j, j < c → rs' j = rdc (xs' j) (rowz g (c - 1))) ∧ Srt s c (fun j => sz (rdc (xs' j) (rowz g (c - 1)))) ∧ (∀ j, j < c → so' j = nI (s j))) O dX3_take_64 xl_X3_56 xk_X3_arrange (c_arrange _ hW2 hc2 hper (fun j hj => ?_) (fun f3 rs' tk' so' s q1 q2 q3 q4 q5 q6 => ⟨rfl, ⟨rs', tk', so', s, q1, q2, q3, q4, q5, q6⟩, rfl⟩)) h12 rfl rfl rfl (Nat.le_of_ble_eq_true rfl) rfl (Nat.le_of_ble_eq_true rfl) (Nat.le_of_ble_eq_true rfl) (Nat.le_of_ble_eq_true rfl) (fun f3 hq => ?_)
      · by_cases e : j = 0
        · rw [e, x0]; exact h0
        · have ej : j = (j - 1) + 1 := by omega
          rw [ej, xj (j - 1) (by omega)]
          exact hst (j - 1) (by omega)
      · obtain ⟨rs', tk', so', s, q1, q2, q3, q4, q5, q6⟩ := hq
        refine xgo O Rt xplX3_q xclX3_q [10] 60 ?_
        simp (maxSteps := 10000000) (disch := omega) only [↓reduceIte, ↓xrun_s, ↓xck_e, xdo_e, xlg_0, xlg_c, xst1_0, xst1_1, xst1_c, xst2_0, xst2_1, xst2_c, xk2_n, xk2_i, xk2_a, xk2_l, xct_i, xct_a, xct_l, xf4_0, xf4_1, xf4_2, xf4_3, List.contains_cons, List.contains_nil, Bool.or_false, Bool.false_or, Bool.or_self, Bool.true_or, Bool.or_true, cond_true, cond_false, List.set_cons_zero, List.set_cons_succ, List.length_cons, List.length_nil, true_and, and_true, xu_s, xu_u, xeqs, Nat.le_refl, not_true_eq_false, xq_10, xq_01, Int32.reduceAdd, Int32.reduceMul, Int32.reduceSub, Int32.reduceLE, Int32.reduceLT, Int32.reduceToNatClampNeg, Nat.reduceAdd, Nat.reduceMul, Nat.reduceBEq, Nat.reduceLT, Nat.reduceLeDiff, Nat.reduceEqDiff, Nat.zero_add, Bool.false_eq_true, reduceCtorEq, if_false, if_true, not_false_eq_true, true_imp_iff, false_imp_iff, imp_self, ↓xil_e, ↓xll_e, ↓xal_e, ↓xs1i_e, ↓xs2i_e, ↓xs1l_e, ↓xs2l_e, ↓xsil_e, ↓xs1_e, ↓xs2_e, ↓xs1a_e, ↓xsia_e, ↓xsiia_e, ↓xslia_e, ↓xsaia_e, ↓xsva_e, ↓xse1i_e, ↓xse1l_e, ↓xse1a_e, ↓xse0_e, ↓xfv_0, ↓xfv_c, ↓xgf_e, ↓xpf_e, ↓xia_e, ↓xia_n, ↓xba_e, ↓xba_n, ↓xla_e, ↓xla_n, ↓xob_e, ↓xra_e, ↓xno_e, ↓xle_e, ↓xnr_i, ↓xnr_b0, ↓xnr_b1, ↓xnr_n, ↓xdo_e, ↓xkl_0, ↓xe_iconst, ↓xe_bipush, ↓xe_isub, ↓xe_imul, ↓xe_iload_n, ↓xe_aload_n, ↓xe_istore_n, ↓xe_iinc, ↓xe_goto, ↓xe_getfield, ↓xe_putfield, ↓xe_aaload, ↓xe_return_, ↓xe_icmp_ge, ↓xe_invokevirtual, ↓xe_invokestatic, dX3_take_0, dX3_take_1, dX3_take_2, dX3_take_5, dX3_take_8, dX3_take_9, dX3_take_10, dX3_take_11, dX3_take_12, dX3_take_15, dX3_take_18, dX3_take_19, dX3_take_22, dX3_take_23, dX3_take_24, dX3_take_25, dX3_take_28, dX3_take_29, dX3_take_30, dX3_take_31, dX3_take_33, dX3_take_34, dX3_take_37, dX3_take_40, dX3_take_43, dX3_take_44, dX3_take_47, dX3_take_48, dX3_take_51, dX3_take_52, dX3_take_55, dX3_take_56, dX3_take_57, dX3_take_59, dX3_take_60, dX3_take_63, dX3_take_64, dX3_take_67, xpX3_11, xpX3_28, xpX3_38, xpX3_46, xpX3_49, xkb_6, xki_1, xft_3_7, xt_15_28, xtc_15_28, xt_40_m30, xtc_40_m30]
        refine hp f3 xs' rs' tk' so' s (fun q hq => ?_) q2 x0 (fun j hj => xj j (by omega)) q3 q4 q5 q6
        rw [q1 q hq, k2 q (by omega) (by omega)]
        exact k1 q hq
    | succ k ih =>
      intro i hi hi1 f' xs' k1 hW' x0 xj
      obtain ⟨h1, ⟨st, h2, h2'⟩, -, -, -, h6, h7, h8, -⟩ := id hW'
      have hT' : f' (w + 1) = some (xTx w a2 (nI c) a4 a5 a6 a7 a8) := by rw [k1 _ (by omega)]; exact hT
      have hg' : f' (w + 3) = some (xI 144 g) := by rw [k1 _ (by omega)]; exact hg
      have hcc : (nI c ≤ nI i) = False := eq_false (fun q => by have := (nI_leI (by omega) (by omega)).mp q; omega)
      have ni : nI i + 1 = nI (i + 1) := nI_1 i
      have e1 : nI i - 1 = nI (i - 1) := pk_sub (b := 1) hi1
      have e2 : nI (i - 1) * 6 = nI ((i - 1) * 6) := pk_mul _ 6
      have v0 : vp_in (nI i) 24 := vp_in_nI (by omega) (by omega)
      have v1 : (nI i).toNatClampNeg = i := nI_clamp (by omega)
      have b1 : st i = some (ps i) := h2' i (by omega)
      obtain ⟨ji, hji, eji⟩ := h6 i (by omega)
      refine xgo O Rt xplX3_q xclX3_q [10] 60 ?_
      simp (maxSteps := 10000000) (disch := omega) only [↓reduceIte, ↓xrun_s, ↓xck_e, xdo_e, xlg_0, xlg_c, xst1_0, xst1_1, xst1_c, xst2_0, xst2_1, xst2_c, xk2_n, xk2_i, xk2_a, xk2_l, xct_i, xct_a, xct_l, xf4_0, xf4_1, xf4_2, xf4_3, List.contains_cons, List.contains_nil, Bool.or_false, Bool.false_or, Bool.or_self, Bool.true_or, Bool.or_true, cond_true, cond_false, List.set_cons_zero, List.set_cons_succ, List.length_cons, List.length_nil, true_and, and_true, xu_s, xu_u, xeqs, Nat.le_refl, not_true_eq_false, xq_10, xq_01, Int32.reduceAdd, Int32.reduceMul, Int32.reduceSub, Int32.reduceLE, Int32.reduceLT, Int32.reduceToNatClampNeg, Nat.reduceAdd, Nat.reduceMul, Nat.reduceBEq, Nat.reduceLT, Nat.reduceLeDiff, Nat.reduceEqDiff, Nat.zero_add, Bool.false_eq_true, reduceCtorEq, if_false, if_true, not_false_eq_true, true_imp_iff, false_imp_iff, imp_self, ↓xil_e, ↓xll_e, ↓xal_e, ↓xs1i_e, ↓xs2i_e, ↓xs1l_e, ↓xs2l_e, ↓xsil_e, ↓xs1_e, ↓xs2_e, ↓xs1a_e, ↓xsia_e, ↓xsiia_e, ↓xslia_e, ↓xsaia_e, ↓xsva_e, ↓xse1i_e, ↓xse1l_e, ↓xse1a_e, ↓xse0_e, ↓xfv_0, ↓xfv_c, ↓xgf_e, ↓xpf_e, ↓xia_e, ↓xia_n, ↓xba_e, ↓xba_n, ↓xla_e, ↓xla_n, ↓xob_e, ↓xra_e, ↓xno_e, ↓xle_e, ↓xnr_i, ↓xnr_b0, ↓xnr_b1, ↓xnr_n, ↓xdo_e, ↓xkl_0, ↓xe_iconst, ↓xe_bipush, ↓xe_isub, ↓xe_imul, ↓xe_iload_n, ↓xe_aload_n, ↓xe_istore_n, ↓xe_iinc, ↓xe_goto, ↓xe_getfield, ↓xe_putfield, ↓xe_aaload, ↓xe_return_, ↓xe_icmp_ge, ↓xe_invokevirtual, ↓xe_invokestatic, dX3_take_0, dX3_take_1, dX3_take_2, dX3_take_5, dX3_take_8, dX3_take_9, dX3_take_10, dX3_take_11, dX3_take_12, dX3_take_15, dX3_take_18, dX3_take_19, dX3_take_22, dX3_take_23, dX3_take_24, dX3_take_25, dX3_take_28, dX3_take_29, dX3_take_30, dX3_take_31, dX3_take_33, dX3_take_34, dX3_take_37, dX3_take_40, dX3_take_43, dX3_take_44, dX3_take_47, dX3_take_48, dX3_take_51, dX3_take_52, dX3_take_55, dX3_take_56, dX3_take_57, dX3_take_59, dX3_take_60, dX3_take_63, dX3_take_64, dX3_take_67, xpX3_11, xpX3_28, xpX3_38, xpX3_46, xpX3_49, xkb_6, xki_1, h1, h2, hcc, hT', e1, e2, v0, v1, b1, xft_3_7, xt_15_28, xtc_15_28, xt_40_m30, xtc_40_m30]
      refine xg_callSv (Qp := fun f2 => (∀ q, q ≠ ps i → q ≠ ps i + 1 → f2 q = f' q) ∧ Nt f2 (ps i) (ps i + 1) (rowz g (i - 1))) O dX3_take_34 xl_X3_52 xk_X3_setNote (c_setNote _ (h8 i (by omega)) hg' (by omega) (by omega) (by omega) (by omega) (fun k hk => hb1000 (i - 1) (by omega) k hk) (fun f2 q1 q2 => ⟨rfl, ⟨q1, q2⟩, rfl⟩)) rfl (Nat.le_of_ble_eq_true rfl) rfl (Nat.le_of_ble_eq_true rfl) (Nat.le_of_ble_eq_true rfl) (Nat.le_of_ble_eq_true rfl) (fun f2 hq => ?_)
      obtain ⟨k2, n2⟩ := hq
      have hW2 := hW'.stp' (by omega) k2 n2
      refine xgo O Rt xplX3_q xclX3_q [10] 60 ?_
      simp (maxSteps := 10000000) (disch := omega) only [↓reduceIte, ↓xrun_s, ↓xck_e, xdo_e, xlg_0, xlg_c, xst1_0, xst1_1, xst1_c, xst2_0, xst2_1, xst2_c, xk2_n, xk2_i, xk2_a, xk2_l, xct_i, xct_a, xct_l, xf4_0, xf4_1, xf4_2, xf4_3, List.contains_cons, List.contains_nil, Bool.or_false, Bool.false_or, Bool.or_self, Bool.true_or, Bool.or_true, cond_true, cond_false, List.set_cons_zero, List.set_cons_succ, List.length_cons, List.length_nil, true_and, and_true, xu_s, xu_u, xeqs, Nat.le_refl, not_true_eq_false, xq_10, xq_01, Int32.reduceAdd, Int32.reduceMul, Int32.reduceSub, Int32.reduceLE, Int32.reduceLT, Int32.reduceToNatClampNeg, Nat.reduceAdd, Nat.reduceMul, Nat.reduceBEq, Nat.reduceLT, Nat.reduceLeDiff, Nat.reduceEqDiff, Nat.zero_add, Bool.false_eq_true, reduceCtorEq, if_false, if_true, not_false_eq_true, true_imp_iff, false_imp_iff, imp_self, ↓xil_e, ↓xll_e, ↓xal_e, ↓xs1i_e, ↓xs2i_e, ↓xs1l_e, ↓xs2l_e, ↓xsil_e, ↓xs1_e, ↓xs2_e, ↓xs1a_e, ↓xsia_e, ↓xsiia_e, ↓xslia_e, ↓xsaia_e, ↓xsva_e, ↓xse1i_e, ↓xse1l_e, ↓xse1a_e, ↓xse0_e, ↓xfv_0, ↓xfv_c, ↓xgf_e, ↓xpf_e, ↓xia_e, ↓xia_n, ↓xba_e, ↓xba_n, ↓xla_e, ↓xla_n, ↓xob_e, ↓xra_e, ↓xno_e, ↓xle_e, ↓xnr_i, ↓xnr_b0, ↓xnr_b1, ↓xnr_n, ↓xdo_e, ↓xkl_0, ↓xe_iconst, ↓xe_bipush, ↓xe_isub, ↓xe_imul, ↓xe_iload_n, ↓xe_aload_n, ↓xe_istore_n, ↓xe_iinc, ↓xe_goto, ↓xe_getfield, ↓xe_putfield, ↓xe_aaload, ↓xe_return_, ↓xe_icmp_ge, ↓xe_invokevirtual, ↓xe_invokestatic, dX3_take_0, dX3_take_1, dX3_take_2, dX3_take_5, dX3_take_8, dX3_take_9, dX3_take_10, dX3_take_11, dX3_take_12, dX3_take_15, dX3_take_18, dX3_take_19, dX3_take_22, dX3_take_23, dX3_take_24, dX3_take_25, dX3_take_28, dX3_take_29, dX3_take_30, dX3_take_31, dX3_take_33, dX3_take_34, dX3_take_37, dX3_take_40, dX3_take_43, dX3_take_44, dX3_take_47, dX3_take_48, dX3_take_51, dX3_take_52, dX3_take_55, dX3_take_56, dX3_take_57, dX3_take_59, dX3_take_60, dX3_take_63, dX3_take_64, dX3_take_67, xpX3_11, xpX3_28, xpX3_38, xpX3_46, xpX3_49, xkb_6, xki_1, ni, xft_3_7, xt_15_28, xtc_15_28, xt_40_m30, xtc_40_m30]
      refine ih (i + 1) (by omega) (by omega) f2 _ (fun q hq => ?_) hW2 ?_ (fun j hj => ?_)
      · rw [k2 q (by omega) (by omega)]; exact k1 q hq
      · simp only [va_up, if_neg (show ¬ 0 = i by omega)]; exact x0
      · by_cases e : j + 1 = i
        · simp only [va_up, if_pos e]
          rw [show i - 1 = j by omega]
        · simp only [va_up, if_neg e]
          exact xj j (by omega)
  have h1 : f (w + 4) = some (xSc w n) := hW.1
  have hu : ∀ e2, xu f (w + 4) e2 (w + 1) = f (w + 1) := fun e2 => xu_n (by omega)
  refine xgo O Rt xplX3_q xclX3_q [10] 60 ?_
  simp (maxSteps := 10000000) (disch := omega) only [↓reduceIte, ↓xrun_s, ↓xck_e, xdo_e, xlg_0, xlg_c, xst1_0, xst1_1, xst1_c, xst2_0, xst2_1, xst2_c, xk2_n, xk2_i, xk2_a, xk2_l, xct_i, xct_a, xct_l, xf4_0, xf4_1, xf4_2, xf4_3, List.contains_cons, List.contains_nil, Bool.or_false, Bool.false_or, Bool.or_self, Bool.true_or, Bool.or_true, cond_true, cond_false, List.set_cons_zero, List.set_cons_succ, List.length_cons, List.length_nil, true_and, and_true, xu_s, xu_u, xeqs, Nat.le_refl, not_true_eq_false, xq_10, xq_01, Int32.reduceAdd, Int32.reduceMul, Int32.reduceSub, Int32.reduceLE, Int32.reduceLT, Int32.reduceToNatClampNeg, Nat.reduceAdd, Nat.reduceMul, Nat.reduceBEq, Nat.reduceLT, Nat.reduceLeDiff, Nat.reduceEqDiff, Nat.zero_add, Bool.false_eq_true, reduceCtorEq, if_false, if_true, not_false_eq_true, true_imp_iff, false_imp_iff, imp_self, ↓xil_e, ↓xll_e, ↓xal_e, ↓xs1i_e, ↓xs2i_e, ↓xs1l_e, ↓xs2l_e, ↓xsil_e, ↓xs1_e, ↓xs2_e, ↓xs1a_e, ↓xsia_e, ↓xsiia_e, ↓xslia_e, ↓xsaia_e, ↓xsva_e, ↓xse1i_e, ↓xse1l_e, ↓xse1a_e, ↓xse0_e, ↓xfv_0, ↓xfv_c, ↓xgf_e, ↓xpf_e, ↓xia_e, ↓xia_n, ↓xba_e, ↓xba_n, ↓xla_e, ↓xla_n, ↓xob_e, ↓xra_e, ↓xno_e, ↓xle_e, ↓xnr_i, ↓xnr_b0, ↓xnr_b1, ↓xnr_n, ↓xdo_e, ↓xkl_0, ↓xe_iconst, ↓xe_bipush, ↓xe_isub, ↓xe_imul, ↓xe_iload_n, ↓xe_aload_n, ↓xe_istore_n, ↓xe_iinc, ↓xe_goto, ↓xe_getfield, ↓xe_putfield, ↓xe_aaload, ↓xe_return_, ↓xe_icmp_ge, ↓xe_invokevirtual, ↓xe_invokestatic, dX3_take_0, dX3_take_1, dX3_take_2, dX3_take_5, dX3_take_8, dX3_take_9, dX3_take_10, dX3_take_11, dX3_take_12, dX3_take_15, dX3_take_18, dX3_take_19, dX3_take_22, dX3_take_23, dX3_take_24, dX3_take_25, dX3_take_28, dX3_take_29, dX3_take_30, dX3_take_31, dX3_take_33, dX3_take_34, dX3_take_37, dX3_take_40, dX3_take_43, dX3_take_44, dX3_take_47, dX3_take_48, dX3_take_51, dX3_take_52, dX3_take_55, dX3_take_56, dX3_take_57, dX3_take_59, dX3_take_60, dX3_take_63, dX3_take_64, dX3_take_67, xpX3_11, xpX3_28, xpX3_38, xpX3_46, xpX3_49, xkb_6, xki_1, hT, h1, xft_3_7, xt_15_28, xtc_15_28, xt_40_m30, xtc_40_m30]
  exact loop (c - 1) 1 (by omega) (by omega) _ xs (fun q hq => xu_n (by omega)) (hW.cnt' c) rfl (fun j hj => absurd hj (by omega))
/-- s notes L together -/
def zs (s : Nat) (L : xZ) : xZ := fun k => (s : Int) * L k
theorem sz_zs (s : Nat) (L : xZ) : sz (zs s L) = s * sz L := by
  simp only [sz, zs, Int.mul_add, Int.mul_assoc]
theorem per_k {P : xZ} (hpn : ∀ k, k < 6 → 0 ≤ P k) {k : Nat} (hk : k < 6) : P k * 1329227995784915872903807060280344576 ≤ sz P := by
  have h0 := hpn 0 (by omega)
  have h1 := hpn 1 (by omega)
  have h2 := hpn 2 (by omega)
  have h3 := hpn 3 (by omega)
  have h4 := hpn 4 (by omega)
  have h5 := hpn 5 (by omega)
  simp only [sz, LG0, LG1, LG2, LG3, LG4, LG5]
  rcases (by omega : k = 0 ∨ k = 1 ∨ k = 2 ∨ k = 3 ∨ k = 4 ∨ k = 5) with rfl | rfl | rfl | rfl | rfl | rfl <;> omega
theorem ch_bd {L P : xZ} (hL : bd L 2) (hper : Per P) (hpn : ∀ k, k < 6 → 0 ≤ P k) {s : Nat} (hs : s ≤ 23) : Stp' (rdc (zs s L) P) ∧ -700 ≤ qd (zs s L) P ∧ qd (zs s L) P ≤ 700 := by
  obtain ⟨hbP, p1, p2⟩ := id hper
  have hr := rdc_sz (x := zs s L) (P := P) (by omega)
  have hsL := sz_bd hL
  have hz := sz_zs s L
  have hm := mulb (a := (s : Int)) (b := sz L) (A := 23) (B := 2 * 19771092535503916009923517705528281321) (by omega) (by omega) (by omega) (by omega)
  obtain ⟨e1, e2, e3⟩ := hr
  rw [hz] at e1
  generalize hq : qd (zs s L) P = q at e1 ⊢
  generalize hqQ : q * sz P = qQ at e1
  have q1 : q ≤ 700 := by
    rcases Int.lt_or_le 700 q with h | h
    · have := Int.mul_le_mul h p1 (by omega) (by omega)
      omega
    · exact h
  have q2 : -700 ≤ q := by
    rcases Int.lt_or_le q (-700) with h | h
    · have := Int.mul_le_mul (show 701 ≤ -q by omega) p1 (by omega) (by omega)
      rw [Int.neg_mul] at this
      omega
    · exact h
  refine ⟨⟨fun k hk => ?_, by omega, by omega⟩, q2, q1⟩
  have hk2 := hL k hk
  have hsk := mulb (a := (s : Int)) (b := L k) (A := 23) (B := 2) (by omega) (by omega) (by omega) (by omega)
  have hpk := per_k hpn hk
  have hp0 := hpn k hk
  simp only [rdc, zadd, zs, hq]
  rw [Int.neg_mul]
  have hqk : -800 ≤ q * P k ∧ q * P k ≤ 800 := by
    rcases Int.le_total 0 q with h | h
    · have h3 := Int.mul_le_mul_of_nonneg_left hpk h
      rw [← Int.mul_assoc] at h3
      have h4 := Int.mul_nonneg h hp0
      omega
    · have h3 := Int.mul_le_mul_of_nonneg_left hpk (show 0 ≤ -q by omega)
      rw [← Int.mul_assoc] at h3
      simp only [Int.neg_mul] at h3
      have h4 := Int.mul_nonneg (show 0 ≤ -q by omega) hp0
      rw [Int.neg_mul] at h4
      omega
  omega
theorem ins_map {α β : Type} (F : α → β) (s : Nat → α) (l i j : Nat) : ins (fun q => F (s q)) l i j = F (ins s l i j) := by
  unfold ins
  split
  · rfl
  · split
    · rfl
    · split <;> rfl
set_option maxRecDepth 100000 in
set_option maxHeartbeats 8000000 in
theorem c_becomeChain (V : xV) {w z n c : Nat} {f : xH} {ps : Nat → Nat} {xs rs : Nat → xZ} {tk so : Nat → Int32} {P L : xZ} {post : Option Value → xH → Nat → Prop} (hW : ScW f w n ps xs rs tk so P) (hL0 : Nt f (w + 11) (w + 12) L) (hc1 : 1 ≤ c) (hc2 : c ≤ 24) (hL : bd L 2) (hper : Per P) (hpn : ∀ k, k < 6 → 0 ≤ P k)
    (hp : ∀ f' ps' xs' rs' tk' so' s s2, (∀ q, q < w + 4 ∨ w + 111 ≤ q → f' q = f q) → ScW f' w c ps' xs' rs' tk' so' P → Srt s2 c (fun j => sz (rdc (zs j L) P)) → (∀ j, j < c → xs' j = rdc (zs (s2 j) L) P) → (∀ j, j < c → (tk' j).toInt = qd (xs' j) P) → (∀ j, j < c → rs' j = rdc (xs' j) P) → Srt s c (fun j => sz (rdc (xs' j) P)) → (∀ j, j < c → so' j = nI (s j)) → post none f' z) :
    xMet V yX3_becomeChain cX3_becomeChain 3 none 5 0 0 [.ref (w + 4), .int (nI c)] f z post := by
  refine xMet_of false (by decide) (Nat.le_of_ble_eq_true rfl) (fun h => by cases h) (fun X hX O Rt => ?_)
  have O : xO X cX3_becomeChain 3 RX3 5 0 0 false := O
  show xG X 0 [some (.ref (w + 4)), some (.int (nI c)), none] [] f (z, 0, 0)
  obtain ⟨hbP, p1, p2⟩ := id hper
  have one : (1 : Int32).toInt = 1 := rfl
  have mone : (-1 : Int32).toInt = -1 := rfl
  have hsL := sz_bd hL
  have hzs1 : sz L = sz (zs 1 L) := by rw [sz_zs]; omega
  have hLr := ch_bd hL hper hpn (s := 1) (by omega)
  have eqd : qd (zs 1 L) P = qd L P := by unfold qd; rw [← hzs1]
  have hrL := rdc_sz (x := L) (P := P) (by omega)
  have bLr : bd (rdc L P) 1000 := by
    intro k hk
    have := hLr.1.1 k hk
    simp only [rdc, zadd, eqd] at this ⊢
    have e : zs 1 L k = L k := by simp only [zs]; omega
    rw [e] at this
    exact this
  have loop : ∀ k i : Nat, i + k = c → ∀ f' ps' xs' s, (∀ q, q < w + 4 ∨ w + 111 ≤ q → f' q = f q) → ScW f' w c ps' xs' rs tk so P → Nt f' (w + 11) (w + 12) (rdc L P) → Nt f' (w + 13) (w + 14) (rdc (zs i L) P) → Srt s i (fun j => sz (rdc (zs j L) P)) → (∀ j, j < i → xs' j = rdc (zs (s j) L) P) →
      xG X 37 [some (.ref (w + 4)), some (.int (nI c)), some (.int (nI i))] [] f' (z, 0, 0) := by
    intro k
    induction k with
    | zero =>
      intro i hi f' ps' xs' s k1 hW' nL nS hs hx
      have hic : i = c := by omega
      subst hic
      have h1 : f' (w + 4) = some (xSc w i) := hW'.1
      have hcc : (nI i ≤ nI i) = True := eq_true ((nI_leI (by omega) (by omega)).mpr (by omega))
      refine xgo O Rt xplX3_q xclX3_q [37] 60 ?_
      simp (maxSteps := 10000000) (disch := omega) only [↓reduceIte, ↓xrun_s, ↓xck_e, xdo_e, xlg_0, xlg_c, xst1_0, xst1_1, xst1_c, xst2_0, xst2_1, xst2_c, xk2_n, xk2_i, xk2_a, xk2_l, xct_i, xct_a, xct_l, xf4_0, xf4_1, xf4_2, xf4_3, List.contains_cons, List.contains_nil, Bool.or_false, Bool.false_or, Bool.or_self, Bool.true_or, Bool.or_true, cond_true, cond_false, List.set_cons_zero, List.set_cons_succ, List.length_cons, List.length_nil, true_and, and_true, xu_s, xu_u, xeqs, Nat.le_refl, not_true_eq_false, xq_10, xq_01, Int32.reduceAdd, Int32.reduceMul, Int32.reduceSub, Int32.reduceLE, Int32.reduceLT, Int32.reduceToNatClampNeg, Nat.reduceAdd, Nat.reduceMul, Nat.reduceBEq, Nat.reduceLT, Nat.reduceLeDiff, Nat.reduceEqDiff, Nat.zero_add, Bool.false_eq_true, reduceCtorEq, if_false, if_true, not_false_eq_true, true_imp_iff, false_imp_iff, imp_self, ↓xil_e, ↓xll_e, ↓xal_e, ↓xs1i_e, ↓xs2i_e, ↓xs1l_e, ↓xs2l_e, ↓xsil_e, ↓xs1_e, ↓xs2_e, ↓xs1a_e, ↓xsia_e, ↓xsiia_e, ↓xslia_e, ↓xsaia_e, ↓xsva_e, ↓xse1i_e, ↓xse1l_e, ↓xse1a_e, ↓xse0_e, ↓xfv_0, ↓xfv_c, ↓xgf_e, ↓xpf_e, ↓xia_e, ↓xia_n, ↓xba_e, ↓xba_n, ↓xla_e, ↓xla_n, ↓xob_e, ↓xra_e, ↓xno_e, ↓xle_e, ↓xnr_i, ↓xnr_b0, ↓xnr_b1, ↓xnr_n, ↓xdo_e, ↓xkl_0, ↓xe_iconst, ↓xe_ineg, ↓xe_iload_n, ↓xe_aload_n, ↓xe_istore_n, ↓xe_iinc, ↓xe_goto, ↓xe_getfield, ↓xe_putfield, ↓xe_aaload, ↓xe_return_, ↓xe_if_ne, ↓xe_icmp_ge, ↓xe_invokevirtual, dX3_becomeChain_0, dX3_becomeChain_1, dX3_becomeChain_4, dX3_becomeChain_5, dX3_becomeChain_8, dX3_becomeChain_9, dX3_becomeChain_12, dX3_becomeChain_13, dX3_becomeChain_16, dX3_becomeChain_19, dX3_becomeChain_20, dX3_becomeChain_23, dX3_becomeChain_24, dX3_becomeChain_25, dX3_becomeChain_28, dX3_becomeChain_29, dX3_becomeChain_32, dX3_becomeChain_35, dX3_becomeChain_36, dX3_becomeChain_37, dX3_becomeChain_38, dX3_becomeChain_39, dX3_becomeChain_42, dX3_becomeChain_45, dX3_becomeChain_46, dX3_becomeChain_49, dX3_becomeChain_50, dX3_becomeChain_51, dX3_becomeChain_52, dX3_becomeChain_55, dX3_becomeChain_58, dX3_becomeChain_59, dX3_becomeChain_60, dX3_becomeChain_63, dX3_becomeChain_64, dX3_becomeChain_67, dX3_becomeChain_68, dX3_becomeChain_71, dX3_becomeChain_72, dX3_becomeChain_75, dX3_becomeChain_76, dX3_becomeChain_79, dX3_becomeChain_80, dX3_becomeChain_83, dX3_becomeChain_84, dX3_becomeChain_87, dX3_becomeChain_90, dX3_becomeChain_91, dX3_becomeChain_94, dX3_becomeChain_95, dX3_becomeChain_98, dX3_becomeChain_99, dX3_becomeChain_102, dX3_becomeChain_105, dX3_becomeChain_108, dX3_becomeChain_109, dX3_becomeChain_112, xpX3_11, xpX3_28, xpX3_32, xpX3_35, xpX3_38, xki_0, xki_1, xki_m1, h1, hcc, xft_3_7, xt_42_66, xtc_42_66, xt_87_15, xtc_87_15, xt_105_m68, xtc_105_m68]
      refine xg_callVv (Qp := fun f3 => ∃ rs' tk' so' s2, (∀ q, q < w + 4 ∨ w + 111 ≤ q → f3 q = f' q) ∧ ScW f3 w i ps' xs' rs' tk' so' P ∧ (∀ j, j < i → (tk' j).toInt = qd (xs' j) P) ∧ (∀ j, j < i → rs' j = rdc (xs' j) P) ∧ Srt s2 i (fun j => sz (rdc (xs' j) P)) ∧ (∀ j, j < i → so' j = nI (s2 j))) O dX3_becomeChain_109 xl_X3_56 xk_X3_arrange (c_arrange _ hW' hc2 hper (fun j hj => ?_) (fun f3 rs' tk' so' s q1 q2 q3 q4 q5 q6 => ⟨rfl, ⟨rs', tk', so', s, q1, q2, q3, q4, q5, q6⟩, rfl⟩)) h1 rfl rfl rfl (Nat.le_of_ble_eq_true rfl) rfl (Nat.le_of_ble_eq_true rfl) (Nat.le_of_ble_eq_true rfl) (Nat.le_of_ble_eq_true rfl) (fun f3 hq => ?_)
      · rw [hx j hj]
        exact (ch_bd hL hper hpn (by have := hs.1 j hj; omega)).1
      · obtain ⟨rs', tk', so', s2, q1, q2, q3, q4, q5, q6⟩ := hq
        refine xgo O Rt xplX3_q xclX3_q [37] 60 ?_
        simp (maxSteps := 10000000) (disch := omega) only [↓reduceIte, ↓xrun_s, ↓xck_e, xdo_e, xlg_0, xlg_c, xst1_0, xst1_1, xst1_c, xst2_0, xst2_1, xst2_c, xk2_n, xk2_i, xk2_a, xk2_l, xct_i, xct_a, xct_l, xf4_0, xf4_1, xf4_2, xf4_3, List.contains_cons, List.contains_nil, Bool.or_false, Bool.false_or, Bool.or_self, Bool.true_or, Bool.or_true, cond_true, cond_false, List.set_cons_zero, List.set_cons_succ, List.length_cons, List.length_nil, true_and, and_true, xu_s, xu_u, xeqs, Nat.le_refl, not_true_eq_false, xq_10, xq_01, Int32.reduceAdd, Int32.reduceMul, Int32.reduceSub, Int32.reduceLE, Int32.reduceLT, Int32.reduceToNatClampNeg, Nat.reduceAdd, Nat.reduceMul, Nat.reduceBEq, Nat.reduceLT, Nat.reduceLeDiff, Nat.reduceEqDiff, Nat.zero_add, Bool.false_eq_true, reduceCtorEq, if_false, if_true, not_false_eq_true, true_imp_iff, false_imp_iff, imp_self, ↓xil_e, ↓xll_e, ↓xal_e, ↓xs1i_e, ↓xs2i_e, ↓xs1l_e, ↓xs2l_e, ↓xsil_e, ↓xs1_e, ↓xs2_e, ↓xs1a_e, ↓xsia_e, ↓xsiia_e, ↓xslia_e, ↓xsaia_e, ↓xsva_e, ↓xse1i_e, ↓xse1l_e, ↓xse1a_e, ↓xse0_e, ↓xfv_0, ↓xfv_c, ↓xgf_e, ↓xpf_e, ↓xia_e, ↓xia_n, ↓xba_e, ↓xba_n, ↓xla_e, ↓xla_n, ↓xob_e, ↓xra_e, ↓xno_e, ↓xle_e, ↓xnr_i, ↓xnr_b0, ↓xnr_b1, ↓xnr_n, ↓xdo_e, ↓xkl_0, ↓xe_iconst, ↓xe_ineg, ↓xe_iload_n, ↓xe_aload_n, ↓xe_istore_n, ↓xe_iinc, ↓xe_goto, ↓xe_getfield, ↓xe_putfield, ↓xe_aaload, ↓xe_return_, ↓xe_if_ne, ↓xe_icmp_ge, ↓xe_invokevirtual, dX3_becomeChain_0, dX3_becomeChain_1, dX3_becomeChain_4, dX3_becomeChain_5, dX3_becomeChain_8, dX3_becomeChain_9, dX3_becomeChain_12, dX3_becomeChain_13, dX3_becomeChain_16, dX3_becomeChain_19, dX3_becomeChain_20, dX3_becomeChain_23, dX3_becomeChain_24, dX3_becomeChain_25, dX3_becomeChain_28, dX3_becomeChain_29, dX3_becomeChain_32, dX3_becomeChain_35, dX3_becomeChain_36, dX3_becomeChain_37, dX3_becomeChain_38, dX3_becomeChain_39, dX3_becomeChain_42, dX3_becomeChain_45, dX3_becomeChain_46, dX3_becomeChain_49, dX3_becomeChain_50, dX3_becomeChain_51, dX3_becomeChain_52, dX3_becomeChain_55, dX3_becomeChain_58, dX3_becomeChain_59, dX3_becomeChain_60, dX3_becomeChain_63, dX3_becomeChain_64, dX3_becomeChain_67, dX3_becomeChain_68, dX3_becomeChain_71, dX3_becomeChain_72, dX3_becomeChain_75, dX3_becomeChain_76, dX3_becomeChain_79, dX3_becomeChain_80, dX3_becomeChain_83, dX3_becomeChain_84, dX3_becomeChain_87, dX3_becomeChain_90, dX3_becomeChain_91, dX3_becomeChain_94, dX3_becomeChain_95, dX3_becomeChain_98, dX3_becomeChain_99, dX3_becomeChain_102, dX3_becomeChain_105, dX3_becomeChain_108, dX3_becomeChain_109, dX3_becomeChain_112, xpX3_11, xpX3_28, xpX3_32, xpX3_35, xpX3_38, xki_0, xki_1, xki_m1, xft_3_7, xt_42_66, xtc_42_66, xt_87_15, xtc_87_15, xt_105_m68, xtc_105_m68]
        exact hp f3 ps' xs' rs' tk' so' s2 s (fun q hq => (q1 q hq).trans (k1 q hq)) q2 hs hx q3 q4 q5 q6
    | succ k ih =>
      intro i hi f' ps' xs' s k1 hW' nL nS hs hx
      have hi24 : i < 24 := by omega
      obtain ⟨h1, ⟨st, h2, h2'⟩, -, -, -, h6, h7, h8, h9, h10, -⟩ := id hW'
      have hcc : (nI c ≤ nI i) = False := eq_false (fun q => by have := (nI_leI (by omega) (by omega)).mp q; omega)
      have ni : nI i + 1 = nI (i + 1) := nI_1 i
      have v0 : vp_in (nI i) 24 := vp_in_nI (by omega) (by omega)
      have v1 : (nI i).toNatClampNeg = i := nI_clamp (by omega)
      have b1 : st i = some (ps' i) := h2' i hi24
      obtain ⟨ji, hji, eji⟩ := h6 i hi24
      obtain ⟨-, _, _, _, _, hfp, -⟩ := id (h8 i hi24)
      refine xgo O Rt xplX3_q xclX3_q [37] 60 ?_
      simp (maxSteps := 10000000) (disch := omega) only [↓reduceIte, ↓xrun_s, ↓xck_e, xdo_e, xlg_0, xlg_c, xst1_0, xst1_1, xst1_c, xst2_0, xst2_1, xst2_c, xk2_n, xk2_i, xk2_a, xk2_l, xct_i, xct_a, xct_l, xf4_0, xf4_1, xf4_2, xf4_3, List.contains_cons, List.contains_nil, Bool.or_false, Bool.false_or, Bool.or_self, Bool.true_or, Bool.or_true, cond_true, cond_false, List.set_cons_zero, List.set_cons_succ, List.length_cons, List.length_nil, true_and, and_true, xu_s, xu_u, xeqs, Nat.le_refl, not_true_eq_false, xq_10, xq_01, Int32.reduceAdd, Int32.reduceMul, Int32.reduceSub, Int32.reduceLE, Int32.reduceLT, Int32.reduceToNatClampNeg, Nat.reduceAdd, Nat.reduceMul, Nat.reduceBEq, Nat.reduceLT, Nat.reduceLeDiff, Nat.reduceEqDiff, Nat.zero_add, Bool.false_eq_true, reduceCtorEq, if_false, if_true, not_false_eq_true, true_imp_iff, false_imp_iff, imp_self, ↓xil_e, ↓xll_e, ↓xal_e, ↓xs1i_e, ↓xs2i_e, ↓xs1l_e, ↓xs2l_e, ↓xsil_e, ↓xs1_e, ↓xs2_e, ↓xs1a_e, ↓xsia_e, ↓xsiia_e, ↓xslia_e, ↓xsaia_e, ↓xsva_e, ↓xse1i_e, ↓xse1l_e, ↓xse1a_e, ↓xse0_e, ↓xfv_0, ↓xfv_c, ↓xgf_e, ↓xpf_e, ↓xia_e, ↓xia_n, ↓xba_e, ↓xba_n, ↓xla_e, ↓xla_n, ↓xob_e, ↓xra_e, ↓xno_e, ↓xle_e, ↓xnr_i, ↓xnr_b0, ↓xnr_b1, ↓xnr_n, ↓xdo_e, ↓xkl_0, ↓xe_iconst, ↓xe_ineg, ↓xe_iload_n, ↓xe_aload_n, ↓xe_istore_n, ↓xe_iinc, ↓xe_goto, ↓xe_getfield, ↓xe_putfield, ↓xe_aaload, ↓xe_return_, ↓xe_if_ne, ↓xe_icmp_ge, ↓xe_invokevirtual, dX3_becomeChain_0, dX3_becomeChain_1, dX3_becomeChain_4, dX3_becomeChain_5, dX3_becomeChain_8, dX3_becomeChain_9, dX3_becomeChain_12, dX3_becomeChain_13, dX3_becomeChain_16, dX3_becomeChain_19, dX3_becomeChain_20, dX3_becomeChain_23, dX3_becomeChain_24, dX3_becomeChain_25, dX3_becomeChain_28, dX3_becomeChain_29, dX3_becomeChain_32, dX3_becomeChain_35, dX3_becomeChain_36, dX3_becomeChain_37, dX3_becomeChain_38, dX3_becomeChain_39, dX3_becomeChain_42, dX3_becomeChain_45, dX3_becomeChain_46, dX3_becomeChain_49, dX3_becomeChain_50, dX3_becomeChain_51, dX3_becomeChain_52, dX3_becomeChain_55, dX3_becomeChain_58, dX3_becomeChain_59, dX3_becomeChain_60, dX3_becomeChain_63, dX3_becomeChain_64, dX3_becomeChain_67, dX3_becomeChain_68, dX3_becomeChain_71, dX3_becomeChain_72, dX3_becomeChain_75, dX3_becomeChain_76, dX3_becomeChain_79, dX3_becomeChain_80, dX3_becomeChain_83, dX3_becomeChain_84, dX3_becomeChain_87, dX3_becomeChain_90, dX3_becomeChain_91, dX3_becomeChain_94, dX3_becomeChain_95, dX3_becomeChain_98, dX3_becomeChain_99, dX3_becomeChain_102, dX3_becomeChain_105, dX3_becomeChain_108, dX3_becomeChain_109, dX3_becomeChain_112, xpX3_11, xpX3_28, xpX3_32, xpX3_35, xpX3_38, xki_0, xki_1, xki_m1, h1, h2, hcc, v0, v1, b1, xft_3_7, xt_42_66, xtc_42_66, xt_87_15, xtc_87_15, xt_105_m68, xtc_105_m68]
      refine xg_callVv (Qp := fun f2 => (∀ q, q ≠ ps' i → q ≠ ps' i + 1 → f2 q = f' q) ∧ Nt f2 (ps' i) (ps' i + 1) (rdc (zs i L) P)) O dX3_becomeChain_55 xl_X3_70 xk_X1_copyFrom (c_copyFrom _ (h8 i hi24) nS (by omega) (by omega) (by omega) (fun f2 q1 q2 => ⟨rfl, ⟨q1, q2⟩, rfl⟩)) hfp rfl rfl rfl (Nat.le_of_ble_eq_true rfl) rfl (Nat.le_of_ble_eq_true rfl) (Nat.le_of_ble_eq_true rfl) (Nat.le_of_ble_eq_true rfl) (fun f2 hq => ?_)
      obtain ⟨k2, n2⟩ := hq
      have hW2 := hW'.stp' hi24 k2 n2
      have nL2 : Nt f2 (w + 11) (w + 12) (rdc L P) := nL.kept (k2 _ (by omega) (by omega)) (k2 _ (by omega) (by omega))
      have nS2 : Nt f2 (w + 13) (w + 14) (rdc (zs i L) P) := nS.kept (k2 _ (by omega) (by omega)) (k2 _ (by omega) (by omega))
      have g1 : f2 (w + 4) = some (xSc w c) := hW2.1
      obtain ⟨s1, es1⟩ : ∃ s1 : Nat → Nat, s1 = fun j => if j = i then i else s j := ⟨_, rfl⟩
      have hs1i : s1 i = i := by rw [es1]; simp
      have hs1 : ∀ j, j < i → s1 j = s j := fun j hj => by rw [es1]; simp only [if_neg (show ¬ j = i by omega)]
      have hxe : ∀ j, j ≤ i → va_up xs' i (rdc (zs i L) P) j = rdc (zs (s1 j) L) P := by
        intro j hj
        by_cases e : j = i
        · rw [e, hs1i]; simp only [va_up, if_true]
        · rw [hs1 j (by omega)]; simp only [va_up, if_neg e]; exact hx j (by omega)
      have hle1 : ∀ j, j ≤ i → s1 j ≤ i := by
        intro j hj
        by_cases e : j = i
        · rw [e, hs1i]; omega
        · rw [hs1 j (by omega)]; have := hs.1 j (by omega); omega
      have hszb : ∀ m, m ≤ 23 → 0 ≤ sz (rdc (zs m L) P) ∧ sz (rdc (zs m L) P) < sz P := fun m _ => ⟨(rdc_sz (by omega)).2.1, (rdc_sz (by omega)).2.2⟩
      refine xgo O Rt xplX3_q xclX3_q [37] 60 ?_
      simp (maxSteps := 10000000) (disch := omega) only [↓reduceIte, ↓xrun_s, ↓xck_e, xdo_e, xlg_0, xlg_c, xst1_0, xst1_1, xst1_c, xst2_0, xst2_1, xst2_c, xk2_n, xk2_i, xk2_a, xk2_l, xct_i, xct_a, xct_l, xf4_0, xf4_1, xf4_2, xf4_3, List.contains_cons, List.contains_nil, Bool.or_false, Bool.false_or, Bool.or_self, Bool.true_or, Bool.or_true, cond_true, cond_false, List.set_cons_zero, List.set_cons_succ, List.length_cons, List.length_nil, true_and, and_true, xu_s, xu_u, xeqs, Nat.le_refl, not_true_eq_false, xq_10, xq_01, Int32.reduceAdd, Int32.reduceMul, Int32.reduceSub, Int32.reduceLE, Int32.reduceLT, Int32.reduceToNatClampNeg, Nat.reduceAdd, Nat.reduceMul, Nat.reduceBEq, Nat.reduceLT, Nat.reduceLeDiff, Nat.reduceEqDiff, Nat.zero_add, Bool.false_eq_true, reduceCtorEq, if_false, if_true, not_false_eq_true, true_imp_iff, false_imp_iff, imp_self, ↓xil_e, ↓xll_e, ↓xal_e, ↓xs1i_e, ↓xs2i_e, ↓xs1l_e, ↓xs2l_e, ↓xsil_e, ↓xs1_e, ↓xs2_e, ↓xs1a_e, ↓xsia_e, ↓xsiia_e, ↓xslia_e, ↓xsaia_e, ↓xsva_e, ↓xse1i_e, ↓xse1l_e, ↓xse1a_e, ↓xse0_e, ↓xfv_0, ↓xfv_c, ↓xgf_e, ↓xpf_e, ↓xia_e, ↓xia_n, ↓xba_e, ↓xba_n, ↓xla_e, ↓xla_n, ↓xob_e, ↓xra_e, ↓xno_e, ↓xle_e, ↓xnr_i, ↓xnr_b0, ↓xnr_b1, ↓xnr_n, ↓xdo_e, ↓xkl_0, ↓xe_iconst, ↓xe_ineg, ↓xe_iload_n, ↓xe_aload_n, ↓xe_istore_n, ↓xe_iinc, ↓xe_goto, ↓xe_getfield, ↓xe_putfield, ↓xe_aaload, ↓xe_return_, ↓xe_if_ne, ↓xe_icmp_ge, ↓xe_invokevirtual, dX3_becomeChain_0, dX3_becomeChain_1, dX3_becomeChain_4, dX3_becomeChain_5, dX3_becomeChain_8, dX3_becomeChain_9, dX3_becomeChain_12, dX3_becomeChain_13, dX3_becomeChain_16, dX3_becomeChain_19, dX3_becomeChain_20, dX3_becomeChain_23, dX3_becomeChain_24, dX3_becomeChain_25, dX3_becomeChain_28, dX3_becomeChain_29, dX3_becomeChain_32, dX3_becomeChain_35, dX3_becomeChain_36, dX3_becomeChain_37, dX3_becomeChain_38, dX3_becomeChain_39, dX3_becomeChain_42, dX3_becomeChain_45, dX3_becomeChain_46, dX3_becomeChain_49, dX3_becomeChain_50, dX3_becomeChain_51, dX3_becomeChain_52, dX3_becomeChain_55, dX3_becomeChain_58, dX3_becomeChain_59, dX3_becomeChain_60, dX3_becomeChain_63, dX3_becomeChain_64, dX3_becomeChain_67, dX3_becomeChain_68, dX3_becomeChain_71, dX3_becomeChain_72, dX3_becomeChain_75, dX3_becomeChain_76, dX3_becomeChain_79, dX3_becomeChain_80, dX3_becomeChain_83, dX3_becomeChain_84, dX3_becomeChain_87, dX3_becomeChain_90, dX3_becomeChain_91, dX3_becomeChain_94, dX3_becomeChain_95, dX3_becomeChain_98, dX3_becomeChain_99, dX3_becomeChain_102, dX3_becomeChain_105, dX3_becomeChain_108, dX3_becomeChain_109, dX3_becomeChain_112, xpX3_11, xpX3_28, xpX3_32, xpX3_35, xpX3_38, xki_0, xki_1, xki_m1, xft_3_7, xt_42_66, xtc_42_66, xt_87_15, xtc_87_15, xt_105_m68, xtc_105_m68]
      refine xg_callVv (Qp := fun f3 => ∃ p st3, p ≤ i ∧ (p = 0 ∨ sz (rdc (zs (s1 (p - 1)) L) P) ≤ sz (rdc (zs i L) P)) ∧ (∀ j, p ≤ j → j < i → sz (rdc (zs i L) P) < sz (rdc (zs (s1 j) L) P)) ∧ ScW f3 w c (ins ps' i p) (ins (va_up xs' i (rdc (zs i L) P)) i p) rs tk so P ∧ f3 = xu f2 (w + 5) (xR 24 st3)) O dX3_becomeChain_60 xl_X3_74 xk_X3_sinkStep (c_sinkStep _ hW2 hi24 (fun j hj => ?_) (fun p st3 q1 q2 q3 q4 => ⟨rfl, ⟨p, st3, q1, ?_, ?_, q4, rfl⟩, rfl⟩)) g1 rfl rfl rfl (Nat.le_of_ble_eq_true rfl) rfl (Nat.le_of_ble_eq_true rfl) (Nat.le_of_ble_eq_true rfl) (Nat.le_of_ble_eq_true rfl) (fun f3 hq => ?_)
      · rw [hxe j hj]
        have := hszb (s1 j) (by have := hle1 j hj; omega)
        omega
      · rw [hxe i (by omega), hs1i] at q2
        by_cases hp0 : p = 0
        · exact Or.inl hp0
        · rw [hxe (p - 1) (by omega)] at q2
          exact q2
      · intro j e1 e2
        have := q3 j e1 e2
        rw [hxe i (by omega), hs1i, hxe j (by omega)] at this
        exact this
      · obtain ⟨p, st3, q1, q2, q3, hW3, rfl⟩ := hq
        have k3 : ∀ q, q ≠ w + 5 → xu f2 (w + 5) (xR 24 st3) q = f2 q := fun q hq => xu_n hq
        have nL3 : Nt (xu f2 (w + 5) (xR 24 st3)) (w + 11) (w + 12) (rdc L P) := nL2.kept (k3 _ (by omega)) (k3 _ (by omega))
        have nS3 : Nt (xu f2 (w + 5) (xR 24 st3)) (w + 13) (w + 14) (rdc (zs i L) P) := nS2.kept (k3 _ (by omega)) (k3 _ (by omega))
        have r1 : xu f2 (w + 5) (xR 24 st3) (w + 4) = some (xSc w c) := hW3.1
        have nP3 : Nt (xu f2 (w + 5) (xR 24 st3)) (w + 9) (w + 10) P := by obtain ⟨-, -, -, -, -, -, -, -, -, q, -⟩ := hW3; exact q
        generalize xu f2 (w + 5) (xR 24 st3) = f3 at hW3 nL3 nS3 r1 nP3 k3
        obtain ⟨-, _, _, _, _, rfS, -⟩ := id nS3
        have hbi := (ch_bd hL hper hpn (s := i) (by omega)).1
        have hzi := hszb i (by omega)
        refine xgo O Rt xplX3_q xclX3_q [37] 60 ?_
        simp (maxSteps := 10000000) (disch := omega) only [↓reduceIte, ↓xrun_s, ↓xck_e, xdo_e, xlg_0, xlg_c, xst1_0, xst1_1, xst1_c, xst2_0, xst2_1, xst2_c, xk2_n, xk2_i, xk2_a, xk2_l, xct_i, xct_a, xct_l, xf4_0, xf4_1, xf4_2, xf4_3, List.contains_cons, List.contains_nil, Bool.or_false, Bool.false_or, Bool.or_self, Bool.true_or, Bool.or_true, cond_true, cond_false, List.set_cons_zero, List.set_cons_succ, List.length_cons, List.length_nil, true_and, and_true, xu_s, xu_u, xeqs, Nat.le_refl, not_true_eq_false, xq_10, xq_01, Int32.reduceAdd, Int32.reduceMul, Int32.reduceSub, Int32.reduceLE, Int32.reduceLT, Int32.reduceToNatClampNeg, Nat.reduceAdd, Nat.reduceMul, Nat.reduceBEq, Nat.reduceLT, Nat.reduceLeDiff, Nat.reduceEqDiff, Nat.zero_add, Bool.false_eq_true, reduceCtorEq, if_false, if_true, not_false_eq_true, true_imp_iff, false_imp_iff, imp_self, ↓xil_e, ↓xll_e, ↓xal_e, ↓xs1i_e, ↓xs2i_e, ↓xs1l_e, ↓xs2l_e, ↓xsil_e, ↓xs1_e, ↓xs2_e, ↓xs1a_e, ↓xsia_e, ↓xsiia_e, ↓xslia_e, ↓xsaia_e, ↓xsva_e, ↓xse1i_e, ↓xse1l_e, ↓xse1a_e, ↓xse0_e, ↓xfv_0, ↓xfv_c, ↓xgf_e, ↓xpf_e, ↓xia_e, ↓xia_n, ↓xba_e, ↓xba_n, ↓xla_e, ↓xla_n, ↓xob_e, ↓xra_e, ↓xno_e, ↓xle_e, ↓xnr_i, ↓xnr_b0, ↓xnr_b1, ↓xnr_n, ↓xdo_e, ↓xkl_0, ↓xe_iconst, ↓xe_ineg, ↓xe_iload_n, ↓xe_aload_n, ↓xe_istore_n, ↓xe_iinc, ↓xe_goto, ↓xe_getfield, ↓xe_putfield, ↓xe_aaload, ↓xe_return_, ↓xe_if_ne, ↓xe_icmp_ge, ↓xe_invokevirtual, dX3_becomeChain_0, dX3_becomeChain_1, dX3_becomeChain_4, dX3_becomeChain_5, dX3_becomeChain_8, dX3_becomeChain_9, dX3_becomeChain_12, dX3_becomeChain_13, dX3_becomeChain_16, dX3_becomeChain_19, dX3_becomeChain_20, dX3_becomeChain_23, dX3_becomeChain_24, dX3_becomeChain_25, dX3_becomeChain_28, dX3_becomeChain_29, dX3_becomeChain_32, dX3_becomeChain_35, dX3_becomeChain_36, dX3_becomeChain_37, dX3_becomeChain_38, dX3_becomeChain_39, dX3_becomeChain_42, dX3_becomeChain_45, dX3_becomeChain_46, dX3_becomeChain_49, dX3_becomeChain_50, dX3_becomeChain_51, dX3_becomeChain_52, dX3_becomeChain_55, dX3_becomeChain_58, dX3_becomeChain_59, dX3_becomeChain_60, dX3_becomeChain_63, dX3_becomeChain_64, dX3_becomeChain_67, dX3_becomeChain_68, dX3_becomeChain_71, dX3_becomeChain_72, dX3_becomeChain_75, dX3_becomeChain_76, dX3_becomeChain_79, dX3_becomeChain_80, dX3_becomeChain_83, dX3_becomeChain_84, dX3_becomeChain_87, dX3_becomeChain_90, dX3_becomeChain_91, dX3_becomeChain_94, dX3_becomeChain_95, dX3_becomeChain_98, dX3_becomeChain_99, dX3_becomeChain_102, dX3_becomeChain_105, dX3_becomeChain_108, dX3_becomeChain_109, dX3_becomeChain_112, xpX3_11, xpX3_28, xpX3_32, xpX3_35, xpX3_38, xki_0, xki_1, xki_m1, r1, xft_3_7, xt_42_66, xtc_42_66, xt_87_15, xtc_87_15, xt_105_m68, xtc_105_m68]
        refine xg_callVv (Qp := fun f4 => (∀ q, q ≠ w + 13 → q ≠ w + 14 → f4 q = f3 q) ∧ Nt f4 (w + 13) (w + 14) (zadd (rdc (zs i L) P) (rdc L P) (1 : Int32).toInt)) O dX3_becomeChain_72 xl_X3_66 xk_X1_addTimes (c_addTimes _ nS3 nL3 (by omega) (by omega) (by omega) (by omega) (by rw [one]; omega) (by omega) (by rw [one]; omega) (hbi.1.mono (by omega)) (bLr.mono (by omega)) (fun f4 q1 q2 => ⟨rfl, ⟨q1, q2⟩, rfl⟩)) rfS rfl rfl rfl (Nat.le_of_ble_eq_true rfl) rfl (Nat.le_of_ble_eq_true rfl) (Nat.le_of_ble_eq_true rfl) (Nat.le_of_ble_eq_true rfl) (fun f4 hq => ?_)
        obtain ⟨k4, nS4⟩ := hq
        rw [one] at nS4
        have hW4 := hW3.sum' k4 nS4
        have nL4 : Nt f4 (w + 11) (w + 12) (rdc L P) := nL3.kept (k4 _ (by omega) (by omega)) (k4 _ (by omega) (by omega))
        have nP4 : Nt f4 (w + 9) (w + 10) P := nP3.kept (k4 _ (by omega) (by omega)) (k4 _ (by omega) (by omega))
        have t1 : f4 (w + 4) = some (xSc w c) := hW4.1
        obtain ⟨-, _, _, _, _, tfS, -⟩ := id nS4
        have eS4 : sz (zadd (rdc (zs i L) P) (rdc L P) 1) = sz (rdc (zs i L) P) + sz (rdc L P) := by rw [sz_zadd]; omega
        have eqi : sz (zs (i + 1) L) = sz (zs i L) + sz L := by
          rw [sz_zs, sz_zs, Int.natCast_add, Int.add_mul]; omega
        have ei := rdc_sz (x := zs i L) (P := P) (by omega)
        have ei1 := rdc_sz (x := zs (i + 1) L) (P := P) (by omega)
        have next : ∀ f5, (∀ q, q < w + 4 ∨ w + 111 ≤ q → f5 q = f q) → ScW f5 w c (ins ps' i p) (ins (va_up xs' i (rdc (zs i L) P)) i p) rs tk so P → Nt f5 (w + 11) (w + 12) (rdc L P) → Nt f5 (w + 13) (w + 14) (rdc (zs (i + 1) L) P) → xG X 37 [some (.ref (w + 4)), some (.int (nI c)), some (.int (nI (i + 1)))] [] f5 (z, 0, 0) := by
          intro f5 m1 m2 m3 m4
          refine ih (i + 1) (by omega) f5 _ _ (ins s1 i p) m1 m2 m3 m4 ?_ (fun j hj => ?_)
          · refine Srt_ins (hs.ext hs1 (fun _ _ => rfl)) hs1i q1 ?_ (fun j e1 e2 => ?_)
            · exact q2
            · exact q3 j e1 e2
          · have : ins (va_up xs' i (rdc (zs i L) P)) i p j = ins (fun q => rdc (zs (s1 q) L) P) i p j := by
              unfold ins
              by_cases e1 : j < p
              · rw [if_pos e1, if_pos e1]; exact hxe j (by omega)
              · rw [if_neg e1, if_neg e1]
                by_cases e2 : j = p
                · rw [if_pos e2, if_pos e2]; exact hxe i (by omega)
                · rw [if_neg e2, if_neg e2, if_pos (by omega), if_pos (by omega)]; exact hxe (j - 1) (by omega)
            rw [this]
            exact ins_map (fun q => rdc (zs q L) P) s1 i p j
        have kall : ∀ q, q < w + 4 ∨ w + 111 ≤ q → f4 q = f q := fun q hq => by
          rw [k4 q (by omega) (by omega), k3 q (by omega), k2 q (by omega) (by omega)]; exact k1 q hq
        refine xgo O Rt xplX3_q xclX3_q [37] 60 ?_
        simp (maxSteps := 10000000) (disch := omega) only [↓reduceIte, ↓xrun_s, ↓xck_e, xdo_e, xlg_0, xlg_c, xst1_0, xst1_1, xst1_c, xst2_0, xst2_1, xst2_c, xk2_n, xk2_i, xk2_a, xk2_l, xct_i, xct_a, xct_l, xf4_0, xf4_1, xf4_2, xf4_3, List.contains_cons, List.contains_nil, Bool.or_false, Bool.false_or, Bool.or_self, Bool.true_or, Bool.or_true, cond_true, cond_false, List.set_cons_zero, List.set_cons_succ, List.length_cons, List.length_nil, true_and, and_true, xu_s, xu_u, xeqs, Nat.le_refl, not_true_eq_false, xq_10, xq_01, Int32.reduceAdd, Int32.reduceMul, Int32.reduceSub, Int32.reduceLE, Int32.reduceLT, Int32.reduceToNatClampNeg, Nat.reduceAdd, Nat.reduceMul, Nat.reduceBEq, Nat.reduceLT, Nat.reduceLeDiff, Nat.reduceEqDiff, Nat.zero_add, Bool.false_eq_true, reduceCtorEq, if_false, if_true, not_false_eq_true, true_imp_iff, false_imp_iff, imp_self, ↓xil_e, ↓xll_e, ↓xal_e, ↓xs1i_e, ↓xs2i_e, ↓xs1l_e, ↓xs2l_e, ↓xsil_e, ↓xs1_e, ↓xs2_e, ↓xs1a_e, ↓xsia_e, ↓xsiia_e, ↓xslia_e, ↓xsaia_e, ↓xsva_e, ↓xse1i_e, ↓xse1l_e, ↓xse1a_e, ↓xse0_e, ↓xfv_0, ↓xfv_c, ↓xgf_e, ↓xpf_e, ↓xia_e, ↓xia_n, ↓xba_e, ↓xba_n, ↓xla_e, ↓xla_n, ↓xob_e, ↓xra_e, ↓xno_e, ↓xle_e, ↓xnr_i, ↓xnr_b0, ↓xnr_b1, ↓xnr_n, ↓xdo_e, ↓xkl_0, ↓xe_iconst, ↓xe_ineg, ↓xe_iload_n, ↓xe_aload_n, ↓xe_istore_n, ↓xe_iinc, ↓xe_goto, ↓xe_getfield, ↓xe_putfield, ↓xe_aaload, ↓xe_return_, ↓xe_if_ne, ↓xe_icmp_ge, ↓xe_invokevirtual, dX3_becomeChain_0, dX3_becomeChain_1, dX3_becomeChain_4, dX3_becomeChain_5, dX3_becomeChain_8, dX3_becomeChain_9, dX3_becomeChain_12, dX3_becomeChain_13, dX3_becomeChain_16, dX3_becomeChain_19, dX3_becomeChain_20, dX3_becomeChain_23, dX3_becomeChain_24, dX3_becomeChain_25, dX3_becomeChain_28, dX3_becomeChain_29, dX3_becomeChain_32, dX3_becomeChain_35, dX3_becomeChain_36, dX3_becomeChain_37, dX3_becomeChain_38, dX3_becomeChain_39, dX3_becomeChain_42, dX3_becomeChain_45, dX3_becomeChain_46, dX3_becomeChain_49, dX3_becomeChain_50, dX3_becomeChain_51, dX3_becomeChain_52, dX3_becomeChain_55, dX3_becomeChain_58, dX3_becomeChain_59, dX3_becomeChain_60, dX3_becomeChain_63, dX3_becomeChain_64, dX3_becomeChain_67, dX3_becomeChain_68, dX3_becomeChain_71, dX3_becomeChain_72, dX3_becomeChain_75, dX3_becomeChain_76, dX3_becomeChain_79, dX3_becomeChain_80, dX3_becomeChain_83, dX3_becomeChain_84, dX3_becomeChain_87, dX3_becomeChain_90, dX3_becomeChain_91, dX3_becomeChain_94, dX3_becomeChain_95, dX3_becomeChain_98, dX3_becomeChain_99, dX3_becomeChain_102, dX3_becomeChain_105, dX3_becomeChain_108, dX3_becomeChain_109, dX3_becomeChain_112, xpX3_11, xpX3_28, xpX3_32, xpX3_35, xpX3_38, xki_0, xki_1, xki_m1, t1, xft_3_7, xt_42_66, xtc_42_66, xt_87_15, xtc_87_15, xt_105_m68, xtc_105_m68]
        refine xg_callVi (Qp := fun r f5 => r = (if sz (zadd (rdc (zs i L) P) (rdc L P) 1) < (1 : Int32).toInt * sz P then 1 else 0) ∧ f5 = f4) O dX3_becomeChain_84 xl_X3_78 xk_X1_isBelow (c_isBelow _ nS4 nP4 (by rw [one]; omega) (by omega) (by rw [one]; omega) ⟨_, rfl, ⟨rfl, rfl⟩, rfl⟩) tfS rfl rfl rfl (Nat.le_of_ble_eq_true rfl) rfl (Nat.le_of_ble_eq_true rfl) (Nat.le_of_ble_eq_true rfl) (Nat.le_of_ble_eq_true rfl) (fun r f5 hq => ?_)
        obtain ⟨rfl, rfl⟩ := hq
        by_cases hb : sz (zadd (rdc (zs i L) P) (rdc L P) 1) < (1 : Int32).toInt * sz P
        · rw [if_pos hb]
          rw [one, Int.one_mul] at hb
          have hq1 : qd (zs (i + 1) L) P = qd (zs i L) P + qd L P := by
            have : sz (zs (i + 1) L) = (sz (rdc (zs i L) P) + sz (rdc L P)) + (qd (zs i L) P + qd L P) * sz P := by rw [eqi, Int.add_mul]; omega
            unfold qd at this ⊢
            rw [this, Int.add_mul_ediv_right _ _ (by omega), Int.ediv_eq_zero_of_lt (by omega) (by omega)]
            omega
          refine xgo O Rt xplX3_q xclX3_q [37] 60 ?_
          simp (maxSteps := 10000000) (disch := omega) only [↓reduceIte, ↓xrun_s, ↓xck_e, xdo_e, xlg_0, xlg_c, xst1_0, xst1_1, xst1_c, xst2_0, xst2_1, xst2_c, xk2_n, xk2_i, xk2_a, xk2_l, xct_i, xct_a, xct_l, xf4_0, xf4_1, xf4_2, xf4_3, List.contains_cons, List.contains_nil, Bool.or_false, Bool.false_or, Bool.or_self, Bool.true_or, Bool.or_true, cond_true, cond_false, List.set_cons_zero, List.set_cons_succ, List.length_cons, List.length_nil, true_and, and_true, xu_s, xu_u, xeqs, Nat.le_refl, not_true_eq_false, xq_10, xq_01, Int32.reduceAdd, Int32.reduceMul, Int32.reduceSub, Int32.reduceLE, Int32.reduceLT, Int32.reduceToNatClampNeg, Nat.reduceAdd, Nat.reduceMul, Nat.reduceBEq, Nat.reduceLT, Nat.reduceLeDiff, Nat.reduceEqDiff, Nat.zero_add, Bool.false_eq_true, reduceCtorEq, if_false, if_true, not_false_eq_true, true_imp_iff, false_imp_iff, imp_self, ↓xil_e, ↓xll_e, ↓xal_e, ↓xs1i_e, ↓xs2i_e, ↓xs1l_e, ↓xs2l_e, ↓xsil_e, ↓xs1_e, ↓xs2_e, ↓xs1a_e, ↓xsia_e, ↓xsiia_e, ↓xslia_e, ↓xsaia_e, ↓xsva_e, ↓xse1i_e, ↓xse1l_e, ↓xse1a_e, ↓xse0_e, ↓xfv_0, ↓xfv_c, ↓xgf_e, ↓xpf_e, ↓xia_e, ↓xia_n, ↓xba_e, ↓xba_n, ↓xla_e, ↓xla_n, ↓xob_e, ↓xra_e, ↓xno_e, ↓xle_e, ↓xnr_i, ↓xnr_b0, ↓xnr_b1, ↓xnr_n, ↓xdo_e, ↓xkl_0, ↓xe_iconst, ↓xe_ineg, ↓xe_iload_n, ↓xe_aload_n, ↓xe_istore_n, ↓xe_iinc, ↓xe_goto, ↓xe_getfield, ↓xe_putfield, ↓xe_aaload, ↓xe_return_, ↓xe_if_ne, ↓xe_icmp_ge, ↓xe_invokevirtual, dX3_becomeChain_0, dX3_becomeChain_1, dX3_becomeChain_4, dX3_becomeChain_5, dX3_becomeChain_8, dX3_becomeChain_9, dX3_becomeChain_12, dX3_becomeChain_13, dX3_becomeChain_16, dX3_becomeChain_19, dX3_becomeChain_20, dX3_becomeChain_23, dX3_becomeChain_24, dX3_becomeChain_25, dX3_becomeChain_28, dX3_becomeChain_29, dX3_becomeChain_32, dX3_becomeChain_35, dX3_becomeChain_36, dX3_becomeChain_37, dX3_becomeChain_38, dX3_becomeChain_39, dX3_becomeChain_42, dX3_becomeChain_45, dX3_becomeChain_46, dX3_becomeChain_49, dX3_becomeChain_50, dX3_becomeChain_51, dX3_becomeChain_52, dX3_becomeChain_55, dX3_becomeChain_58, dX3_becomeChain_59, dX3_becomeChain_60, dX3_becomeChain_63, dX3_becomeChain_64, dX3_becomeChain_67, dX3_becomeChain_68, dX3_becomeChain_71, dX3_becomeChain_72, dX3_becomeChain_75, dX3_becomeChain_76, dX3_becomeChain_79, dX3_becomeChain_80, dX3_becomeChain_83, dX3_becomeChain_84, dX3_becomeChain_87, dX3_becomeChain_90, dX3_becomeChain_91, dX3_becomeChain_94, dX3_becomeChain_95, dX3_becomeChain_98, dX3_becomeChain_99, dX3_becomeChain_102, dX3_becomeChain_105, dX3_becomeChain_108, dX3_becomeChain_109, dX3_becomeChain_112, xpX3_11, xpX3_28, xpX3_32, xpX3_35, xpX3_38, xki_0, xki_1, xki_m1, ni, xft_3_7, xt_42_66, xtc_42_66, xt_87_15, xtc_87_15, xt_105_m68, xtc_105_m68]
          refine next _ kall hW4 nL4 (nS4.ext (fun k hk => ?_))
          simp only [rdc, zadd, zs, hq1]
          rw [Int.natCast_add, Int.add_mul, Int.neg_add, Int.add_mul]
          omega
        · rw [if_neg hb]
          rw [one, Int.one_mul] at hb
          have hq1 : qd (zs (i + 1) L) P = qd (zs i L) P + qd L P + 1 := by
            have : sz (zs (i + 1) L) = (sz (rdc (zs i L) P) + sz (rdc L P) - sz P) + (qd (zs i L) P + qd L P + 1) * sz P := by rw [eqi, Int.add_mul, Int.add_mul]; omega
            unfold qd at this ⊢
            rw [this, Int.add_mul_ediv_right _ _ (by omega), Int.ediv_eq_zero_of_lt (by omega) (by omega)]
            omega
          have hbS4 : bd (zadd (rdc (zs i L) P) (rdc L P) 1) 2000 := fun k hk => by
            have a := hbi.1 k hk
            have b := bLr k hk
            simp only [zadd]
            omega
          refine xgo O Rt xplX3_q xclX3_q [37] 60 ?_
          simp (maxSteps := 10000000) (disch := omega) only [↓reduceIte, ↓xrun_s, ↓xck_e, xdo_e, xlg_0, xlg_c, xst1_0, xst1_1, xst1_c, xst2_0, xst2_1, xst2_c, xk2_n, xk2_i, xk2_a, xk2_l, xct_i, xct_a, xct_l, xf4_0, xf4_1, xf4_2, xf4_3, List.contains_cons, List.contains_nil, Bool.or_false, Bool.false_or, Bool.or_self, Bool.true_or, Bool.or_true, cond_true, cond_false, List.set_cons_zero, List.set_cons_succ, List.length_cons, List.length_nil, true_and, and_true, xu_s, xu_u, xeqs, Nat.le_refl, not_true_eq_false, xq_10, xq_01, Int32.reduceAdd, Int32.reduceMul, Int32.reduceSub, Int32.reduceLE, Int32.reduceLT, Int32.reduceToNatClampNeg, Nat.reduceAdd, Nat.reduceMul, Nat.reduceBEq, Nat.reduceLT, Nat.reduceLeDiff, Nat.reduceEqDiff, Nat.zero_add, Bool.false_eq_true, reduceCtorEq, if_false, if_true, not_false_eq_true, true_imp_iff, false_imp_iff, imp_self, ↓xil_e, ↓xll_e, ↓xal_e, ↓xs1i_e, ↓xs2i_e, ↓xs1l_e, ↓xs2l_e, ↓xsil_e, ↓xs1_e, ↓xs2_e, ↓xs1a_e, ↓xsia_e, ↓xsiia_e, ↓xslia_e, ↓xsaia_e, ↓xsva_e, ↓xse1i_e, ↓xse1l_e, ↓xse1a_e, ↓xse0_e, ↓xfv_0, ↓xfv_c, ↓xgf_e, ↓xpf_e, ↓xia_e, ↓xia_n, ↓xba_e, ↓xba_n, ↓xla_e, ↓xla_n, ↓xob_e, ↓xra_e, ↓xno_e, ↓xle_e, ↓xnr_i, ↓xnr_b0, ↓xnr_b1, ↓xnr_n, ↓xdo_e, ↓xkl_0, ↓xe_iconst, ↓xe_ineg, ↓xe_iload_n, ↓xe_aload_n, ↓xe_istore_n, ↓xe_iinc, ↓xe_goto, ↓xe_getfield, ↓xe_putfield, ↓xe_aaload, ↓xe_return_, ↓xe_if_ne, ↓xe_icmp_ge, ↓xe_invokevirtual, dX3_becomeChain_0, dX3_becomeChain_1, dX3_becomeChain_4, dX3_becomeChain_5, dX3_becomeChain_8, dX3_becomeChain_9, dX3_becomeChain_12, dX3_becomeChain_13, dX3_becomeChain_16, dX3_becomeChain_19, dX3_becomeChain_20, dX3_becomeChain_23, dX3_becomeChain_24, dX3_becomeChain_25, dX3_becomeChain_28, dX3_becomeChain_29, dX3_becomeChain_32, dX3_becomeChain_35, dX3_becomeChain_36, dX3_becomeChain_37, dX3_becomeChain_38, dX3_becomeChain_39, dX3_becomeChain_42, dX3_becomeChain_45, dX3_becomeChain_46, dX3_becomeChain_49, dX3_becomeChain_50, dX3_becomeChain_51, dX3_becomeChain_52, dX3_becomeChain_55, dX3_becomeChain_58, dX3_becomeChain_59, dX3_becomeChain_60, dX3_becomeChain_63, dX3_becomeChain_64, dX3_becomeChain_67, dX3_becomeChain_68, dX3_becomeChain_71, dX3_becomeChain_72, dX3_becomeChain_75, dX3_becomeChain_76, dX3_becomeChain_79, dX3_becomeChain_80, dX3_becomeChain_83, dX3_becomeChain_84, dX3_becomeChain_87, dX3_becomeChain_90, dX3_becomeChain_91, dX3_becomeChain_94, dX3_becomeChain_95, dX3_becomeChain_98, dX3_becomeChain_99, dX3_becomeChain_102, dX3_becomeChain_105, dX3_becomeChain_108, dX3_becomeChain_109, dX3_becomeChain_112, xpX3_11, xpX3_28, xpX3_32, xpX3_35, xpX3_38, xki_0, xki_1, xki_m1, t1, xft_3_7, xt_42_66, xtc_42_66, xt_87_15, xtc_87_15, xt_105_m68, xtc_105_m68]
          refine xg_callVv (Qp := fun f6 => (∀ q, q ≠ w + 13 → q ≠ w + 14 → f6 q = f5 q) ∧ Nt f6 (w + 13) (w + 14) (zadd (zadd (rdc (zs i L) P) (rdc L P) 1) P (-1 : Int32).toInt)) O dX3_becomeChain_99 xl_X3_66 xk_X1_addTimes (c_addTimes _ nS4 nP4 (by omega) (by omega) (by omega) (by omega) (by rw [mone]; omega) (by omega) (by rw [mone]; omega) (hbS4.mono (by omega)) (hbP.mono (by omega)) (fun f6 q1 q2 => ⟨rfl, ⟨q1, q2⟩, rfl⟩)) tfS rfl rfl rfl (Nat.le_of_ble_eq_true rfl) rfl (Nat.le_of_ble_eq_true rfl) (Nat.le_of_ble_eq_true rfl) (Nat.le_of_ble_eq_true rfl) (fun f6 hq => ?_)
          obtain ⟨k6, nS6⟩ := hq
          rw [mone] at nS6
          refine xgo O Rt xplX3_q xclX3_q [37] 60 ?_
          simp (maxSteps := 10000000) (disch := omega) only [↓reduceIte, ↓xrun_s, ↓xck_e, xdo_e, xlg_0, xlg_c, xst1_0, xst1_1, xst1_c, xst2_0, xst2_1, xst2_c, xk2_n, xk2_i, xk2_a, xk2_l, xct_i, xct_a, xct_l, xf4_0, xf4_1, xf4_2, xf4_3, List.contains_cons, List.contains_nil, Bool.or_false, Bool.false_or, Bool.or_self, Bool.true_or, Bool.or_true, cond_true, cond_false, List.set_cons_zero, List.set_cons_succ, List.length_cons, List.length_nil, true_and, and_true, xu_s, xu_u, xeqs, Nat.le_refl, not_true_eq_false, xq_10, xq_01, Int32.reduceAdd, Int32.reduceMul, Int32.reduceSub, Int32.reduceLE, Int32.reduceLT, Int32.reduceToNatClampNeg, Nat.reduceAdd, Nat.reduceMul, Nat.reduceBEq, Nat.reduceLT, Nat.reduceLeDiff, Nat.reduceEqDiff, Nat.zero_add, Bool.false_eq_true, reduceCtorEq, if_false, if_true, not_false_eq_true, true_imp_iff, false_imp_iff, imp_self, ↓xil_e, ↓xll_e, ↓xal_e, ↓xs1i_e, ↓xs2i_e, ↓xs1l_e, ↓xs2l_e, ↓xsil_e, ↓xs1_e, ↓xs2_e, ↓xs1a_e, ↓xsia_e, ↓xsiia_e, ↓xslia_e, ↓xsaia_e, ↓xsva_e, ↓xse1i_e, ↓xse1l_e, ↓xse1a_e, ↓xse0_e, ↓xfv_0, ↓xfv_c, ↓xgf_e, ↓xpf_e, ↓xia_e, ↓xia_n, ↓xba_e, ↓xba_n, ↓xla_e, ↓xla_n, ↓xob_e, ↓xra_e, ↓xno_e, ↓xle_e, ↓xnr_i, ↓xnr_b0, ↓xnr_b1, ↓xnr_n, ↓xdo_e, ↓xkl_0, ↓xe_iconst, ↓xe_ineg, ↓xe_iload_n, ↓xe_aload_n, ↓xe_istore_n, ↓xe_iinc, ↓xe_goto, ↓xe_getfield, ↓xe_putfield, ↓xe_aaload, ↓xe_return_, ↓xe_if_ne, ↓xe_icmp_ge, ↓xe_invokevirtual, dX3_becomeChain_0, dX3_becomeChain_1, dX3_becomeChain_4, dX3_becomeChain_5, dX3_becomeChain_8, dX3_becomeChain_9, dX3_becomeChain_12, dX3_becomeChain_13, dX3_becomeChain_16, dX3_becomeChain_19, dX3_becomeChain_20, dX3_becomeChain_23, dX3_becomeChain_24, dX3_becomeChain_25, dX3_becomeChain_28, dX3_becomeChain_29, dX3_becomeChain_32, dX3_becomeChain_35, dX3_becomeChain_36, dX3_becomeChain_37, dX3_becomeChain_38, dX3_becomeChain_39, dX3_becomeChain_42, dX3_becomeChain_45, dX3_becomeChain_46, dX3_becomeChain_49, dX3_becomeChain_50, dX3_becomeChain_51, dX3_becomeChain_52, dX3_becomeChain_55, dX3_becomeChain_58, dX3_becomeChain_59, dX3_becomeChain_60, dX3_becomeChain_63, dX3_becomeChain_64, dX3_becomeChain_67, dX3_becomeChain_68, dX3_becomeChain_71, dX3_becomeChain_72, dX3_becomeChain_75, dX3_becomeChain_76, dX3_becomeChain_79, dX3_becomeChain_80, dX3_becomeChain_83, dX3_becomeChain_84, dX3_becomeChain_87, dX3_becomeChain_90, dX3_becomeChain_91, dX3_becomeChain_94, dX3_becomeChain_95, dX3_becomeChain_98, dX3_becomeChain_99, dX3_becomeChain_102, dX3_becomeChain_105, dX3_becomeChain_108, dX3_becomeChain_109, dX3_becomeChain_112, xpX3_11, xpX3_28, xpX3_32, xpX3_35, xpX3_38, xki_0, xki_1, xki_m1, ni, xft_3_7, xt_42_66, xtc_42_66, xt_87_15, xtc_87_15, xt_105_m68, xtc_105_m68]
          refine next _ (fun q hq => ?_) (hW4.sum' k6 nS6) (nL4.kept (k6 _ (by omega) (by omega)) (k6 _ (by omega) (by omega))) (nS6.ext (fun k hk => ?_))
          · rw [k6 q (by omega) (by omega)]; exact kall q hq
          · simp only [rdc, zadd, zs, hq1]
            rw [Int.natCast_add, Int.add_mul, Int.neg_add, Int.neg_add, Int.add_mul, Int.add_mul]
            omega
  obtain ⟨h1, -, -, -, -, -, -, -, -, h10, -, sm, h12⟩ := id hW
  obtain ⟨-, _, _, _, _, hfL, -⟩ := id hL0
  have hqL : -700 ≤ qd L P ∧ qd L P ≤ 700 := by rw [← eqd]; exact hLr.2
  have htqL : tq (sz L) (sz P) = qd L P := by
    unfold tq
    rw [if_neg (by omega)]
    rfl
  refine xgo O Rt xplX3_q xclX3_q [37] 60 ?_
  simp (maxSteps := 10000000) (disch := omega) only [↓reduceIte, ↓xrun_s, ↓xck_e, xdo_e, xlg_0, xlg_c, xst1_0, xst1_1, xst1_c, xst2_0, xst2_1, xst2_c, xk2_n, xk2_i, xk2_a, xk2_l, xct_i, xct_a, xct_l, xf4_0, xf4_1, xf4_2, xf4_3, List.contains_cons, List.contains_nil, Bool.or_false, Bool.false_or, Bool.or_self, Bool.true_or, Bool.or_true, cond_true, cond_false, List.set_cons_zero, List.set_cons_succ, List.length_cons, List.length_nil, true_and, and_true, xu_s, xu_u, xeqs, Nat.le_refl, not_true_eq_false, xq_10, xq_01, Int32.reduceAdd, Int32.reduceMul, Int32.reduceSub, Int32.reduceLE, Int32.reduceLT, Int32.reduceToNatClampNeg, Nat.reduceAdd, Nat.reduceMul, Nat.reduceBEq, Nat.reduceLT, Nat.reduceLeDiff, Nat.reduceEqDiff, Nat.zero_add, Bool.false_eq_true, reduceCtorEq, if_false, if_true, not_false_eq_true, true_imp_iff, false_imp_iff, imp_self, ↓xil_e, ↓xll_e, ↓xal_e, ↓xs1i_e, ↓xs2i_e, ↓xs1l_e, ↓xs2l_e, ↓xsil_e, ↓xs1_e, ↓xs2_e, ↓xs1a_e, ↓xsia_e, ↓xsiia_e, ↓xslia_e, ↓xsaia_e, ↓xsva_e, ↓xse1i_e, ↓xse1l_e, ↓xse1a_e, ↓xse0_e, ↓xfv_0, ↓xfv_c, ↓xgf_e, ↓xpf_e, ↓xia_e, ↓xia_n, ↓xba_e, ↓xba_n, ↓xla_e, ↓xla_n, ↓xob_e, ↓xra_e, ↓xno_e, ↓xle_e, ↓xnr_i, ↓xnr_b0, ↓xnr_b1, ↓xnr_n, ↓xdo_e, ↓xkl_0, ↓xe_iconst, ↓xe_ineg, ↓xe_iload_n, ↓xe_aload_n, ↓xe_istore_n, ↓xe_iinc, ↓xe_goto, ↓xe_getfield, ↓xe_putfield, ↓xe_aaload, ↓xe_return_, ↓xe_if_ne, ↓xe_icmp_ge, ↓xe_invokevirtual, dX3_becomeChain_0, dX3_becomeChain_1, dX3_becomeChain_4, dX3_becomeChain_5, dX3_becomeChain_8, dX3_becomeChain_9, dX3_becomeChain_12, dX3_becomeChain_13, dX3_becomeChain_16, dX3_becomeChain_19, dX3_becomeChain_20, dX3_becomeChain_23, dX3_becomeChain_24, dX3_becomeChain_25, dX3_becomeChain_28, dX3_becomeChain_29, dX3_becomeChain_32, dX3_becomeChain_35, dX3_becomeChain_36, dX3_becomeChain_37, dX3_becomeChain_38, dX3_becomeChain_39, dX3_becomeChain_42, dX3_becomeChain_45, dX3_becomeChain_46, dX3_becomeChain_49, dX3_becomeChain_50, dX3_becomeChain_51, dX3_becomeChain_52, dX3_becomeChain_55, dX3_becomeChain_58, dX3_becomeChain_59, dX3_becomeChain_60, dX3_becomeChain_63, dX3_becomeChain_64, dX3_becomeChain_67, dX3_becomeChain_68, dX3_becomeChain_71, dX3_becomeChain_72, dX3_becomeChain_75, dX3_becomeChain_76, dX3_becomeChain_79, dX3_becomeChain_80, dX3_becomeChain_83, dX3_becomeChain_84, dX3_becomeChain_87, dX3_becomeChain_90, dX3_becomeChain_91, dX3_becomeChain_94, dX3_becomeChain_95, dX3_becomeChain_98, dX3_becomeChain_99, dX3_becomeChain_102, dX3_becomeChain_105, dX3_becomeChain_108, dX3_becomeChain_109, dX3_becomeChain_112, xpX3_11, xpX3_28, xpX3_32, xpX3_35, xpX3_38, xki_0, xki_1, xki_m1, h1, xft_3_7, xt_42_66, xtc_42_66, xt_87_15, xtc_87_15, xt_105_m68, xtc_105_m68]
  refine xg_callVi (Qp := fun r f2 => r.toInt = tq (sz L) (sz P) ∧ f2 = f) O dX3_becomeChain_16 xl_X3_62 xk_X1_timesOf (c_timesOf _ hL0 h10 (by omega) (by omega) (by omega) (fun r q => ⟨r, rfl, ⟨q, rfl⟩, rfl⟩)) hfL rfl rfl rfl (Nat.le_of_ble_eq_true rfl) rfl (Nat.le_of_ble_eq_true rfl) (Nat.le_of_ble_eq_true rfl) (Nat.le_of_ble_eq_true rfl) (fun r f1 hq => ?_)
  obtain ⟨hr, rfl⟩ := hq
  rw [htqL] at hr
  obtain ⟨t, et⟩ : ∃ t : Int32, t = -r := ⟨_, rfl⟩
  have ht : t.toInt = -(qd L P) := by rw [et, n_neg (by omega), hr]
  have hmb := mulb (a := t.toInt) (b := sz P) (A := 700) (B := sz P) (by omega) (by omega) (by omega) (by omega)
  refine xgo O Rt xplX3_q xclX3_q [37] 60 ?_
  simp (maxSteps := 10000000) (disch := omega) only [↓reduceIte, ↓xrun_s, ↓xck_e, xdo_e, xlg_0, xlg_c, xst1_0, xst1_1, xst1_c, xst2_0, xst2_1, xst2_c, xk2_n, xk2_i, xk2_a, xk2_l, xct_i, xct_a, xct_l, xf4_0, xf4_1, xf4_2, xf4_3, List.contains_cons, List.contains_nil, Bool.or_false, Bool.false_or, Bool.or_self, Bool.true_or, Bool.or_true, cond_true, cond_false, List.set_cons_zero, List.set_cons_succ, List.length_cons, List.length_nil, true_and, and_true, xu_s, xu_u, xeqs, Nat.le_refl, not_true_eq_false, xq_10, xq_01, Int32.reduceAdd, Int32.reduceMul, Int32.reduceSub, Int32.reduceLE, Int32.reduceLT, Int32.reduceToNatClampNeg, Nat.reduceAdd, Nat.reduceMul, Nat.reduceBEq, Nat.reduceLT, Nat.reduceLeDiff, Nat.reduceEqDiff, Nat.zero_add, Bool.false_eq_true, reduceCtorEq, if_false, if_true, not_false_eq_true, true_imp_iff, false_imp_iff, imp_self, ↓xil_e, ↓xll_e, ↓xal_e, ↓xs1i_e, ↓xs2i_e, ↓xs1l_e, ↓xs2l_e, ↓xsil_e, ↓xs1_e, ↓xs2_e, ↓xs1a_e, ↓xsia_e, ↓xsiia_e, ↓xslia_e, ↓xsaia_e, ↓xsva_e, ↓xse1i_e, ↓xse1l_e, ↓xse1a_e, ↓xse0_e, ↓xfv_0, ↓xfv_c, ↓xgf_e, ↓xpf_e, ↓xia_e, ↓xia_n, ↓xba_e, ↓xba_n, ↓xla_e, ↓xla_n, ↓xob_e, ↓xra_e, ↓xno_e, ↓xle_e, ↓xnr_i, ↓xnr_b0, ↓xnr_b1, ↓xnr_n, ↓xdo_e, ↓xkl_0, ↓xe_iconst, ↓xe_ineg, ↓xe_iload_n, ↓xe_aload_n, ↓xe_istore_n, ↓xe_iinc, ↓xe_goto, ↓xe_getfield, ↓xe_putfield, ↓xe_aaload, ↓xe_return_, ↓xe_if_ne, ↓xe_icmp_ge, ↓xe_invokevirtual, dX3_becomeChain_0, dX3_becomeChain_1, dX3_becomeChain_4, dX3_becomeChain_5, dX3_becomeChain_8, dX3_becomeChain_9, dX3_becomeChain_12, dX3_becomeChain_13, dX3_becomeChain_16, dX3_becomeChain_19, dX3_becomeChain_20, dX3_becomeChain_23, dX3_becomeChain_24, dX3_becomeChain_25, dX3_becomeChain_28, dX3_becomeChain_29, dX3_becomeChain_32, dX3_becomeChain_35, dX3_becomeChain_36, dX3_becomeChain_37, dX3_becomeChain_38, dX3_becomeChain_39, dX3_becomeChain_42, dX3_becomeChain_45, dX3_becomeChain_46, dX3_becomeChain_49, dX3_becomeChain_50, dX3_becomeChain_51, dX3_becomeChain_52, dX3_becomeChain_55, dX3_becomeChain_58, dX3_becomeChain_59, dX3_becomeChain_60, dX3_becomeChain_63, dX3_becomeChain_64, dX3_becomeChain_67, dX3_becomeChain_68, dX3_becomeChain_71, dX3_becomeChain_72, dX3_becomeChain_75, dX3_becomeChain_76, dX3_becomeChain_79, dX3_becomeChain_80, dX3_becomeChain_83, dX3_becomeChain_84, dX3_becomeChain_87, dX3_becomeChain_90, dX3_becomeChain_91, dX3_becomeChain_94, dX3_becomeChain_95, dX3_becomeChain_98, dX3_becomeChain_99, dX3_becomeChain_102, dX3_becomeChain_105, dX3_becomeChain_108, dX3_becomeChain_109, dX3_becomeChain_112, xpX3_11, xpX3_28, xpX3_32, xpX3_35, xpX3_38, xki_0, xki_1, xki_m1, xft_3_7, xt_42_66, xtc_42_66, xt_87_15, xtc_87_15, xt_105_m68, xtc_105_m68]
  rw [← et]
  refine xg_callVv (Qp := fun f2 => (∀ q, q ≠ w + 11 → q ≠ w + 12 → f2 q = f1 q) ∧ Nt f2 (w + 11) (w + 12) (zadd L P t.toInt)) O dX3_becomeChain_20 xl_X3_66 xk_X1_addTimes (c_addTimes _ hL0 h10 (by omega) (by omega) (by omega) (by omega) (by omega) (by omega) (by omega) (hL.mono (by omega)) (hbP.mono (by omega)) (fun f2 q1 q2 => ⟨rfl, ⟨q1, q2⟩, rfl⟩)) hfL rfl rfl rfl (Nat.le_of_ble_eq_true rfl) rfl (Nat.le_of_ble_eq_true rfl) (Nat.le_of_ble_eq_true rfl) (Nat.le_of_ble_eq_true rfl) (fun f2 hq => ?_)
  obtain ⟨k2, n2⟩ := hq
  rw [ht] at n2
  have n2 : Nt f2 (w + 11) (w + 12) (rdc L P) := n2
  have hW2 := hW.lnk' k2 n2
  have g1 : f2 (w + 4) = some (xSc w n) := hW2.1
  have hW3 := hW2.cnt' c
  have g2 : xu f2 (w + 4) (xSc w c) (w + 4) = some (xSc w c) := xu_s _ _ _
  have nS3 : Nt (xu f2 (w + 4) (xSc w c)) (w + 13) (w + 14) sm := (h12.kept (k2 _ (by omega) (by omega)) (k2 _ (by omega) (by omega))).kept (xu_n (by omega)) (xu_n (by omega))
  have nL3 : Nt (xu f2 (w + 4) (xSc w c)) (w + 11) (w + 12) (rdc L P) := n2.kept (xu_n (by omega)) (xu_n (by omega))
  obtain ⟨-, _, _, _, _, gfS, -⟩ := id nS3
  refine xgo O Rt xplX3_q xclX3_q [37] 60 ?_
  simp (maxSteps := 10000000) (disch := omega) only [↓reduceIte, ↓xrun_s, ↓xck_e, xdo_e, xlg_0, xlg_c, xst1_0, xst1_1, xst1_c, xst2_0, xst2_1, xst2_c, xk2_n, xk2_i, xk2_a, xk2_l, xct_i, xct_a, xct_l, xf4_0, xf4_1, xf4_2, xf4_3, List.contains_cons, List.contains_nil, Bool.or_false, Bool.false_or, Bool.or_self, Bool.true_or, Bool.or_true, cond_true, cond_false, List.set_cons_zero, List.set_cons_succ, List.length_cons, List.length_nil, true_and, and_true, xu_s, xu_u, xeqs, Nat.le_refl, not_true_eq_false, xq_10, xq_01, Int32.reduceAdd, Int32.reduceMul, Int32.reduceSub, Int32.reduceLE, Int32.reduceLT, Int32.reduceToNatClampNeg, Nat.reduceAdd, Nat.reduceMul, Nat.reduceBEq, Nat.reduceLT, Nat.reduceLeDiff, Nat.reduceEqDiff, Nat.zero_add, Bool.false_eq_true, reduceCtorEq, if_false, if_true, not_false_eq_true, true_imp_iff, false_imp_iff, imp_self, ↓xil_e, ↓xll_e, ↓xal_e, ↓xs1i_e, ↓xs2i_e, ↓xs1l_e, ↓xs2l_e, ↓xsil_e, ↓xs1_e, ↓xs2_e, ↓xs1a_e, ↓xsia_e, ↓xsiia_e, ↓xslia_e, ↓xsaia_e, ↓xsva_e, ↓xse1i_e, ↓xse1l_e, ↓xse1a_e, ↓xse0_e, ↓xfv_0, ↓xfv_c, ↓xgf_e, ↓xpf_e, ↓xia_e, ↓xia_n, ↓xba_e, ↓xba_n, ↓xla_e, ↓xla_n, ↓xob_e, ↓xra_e, ↓xno_e, ↓xle_e, ↓xnr_i, ↓xnr_b0, ↓xnr_b1, ↓xnr_n, ↓xdo_e, ↓xkl_0, ↓xe_iconst, ↓xe_ineg, ↓xe_iload_n, ↓xe_aload_n, ↓xe_istore_n, ↓xe_iinc, ↓xe_goto, ↓xe_getfield, ↓xe_putfield, ↓xe_aaload, ↓xe_return_, ↓xe_if_ne, ↓xe_icmp_ge, ↓xe_invokevirtual, dX3_becomeChain_0, dX3_becomeChain_1, dX3_becomeChain_4, dX3_becomeChain_5, dX3_becomeChain_8, dX3_becomeChain_9, dX3_becomeChain_12, dX3_becomeChain_13, dX3_becomeChain_16, dX3_becomeChain_19, dX3_becomeChain_20, dX3_becomeChain_23, dX3_becomeChain_24, dX3_becomeChain_25, dX3_becomeChain_28, dX3_becomeChain_29, dX3_becomeChain_32, dX3_becomeChain_35, dX3_becomeChain_36, dX3_becomeChain_37, dX3_becomeChain_38, dX3_becomeChain_39, dX3_becomeChain_42, dX3_becomeChain_45, dX3_becomeChain_46, dX3_becomeChain_49, dX3_becomeChain_50, dX3_becomeChain_51, dX3_becomeChain_52, dX3_becomeChain_55, dX3_becomeChain_58, dX3_becomeChain_59, dX3_becomeChain_60, dX3_becomeChain_63, dX3_becomeChain_64, dX3_becomeChain_67, dX3_becomeChain_68, dX3_becomeChain_71, dX3_becomeChain_72, dX3_becomeChain_75, dX3_becomeChain_76, dX3_becomeChain_79, dX3_becomeChain_80, dX3_becomeChain_83, dX3_becomeChain_84, dX3_becomeChain_87, dX3_becomeChain_90, dX3_becomeChain_91, dX3_becomeChain_94, dX3_becomeChain_95, dX3_becomeChain_98, dX3_becomeChain_99, dX3_becomeChain_102, dX3_becomeChain_105, dX3_becomeChain_108, dX3_becomeChain_109, dX3_becomeChain_112, xpX3_11, xpX3_28, xpX3_32, xpX3_35, xpX3_38, xki_0, xki_1, xki_m1, g1, xft_3_7, xt_42_66, xtc_42_66, xt_87_15, xtc_87_15, xt_105_m68, xtc_105_m68]
  refine xg_callVv (Qp := fun f4 => (∀ q, q ≠ w + 13 → q ≠ w + 14 → f4 q = xu f2 (w + 4) (xSc w c) q) ∧ Nt f4 (w + 13) (w + 14) (fun _ => 0)) O dX3_becomeChain_32 xl_X3_59 xk_X1_clear (c_clear _ nS3 (fun f4 q1 q2 => ⟨rfl, ⟨q1, q2⟩, rfl⟩)) gfS rfl rfl rfl (Nat.le_of_ble_eq_true rfl) rfl (Nat.le_of_ble_eq_true rfl) (Nat.le_of_ble_eq_true rfl) (Nat.le_of_ble_eq_true rfl) (fun f4 hq => ?_)
  obtain ⟨k4, n4⟩ := hq
  have hz0 : qd (zs 0 L) P = 0 := by
    unfold qd
    rw [sz_zs]
    simp
  refine xgo O Rt xplX3_q xclX3_q [37] 60 ?_
  simp (maxSteps := 10000000) (disch := omega) only [↓reduceIte, ↓xrun_s, ↓xck_e, xdo_e, xlg_0, xlg_c, xst1_0, xst1_1, xst1_c, xst2_0, xst2_1, xst2_c, xk2_n, xk2_i, xk2_a, xk2_l, xct_i, xct_a, xct_l, xf4_0, xf4_1, xf4_2, xf4_3, List.contains_cons, List.contains_nil, Bool.or_false, Bool.false_or, Bool.or_self, Bool.true_or, Bool.or_true, cond_true, cond_false, List.set_cons_zero, List.set_cons_succ, List.length_cons, List.length_nil, true_and, and_true, xu_s, xu_u, xeqs, Nat.le_refl, not_true_eq_false, xq_10, xq_01, Int32.reduceAdd, Int32.reduceMul, Int32.reduceSub, Int32.reduceLE, Int32.reduceLT, Int32.reduceToNatClampNeg, Nat.reduceAdd, Nat.reduceMul, Nat.reduceBEq, Nat.reduceLT, Nat.reduceLeDiff, Nat.reduceEqDiff, Nat.zero_add, Bool.false_eq_true, reduceCtorEq, if_false, if_true, not_false_eq_true, true_imp_iff, false_imp_iff, imp_self, ↓xil_e, ↓xll_e, ↓xal_e, ↓xs1i_e, ↓xs2i_e, ↓xs1l_e, ↓xs2l_e, ↓xsil_e, ↓xs1_e, ↓xs2_e, ↓xs1a_e, ↓xsia_e, ↓xsiia_e, ↓xslia_e, ↓xsaia_e, ↓xsva_e, ↓xse1i_e, ↓xse1l_e, ↓xse1a_e, ↓xse0_e, ↓xfv_0, ↓xfv_c, ↓xgf_e, ↓xpf_e, ↓xia_e, ↓xia_n, ↓xba_e, ↓xba_n, ↓xla_e, ↓xla_n, ↓xob_e, ↓xra_e, ↓xno_e, ↓xle_e, ↓xnr_i, ↓xnr_b0, ↓xnr_b1, ↓xnr_n, ↓xdo_e, ↓xkl_0, ↓xe_iconst, ↓xe_ineg, ↓xe_iload_n, ↓xe_aload_n, ↓xe_istore_n, ↓xe_iinc, ↓xe_goto, ↓xe_getfield, ↓xe_putfield, ↓xe_aaload, ↓xe_return_, ↓xe_if_ne, ↓xe_icmp_ge, ↓xe_invokevirtual, dX3_becomeChain_0, dX3_becomeChain_1, dX3_becomeChain_4, dX3_becomeChain_5, dX3_becomeChain_8, dX3_becomeChain_9, dX3_becomeChain_12, dX3_becomeChain_13, dX3_becomeChain_16, dX3_becomeChain_19, dX3_becomeChain_20, dX3_becomeChain_23, dX3_becomeChain_24, dX3_becomeChain_25, dX3_becomeChain_28, dX3_becomeChain_29, dX3_becomeChain_32, dX3_becomeChain_35, dX3_becomeChain_36, dX3_becomeChain_37, dX3_becomeChain_38, dX3_becomeChain_39, dX3_becomeChain_42, dX3_becomeChain_45, dX3_becomeChain_46, dX3_becomeChain_49, dX3_becomeChain_50, dX3_becomeChain_51, dX3_becomeChain_52, dX3_becomeChain_55, dX3_becomeChain_58, dX3_becomeChain_59, dX3_becomeChain_60, dX3_becomeChain_63, dX3_becomeChain_64, dX3_becomeChain_67, dX3_becomeChain_68, dX3_becomeChain_71, dX3_becomeChain_72, dX3_becomeChain_75, dX3_becomeChain_76, dX3_becomeChain_79, dX3_becomeChain_80, dX3_becomeChain_83, dX3_becomeChain_84, dX3_becomeChain_87, dX3_becomeChain_90, dX3_becomeChain_91, dX3_becomeChain_94, dX3_becomeChain_95, dX3_becomeChain_98, dX3_becomeChain_99, dX3_becomeChain_102, dX3_becomeChain_105, dX3_becomeChain_108, dX3_becomeChain_109, dX3_becomeChain_112, xpX3_11, xpX3_28, xpX3_32, xpX3_35, xpX3_38, xki_0, xki_1, xki_m1, xft_3_7, xt_42_66, xtc_42_66, xt_87_15, xtc_87_15, xt_105_m68, xtc_105_m68]
  refine loop c 0 (by omega) f4 ps xs (fun j => j) (fun q hq => ?_) (hW3.sum' k4 n4) (nL3.kept (k4 _ (by omega) (by omega)) (k4 _ (by omega) (by omega))) (n4.ext (fun k hk => ?_)) ⟨fun i hi => absurd hi (by omega), fun i j _ hj => absurd hj (by omega)⟩ (fun j hj => absurd hj (by omega))
  · rw [k4 q (by omega) (by omega), xu_n (by omega), k2 q (by omega) (by omega)]
  · simp [rdc, zadd, zs, hz0]
