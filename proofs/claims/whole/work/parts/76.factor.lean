/-! ===== TuningTablesModel: factor, whole ===== -/
theorem dX6_factor_0 : decode cX6_factor 0 = .ok (.aload_n 0, 1) := by decide +kernel
theorem dX6_factor_1 : decode cX6_factor 1 = .ok (.getfield 132, 3) := by decide +kernel
theorem dX6_factor_4 : decode cX6_factor 4 = .ok (.istore_n 2, 1) := by decide +kernel
theorem dX6_factor_5 : decode cX6_factor 5 = .ok (.iload_n 2, 1) := by decide +kernel
theorem dX6_factor_6 : decode cX6_factor 6 = .ok (.ifCond .ne 13, 3) := by decide +kernel
theorem dX6_factor_9 : decode cX6_factor 9 = .ok (.aload_n 0, 1) := by decide +kernel
theorem dX6_factor_10 : decode cX6_factor 10 = .ok (.iconst 3, 1) := by decide +kernel
theorem dX6_factor_11 : decode cX6_factor 11 = .ok (.aload_n 0, 1) := by decide +kernel
theorem dX6_factor_12 : decode cX6_factor 12 = .ok (.getfield 126, 3) := by decide +kernel
theorem dX6_factor_15 : decode cX6_factor 15 = .ok (.invokevirtual 135, 3) := by decide +kernel
theorem dX6_factor_18 : decode cX6_factor 18 = .ok (.return_, 1) := by decide +kernel
theorem dX6_factor_19 : decode cX6_factor 19 = .ok (.iconst 0, 1) := by decide +kernel
theorem dX6_factor_20 : decode cX6_factor 20 = .ok (.istore_n 3, 1) := by decide +kernel
theorem dX6_factor_21 : decode cX6_factor 21 = .ok (.iload_n 3, 1) := by decide +kernel
theorem dX6_factor_22 : decode cX6_factor 22 = .ok (.bipush 6, 2) := by decide +kernel
theorem dX6_factor_24 : decode cX6_factor 24 = .ok (.if_icmp .ge 50, 3) := by decide +kernel
theorem dX6_factor_27 : decode cX6_factor 27 = .ok (.iload_n 2, 1) := by decide +kernel
theorem dX6_factor_28 : decode cX6_factor 28 = .ok (.aload_n 0, 1) := by decide +kernel
theorem dX6_factor_29 : decode cX6_factor 29 = .ok (.getfield 7, 3) := by decide +kernel
theorem dX6_factor_32 : decode cX6_factor 32 = .ok (.iload_n 3, 1) := by decide +kernel
theorem dX6_factor_33 : decode cX6_factor 33 = .ok (.iaload, 1) := by decide +kernel
theorem dX6_factor_34 : decode cX6_factor 34 = .ok (.irem, 1) := by decide +kernel
theorem dX6_factor_35 : decode cX6_factor 35 = .ok (.ifCond .ne 33, 3) := by decide +kernel
theorem dX6_factor_38 : decode cX6_factor 38 = .ok (.iload_n 2, 1) := by decide +kernel
theorem dX6_factor_39 : decode cX6_factor 39 = .ok (.aload_n 0, 1) := by decide +kernel
theorem dX6_factor_40 : decode cX6_factor 40 = .ok (.getfield 7, 3) := by decide +kernel
theorem dX6_factor_43 : decode cX6_factor 43 = .ok (.iload_n 3, 1) := by decide +kernel
theorem dX6_factor_44 : decode cX6_factor 44 = .ok (.iaload, 1) := by decide +kernel
theorem dX6_factor_45 : decode cX6_factor 45 = .ok (.idiv, 1) := by decide +kernel
theorem dX6_factor_46 : decode cX6_factor 46 = .ok (.istore_n 2, 1) := by decide +kernel
theorem dX6_factor_47 : decode cX6_factor 47 = .ok (.aload_n 0, 1) := by decide +kernel
theorem dX6_factor_48 : decode cX6_factor 48 = .ok (.getfield 55, 3) := by decide +kernel
theorem dX6_factor_51 : decode cX6_factor 51 = .ok (.bipush 6, 2) := by decide +kernel
theorem dX6_factor_53 : decode cX6_factor 53 = .ok (.aload_n 0, 1) := by decide +kernel
theorem dX6_factor_54 : decode cX6_factor 54 = .ok (.getfield 139, 3) := by decide +kernel
theorem dX6_factor_57 : decode cX6_factor 57 = .ok (.imul, 1) := by decide +kernel
theorem dX6_factor_58 : decode cX6_factor 58 = .ok (.iload_n 3, 1) := by decide +kernel
theorem dX6_factor_59 : decode cX6_factor 59 = .ok (.iadd, 1) := by decide +kernel
theorem dX6_factor_60 : decode cX6_factor 60 = .ok (.dup2, 1) := by decide +kernel
theorem dX6_factor_61 : decode cX6_factor 61 = .ok (.iaload, 1) := by decide +kernel
theorem dX6_factor_62 : decode cX6_factor 62 = .ok (.iload_n 1, 1) := by decide +kernel
theorem dX6_factor_63 : decode cX6_factor 63 = .ok (.iadd, 1) := by decide +kernel
theorem dX6_factor_64 : decode cX6_factor 64 = .ok (.iastore, 1) := by decide +kernel
theorem dX6_factor_65 : decode cX6_factor 65 = .ok (.goto (-38), 3) := by decide +kernel
theorem dX6_factor_68 : decode cX6_factor 68 = .ok (.iinc 3 1, 3) := by decide +kernel
theorem dX6_factor_71 : decode cX6_factor 71 = .ok (.goto (-50), 3) := by decide +kernel
theorem dX6_factor_74 : decode cX6_factor 74 = .ok (.iload_n 2, 1) := by decide +kernel
theorem dX6_factor_75 : decode cX6_factor 75 = .ok (.iconst 1, 1) := by decide +kernel
theorem dX6_factor_76 : decode cX6_factor 76 = .ok (.if_icmp .eq 12, 3) := by decide +kernel
theorem dX6_factor_79 : decode cX6_factor 79 = .ok (.aload_n 0, 1) := by decide +kernel
theorem dX6_factor_80 : decode cX6_factor 80 = .ok (.iconst 3, 1) := by decide +kernel
theorem dX6_factor_81 : decode cX6_factor 81 = .ok (.aload_n 0, 1) := by decide +kernel
theorem dX6_factor_82 : decode cX6_factor 82 = .ok (.getfield 126, 3) := by decide +kernel
theorem dX6_factor_85 : decode cX6_factor 85 = .ok (.invokevirtual 135, 3) := by decide +kernel
theorem dX6_factor_88 : decode cX6_factor 88 = .ok (.return_, 1) := by decide +kernel
theorem dX6_whole_0 : decode cX6_whole 0 = .ok (.iconst 1, 1) := by decide +kernel
theorem dX6_whole_1 : decode cX6_whole 1 = .ok (.istore_n 2, 1) := by decide +kernel
theorem dX6_whole_2 : decode cX6_whole 2 = .ok (.iconst 0, 1) := by decide +kernel
theorem dX6_whole_3 : decode cX6_whole 3 = .ok (.istore_n 3, 1) := by decide +kernel
theorem dX6_whole_4 : decode cX6_whole 4 = .ok (.iload_n 3, 1) := by decide +kernel
theorem dX6_whole_5 : decode cX6_whole 5 = .ok (.bipush 6, 2) := by decide +kernel
theorem dX6_whole_7 : decode cX6_whole 7 = .ok (.if_icmp .ge 75, 3) := by decide +kernel
theorem dX6_whole_10 : decode cX6_whole 10 = .ok (.aload_n 0, 1) := by decide +kernel
theorem dX6_whole_11 : decode cX6_whole 11 = .ok (.getfield 55, 3) := by decide +kernel
theorem dX6_whole_14 : decode cX6_whole 14 = .ok (.bipush 6, 2) := by decide +kernel
theorem dX6_whole_16 : decode cX6_whole 16 = .ok (.iload_n 1, 1) := by decide +kernel
theorem dX6_whole_17 : decode cX6_whole 17 = .ok (.imul, 1) := by decide +kernel
theorem dX6_whole_18 : decode cX6_whole 18 = .ok (.iload_n 3, 1) := by decide +kernel
theorem dX6_whole_19 : decode cX6_whole 19 = .ok (.iadd, 1) := by decide +kernel
theorem dX6_whole_20 : decode cX6_whole 20 = .ok (.iaload, 1) := by decide +kernel
theorem dX6_whole_21 : decode cX6_whole 21 = .ok (.istore 4, 2) := by decide +kernel
theorem dX6_whole_23 : decode cX6_whole 23 = .ok (.iload 4, 2) := by decide +kernel
theorem dX6_whole_25 : decode cX6_whole 25 = .ok (.ifCond .ge 5, 3) := by decide +kernel
theorem dX6_whole_28 : decode cX6_whole 28 = .ok (.iconst 0, 1) := by decide +kernel
theorem dX6_whole_29 : decode cX6_whole 29 = .ok (.ireturn, 1) := by decide +kernel
theorem dX6_whole_30 : decode cX6_whole 30 = .ok (.iconst 0, 1) := by decide +kernel
theorem dX6_whole_31 : decode cX6_whole 31 = .ok (.istore 5, 2) := by decide +kernel
theorem dX6_whole_33 : decode cX6_whole 33 = .ok (.iload 5, 2) := by decide +kernel
theorem dX6_whole_35 : decode cX6_whole 35 = .ok (.iload 4, 2) := by decide +kernel
theorem dX6_whole_37 : decode cX6_whole 37 = .ok (.if_icmp .ge 39, 3) := by decide +kernel
theorem dX6_whole_40 : decode cX6_whole 40 = .ok (.iload_n 2, 1) := by decide +kernel
theorem dX6_whole_41 : decode cX6_whole 41 = .ok (.ifCond .le 35, 3) := by decide +kernel
theorem dX6_whole_44 : decode cX6_whole 44 = .ok (.iload_n 2, 1) := by decide +kernel
theorem dX6_whole_45 : decode cX6_whole 45 = .ok (.aload_n 0, 1) := by decide +kernel
theorem dX6_whole_46 : decode cX6_whole 46 = .ok (.getfield 7, 3) := by decide +kernel
theorem dX6_whole_49 : decode cX6_whole 49 = .ok (.iload_n 3, 1) := by decide +kernel
theorem dX6_whole_50 : decode cX6_whole 50 = .ok (.iaload, 1) := by decide +kernel
theorem dX6_whole_51 : decode cX6_whole 51 = .ok (.imul, 1) := by decide +kernel
theorem dX6_whole_52 : decode cX6_whole 52 = .ok (.bipush 13, 2) := by decide +kernel
theorem dX6_whole_54 : decode cX6_whole 54 = .ok (.if_icmp .le 7, 3) := by decide +kernel
theorem dX6_whole_57 : decode cX6_whole 57 = .ok (.iconst 0, 1) := by decide +kernel
theorem dX6_whole_58 : decode cX6_whole 58 = .ok (.goto 11, 3) := by decide +kernel
theorem dX6_whole_61 : decode cX6_whole 61 = .ok (.iload_n 2, 1) := by decide +kernel
theorem dX6_whole_62 : decode cX6_whole 62 = .ok (.aload_n 0, 1) := by decide +kernel
theorem dX6_whole_63 : decode cX6_whole 63 = .ok (.getfield 7, 3) := by decide +kernel
theorem dX6_whole_66 : decode cX6_whole 66 = .ok (.iload_n 3, 1) := by decide +kernel
theorem dX6_whole_67 : decode cX6_whole 67 = .ok (.iaload, 1) := by decide +kernel
theorem dX6_whole_68 : decode cX6_whole 68 = .ok (.imul, 1) := by decide +kernel
theorem dX6_whole_69 : decode cX6_whole 69 = .ok (.istore_n 2, 1) := by decide +kernel
theorem dX6_whole_70 : decode cX6_whole 70 = .ok (.iinc 5 1, 3) := by decide +kernel
theorem dX6_whole_73 : decode cX6_whole 73 = .ok (.goto (-40), 3) := by decide +kernel
theorem dX6_whole_76 : decode cX6_whole 76 = .ok (.iinc 3 1, 3) := by decide +kernel
theorem dX6_whole_79 : decode cX6_whole 79 = .ok (.goto (-75), 3) := by decide +kernel
theorem dX6_whole_82 : decode cX6_whole 82 = .ok (.iload_n 2, 1) := by decide +kernel
theorem dX6_whole_83 : decode cX6_whole 83 = .ok (.ireturn, 1) := by decide +kernel
theorem pw2 {R p j : Nat} (hp : 2 ≤ p) (h : R * 2 ^ j ≤ 999999) (hm : R % p = 0) : R / p * 2 ^ (j + 1) ≤ 999999 := by
  have h1 := Nat.div_add_mod R p
  rw [hm, Nat.add_zero] at h1
  have h2 : R / p * 2 ≤ R := by
    rw [Nat.mul_comm]
    exact Nat.le_trans (Nat.mul_le_mul_right _ hp) (Nat.le_of_eq h1)
  rw [Nat.pow_succ', ← Nat.mul_assoc]
  exact Nat.le_trans (Nat.mul_le_mul_right _ h2) h
set_option maxRecDepth 100000 in
set_option maxHeartbeats 8000000 in
theorem c6_factor (V : xV) {v z c vv b : Nat} {f : xH} {s i3 i4 i5 i14 i15 i19 i22 : Int32} {pt : Nat → xZ} {post : Option Value → xH → Nat → Prop} (h6 : f v = some (x6 v i3 i4 i5 i14 i15 (nI b) (nI vv) 0 i19 (nI c) i22)) (hC : RfC f v) (hF : Rws f (v + 11) (c + 1) pt) (hc : c < 24) (hv : vv ≤ 999999) (hs : s.toInt = 1 ∨ s.toInt = -1) (hb : bd (pt c) 100)
    (hp1 : ∀ f', rst vv 6 = 1 → (∀ q, q ≠ v + 11 → f' q = f q) → Rws f' (v + 11) (c + 1) (mulP pt c vv s.toInt) → post none f' z)
    (hp0 : ∀ f', rst vv 6 ≠ 1 → (∀ q, q ≠ v → q ≠ v + 11 → f' q = f q) → f' v = some (x6 v i3 i4 i5 i14 i15 (nI b) (nI vv) 3 (nI b) (nI c) i22) → I6 f' (v + 11) 150 → post none f' z) :
    xMet V yX6_factor cX6_factor 4 none 2 0 0 [.ref v, .int s] f z post := by
  refine xMet_of false (by decide) (Nat.le_of_ble_eq_true rfl) (fun h => by cases h) (fun X hX O Rt => ?_)
  have O : xO X cX6_factor 4 RX6 2 0 0 false := O
  show xG X 0 [some (.ref v), some (.int s), none, none] [] f (z, 0, 0)
  obtain ⟨⟨pr, hpr1, hpr2⟩, -⟩ := id hC
  obtain ⟨g, hg, hpt⟩ := hF
  have six : (6 : Int32).toInt = 6 := rfl
  have e1 : (1 : Int32) = nI 1 := rfl
  by_cases hv0 : vv = 0
  · have hz : (nI vv = 0) = True := eq_true (by rw [hv0]; rfl)
    have r0 : rst 0 6 = 0 := by decide
    refine xgo O Rt xplX6_q xclX6_q [21, 27] 60 ?_
    simp (maxSteps := 10000000) (disch := omega) only [↓reduceIte, ↓xrun_s, ↓xck_e, xdo_e, xlg_0, xlg_c, xst1_0, xst1_1, xst1_c, xst2_0, xst2_1, xst2_c, xk2_n, xk2_i, xk2_a, xk2_l, xct_i, xct_a, xct_l, xf4_0, xf4_1, xf4_2, xf4_3, List.contains_cons, List.contains_nil, Bool.or_false, Bool.false_or, Bool.or_self, Bool.true_or, Bool.or_true, cond_true, cond_false, List.set_cons_zero, List.set_cons_succ, List.length_cons, List.length_nil, true_and, and_true, xu_s, xu_u, xeqs, Nat.le_refl, not_true_eq_false, xq_10, xq_01, Int32.reduceAdd, Int32.reduceMul, Int32.reduceSub, Int32.reduceLE, Int32.reduceLT, Int32.reduceToNatClampNeg, Nat.reduceAdd, Nat.reduceMul, Nat.reduceBEq, Nat.reduceLT, Nat.reduceLeDiff, Nat.reduceEqDiff, Nat.zero_add, Bool.false_eq_true, reduceCtorEq, if_false, if_true, not_false_eq_true, true_imp_iff, false_imp_iff, imp_self, ↓xil_e, ↓xll_e, ↓xal_e, ↓xs1i_e, ↓xs2i_e, ↓xs1l_e, ↓xs2l_e, ↓xsil_e, ↓xs1_e, ↓xs2_e, ↓xs1a_e, ↓xsia_e, ↓xsiia_e, ↓xslia_e, ↓xsaia_e, ↓xsva_e, ↓xse1i_e, ↓xse1l_e, ↓xse1a_e, ↓xse0_e, ↓xfv_0, ↓xfv_c, ↓xgf_e, ↓xpf_e, ↓xia_e, ↓xia_n, ↓xba_e, ↓xba_n, ↓xla_e, ↓xla_n, ↓xob_e, ↓xra_e, ↓xno_e, ↓xle_e, ↓xnr_i, ↓xnr_b0, ↓xnr_b1, ↓xnr_n, ↓xdo_e, ↓xkl_0, ↓xe_iconst, ↓xe_bipush, ↓xe_iadd, ↓xe_imul, ↓xe_idiv, ↓xe_irem, ↓xe_dup2, ↓xe_iload_n, ↓xe_aload_n, ↓xe_istore_n, ↓xe_iinc, ↓xe_goto, ↓xe_getfield, ↓xe_iaload, ↓xe_iastore, ↓xe_return_, ↓xe_icmp_eq, ↓xe_if_ne, ↓xe_icmp_ge, ↓xe_invokevirtual, dX6_factor_0, dX6_factor_1, dX6_factor_4, dX6_factor_5, dX6_factor_6, dX6_factor_9, dX6_factor_10, dX6_factor_11, dX6_factor_12, dX6_factor_15, dX6_factor_18, dX6_factor_19, dX6_factor_20, dX6_factor_21, dX6_factor_22, dX6_factor_24, dX6_factor_27, dX6_factor_28, dX6_factor_29, dX6_factor_32, dX6_factor_33, dX6_factor_34, dX6_factor_35, dX6_factor_38, dX6_factor_39, dX6_factor_40, dX6_factor_43, dX6_factor_44, dX6_factor_45, dX6_factor_46, dX6_factor_47, dX6_factor_48, dX6_factor_51, dX6_factor_53, dX6_factor_54, dX6_factor_57, dX6_factor_58, dX6_factor_59, dX6_factor_60, dX6_factor_61, dX6_factor_62, dX6_factor_63, dX6_factor_64, dX6_factor_65, dX6_factor_68, dX6_factor_71, dX6_factor_74, dX6_factor_75, dX6_factor_76, dX6_factor_79, dX6_factor_80, dX6_factor_81, dX6_factor_82, dX6_factor_85, dX6_factor_88, xpX6_7, xpX6_55, xpX6_126, xpX6_132, xpX6_139, xkb_6, xki_0, xki_1, xki_3, h6, hz, xt_6_13, xtc_6_13, xt_24_50, xtc_24_50, xt_35_33, xtc_35_33, xt_65_m38, xtc_65_m38, xt_71_m50, xtc_71_m50, xt_76_12, xtc_76_12]
    refine xg_callVv (Qp := fun f' => f' = xu f v (x6 v i3 i4 i5 i14 i15 (nI b) (nI vv) 3 (nI b) (nI c) i22)) O dX6_factor_15 xl_X6_135 xk_X6_fails (c6_fails _ h6 ⟨rfl, rfl, rfl⟩) h6 rfl rfl rfl (Nat.le_of_ble_eq_true rfl) rfl (Nat.le_of_ble_eq_true rfl) (Nat.le_of_ble_eq_true rfl) (Nat.le_of_ble_eq_true rfl) (fun f1 hq => ?_)
    subst hq
    refine xgo O Rt xplX6_q xclX6_q [21, 27] 60 ?_
    simp (maxSteps := 10000000) (disch := omega) only [↓reduceIte, ↓xrun_s, ↓xck_e, xdo_e, xlg_0, xlg_c, xst1_0, xst1_1, xst1_c, xst2_0, xst2_1, xst2_c, xk2_n, xk2_i, xk2_a, xk2_l, xct_i, xct_a, xct_l, xf4_0, xf4_1, xf4_2, xf4_3, List.contains_cons, List.contains_nil, Bool.or_false, Bool.false_or, Bool.or_self, Bool.true_or, Bool.or_true, cond_true, cond_false, List.set_cons_zero, List.set_cons_succ, List.length_cons, List.length_nil, true_and, and_true, xu_s, xu_u, xeqs, Nat.le_refl, not_true_eq_false, xq_10, xq_01, Int32.reduceAdd, Int32.reduceMul, Int32.reduceSub, Int32.reduceLE, Int32.reduceLT, Int32.reduceToNatClampNeg, Nat.reduceAdd, Nat.reduceMul, Nat.reduceBEq, Nat.reduceLT, Nat.reduceLeDiff, Nat.reduceEqDiff, Nat.zero_add, Bool.false_eq_true, reduceCtorEq, if_false, if_true, not_false_eq_true, true_imp_iff, false_imp_iff, imp_self, ↓xil_e, ↓xll_e, ↓xal_e, ↓xs1i_e, ↓xs2i_e, ↓xs1l_e, ↓xs2l_e, ↓xsil_e, ↓xs1_e, ↓xs2_e, ↓xs1a_e, ↓xsia_e, ↓xsiia_e, ↓xslia_e, ↓xsaia_e, ↓xsva_e, ↓xse1i_e, ↓xse1l_e, ↓xse1a_e, ↓xse0_e, ↓xfv_0, ↓xfv_c, ↓xgf_e, ↓xpf_e, ↓xia_e, ↓xia_n, ↓xba_e, ↓xba_n, ↓xla_e, ↓xla_n, ↓xob_e, ↓xra_e, ↓xno_e, ↓xle_e, ↓xnr_i, ↓xnr_b0, ↓xnr_b1, ↓xnr_n, ↓xdo_e, ↓xkl_0, ↓xe_iconst, ↓xe_bipush, ↓xe_iadd, ↓xe_imul, ↓xe_idiv, ↓xe_irem, ↓xe_dup2, ↓xe_iload_n, ↓xe_aload_n, ↓xe_istore_n, ↓xe_iinc, ↓xe_goto, ↓xe_getfield, ↓xe_iaload, ↓xe_iastore, ↓xe_return_, ↓xe_icmp_eq, ↓xe_if_ne, ↓xe_icmp_ge, ↓xe_invokevirtual, dX6_factor_0, dX6_factor_1, dX6_factor_4, dX6_factor_5, dX6_factor_6, dX6_factor_9, dX6_factor_10, dX6_factor_11, dX6_factor_12, dX6_factor_15, dX6_factor_18, dX6_factor_19, dX6_factor_20, dX6_factor_21, dX6_factor_22, dX6_factor_24, dX6_factor_27, dX6_factor_28, dX6_factor_29, dX6_factor_32, dX6_factor_33, dX6_factor_34, dX6_factor_35, dX6_factor_38, dX6_factor_39, dX6_factor_40, dX6_factor_43, dX6_factor_44, dX6_factor_45, dX6_factor_46, dX6_factor_47, dX6_factor_48, dX6_factor_51, dX6_factor_53, dX6_factor_54, dX6_factor_57, dX6_factor_58, dX6_factor_59, dX6_factor_60, dX6_factor_61, dX6_factor_62, dX6_factor_63, dX6_factor_64, dX6_factor_65, dX6_factor_68, dX6_factor_71, dX6_factor_74, dX6_factor_75, dX6_factor_76, dX6_factor_79, dX6_factor_80, dX6_factor_81, dX6_factor_82, dX6_factor_85, dX6_factor_88, xpX6_7, xpX6_55, xpX6_126, xpX6_132, xpX6_139, xkb_6, xki_0, xki_1, xki_3, xt_6_13, xtc_6_13, xt_24_50, xtc_24_50, xt_35_33, xtc_35_33, xt_65_m38, xtc_65_m38, xt_71_m50, xtc_71_m50, xt_76_12, xtc_76_12]
    exact hp0 _ (by rw [hv0, r0]; omega) (fun q h1 h2 => xu_n h1) (xu_s _ _ _) ⟨g, by rw [xu_n (by omega)]; exact hg⟩
  have hvp : 0 < vv := by omega
  have hz : (nI vv = 0) = False := eq_false (nI_ne0 hvp (by omega))
  have u1 : ∀ e2, xu f (v + 11) e2 v = some (x6 v i3 i4 i5 i14 i15 (nI b) (nI vv) 0 i19 (nI c) i22) := fun e2 => by rw [xu_n (by omega)]; exact h6
  have u2 : ∀ e2, xu f (v + 11) e2 (v + 1) = some (xI 6 pr) := fun e2 => by rw [xu_n (by omega)]; exact hpr1
  have c6 : (6 : Int32) * nI c = nI (6 * c) := pk_mul 6 c
  have outer : ∀ k i, i + k = 6 → ∀ g' : Nat → Int32, (∀ j q, j < c + 1 → q < 6 → (g' (6 * j + q)).toInt = mulK pt c vv s.toInt i 0 j q) → xG X 21 [some (.ref v), some (.int s), some (.int (nI (rst vv i))), some (.int (nI i))] [] (xu f (v + 11) (xI 150 g')) (z, 0, 0) := by
    intro k
    induction k with
    | zero =>
      intro i hi g' hP
      have hi6 : i = 6 := by omega
      subst hi6
      have hti : (nI 6).toInt = 6 := rfl
      have hr := rst_pos hvp 6
      have cT : ((6 : Int) ≤ 6) = True := eq_true (Int.le_refl _)
      by_cases h1 : rst vv 6 = 1
      · have hc1 : (nI (rst vv 6) = 1) = True := eq_true (by rw [h1]; rfl)
        refine xgo O Rt xplX6_q xclX6_q [21, 27] 60 ?_
        simp (maxSteps := 10000000) (disch := omega) only [↓reduceIte, ↓xrun_s, ↓xck_e, xdo_e, xlg_0, xlg_c, xst1_0, xst1_1, xst1_c, xst2_0, xst2_1, xst2_c, xk2_n, xk2_i, xk2_a, xk2_l, xct_i, xct_a, xct_l, xf4_0, xf4_1, xf4_2, xf4_3, List.contains_cons, List.contains_nil, Bool.or_false, Bool.false_or, Bool.or_self, Bool.true_or, Bool.or_true, cond_true, cond_false, List.set_cons_zero, List.set_cons_succ, List.length_cons, List.length_nil, true_and, and_true, xu_s, xu_u, xeqs, Nat.le_refl, not_true_eq_false, xq_10, xq_01, Int32.reduceAdd, Int32.reduceMul, Int32.reduceSub, Int32.reduceLE, Int32.reduceLT, Int32.reduceToNatClampNeg, Nat.reduceAdd, Nat.reduceMul, Nat.reduceBEq, Nat.reduceLT, Nat.reduceLeDiff, Nat.reduceEqDiff, Nat.zero_add, Bool.false_eq_true, reduceCtorEq, if_false, if_true, not_false_eq_true, true_imp_iff, false_imp_iff, imp_self, ↓xil_e, ↓xll_e, ↓xal_e, ↓xs1i_e, ↓xs2i_e, ↓xs1l_e, ↓xs2l_e, ↓xsil_e, ↓xs1_e, ↓xs2_e, ↓xs1a_e, ↓xsia_e, ↓xsiia_e, ↓xslia_e, ↓xsaia_e, ↓xsva_e, ↓xse1i_e, ↓xse1l_e, ↓xse1a_e, ↓xse0_e, ↓xfv_0, ↓xfv_c, ↓xgf_e, ↓xpf_e, ↓xia_e, ↓xia_n, ↓xba_e, ↓xba_n, ↓xla_e, ↓xla_n, ↓xob_e, ↓xra_e, ↓xno_e, ↓xle_e, ↓xnr_i, ↓xnr_b0, ↓xnr_b1, ↓xnr_n, ↓xdo_e, ↓xkl_0, ↓xe_iconst, ↓xe_bipush, ↓xe_iadd, ↓xe_imul, ↓xe_idiv, ↓xe_irem, ↓xe_dup2, ↓xe_iload_n, ↓xe_aload_n, ↓xe_istore_n, ↓xe_iinc, ↓xe_goto, ↓xe_getfield, ↓xe_iaload, ↓xe_iastore, ↓xe_return_, ↓xe_icmp_eq, ↓xe_if_ne, ↓xe_icmp_ge, ↓xe_invokevirtual, dX6_factor_0, dX6_factor_1, dX6_factor_4, dX6_factor_5, dX6_factor_6, dX6_factor_9, dX6_factor_10, dX6_factor_11, dX6_factor_12, dX6_factor_15, dX6_factor_18, dX6_factor_19, dX6_factor_20, dX6_factor_21, dX6_factor_22, dX6_factor_24, dX6_factor_27, dX6_factor_28, dX6_factor_29, dX6_factor_32, dX6_factor_33, dX6_factor_34, dX6_factor_35, dX6_factor_38, dX6_factor_39, dX6_factor_40, dX6_factor_43, dX6_factor_44, dX6_factor_45, dX6_factor_46, dX6_factor_47, dX6_factor_48, dX6_factor_51, dX6_factor_53, dX6_factor_54, dX6_factor_57, dX6_factor_58, dX6_factor_59, dX6_factor_60, dX6_factor_61, dX6_factor_62, dX6_factor_63, dX6_factor_64, dX6_factor_65, dX6_factor_68, dX6_factor_71, dX6_factor_74, dX6_factor_75, dX6_factor_76, dX6_factor_79, dX6_factor_80, dX6_factor_81, dX6_factor_82, dX6_factor_85, dX6_factor_88, xpX6_7, xpX6_55, xpX6_126, xpX6_132, xpX6_139, xkb_6, xki_0, xki_1, xki_3, n_le, six, hti, cT, hc1, xt_6_13, xtc_6_13, xt_24_50, xtc_24_50, xt_35_33, xtc_35_33, xt_65_m38, xtc_65_m38, xt_71_m50, xtc_71_m50, xt_76_12, xtc_76_12]
        refine hp1 _ h1 (fun q hq => xu_n hq) ⟨g', xu_s _ _ _, fun j q hj hq => ?_⟩
        rw [hP j q hj hq]
        simp only [mulK, mulP, if_pos hq]
      · have hc1 : (nI (rst vv 6) = 1) = False := eq_false (fun q => h1 (by rw [e1] at q; exact (nI_eq (by omega) (by omega)).mp q))
        refine xgo O Rt xplX6_q xclX6_q [21, 27] 60 ?_
        simp (maxSteps := 10000000) (disch := omega) only [↓reduceIte, ↓xrun_s, ↓xck_e, xdo_e, xlg_0, xlg_c, xst1_0, xst1_1, xst1_c, xst2_0, xst2_1, xst2_c, xk2_n, xk2_i, xk2_a, xk2_l, xct_i, xct_a, xct_l, xf4_0, xf4_1, xf4_2, xf4_3, List.contains_cons, List.contains_nil, Bool.or_false, Bool.false_or, Bool.or_self, Bool.true_or, Bool.or_true, cond_true, cond_false, List.set_cons_zero, List.set_cons_succ, List.length_cons, List.length_nil, true_and, and_true, xu_s, xu_u, xeqs, Nat.le_refl, not_true_eq_false, xq_10, xq_01, Int32.reduceAdd, Int32.reduceMul, Int32.reduceSub, Int32.reduceLE, Int32.reduceLT, Int32.reduceToNatClampNeg, Nat.reduceAdd, Nat.reduceMul, Nat.reduceBEq, Nat.reduceLT, Nat.reduceLeDiff, Nat.reduceEqDiff, Nat.zero_add, Bool.false_eq_true, reduceCtorEq, if_false, if_true, not_false_eq_true, true_imp_iff, false_imp_iff, imp_self, ↓xil_e, ↓xll_e, ↓xal_e, ↓xs1i_e, ↓xs2i_e, ↓xs1l_e, ↓xs2l_e, ↓xsil_e, ↓xs1_e, ↓xs2_e, ↓xs1a_e, ↓xsia_e, ↓xsiia_e, ↓xslia_e, ↓xsaia_e, ↓xsva_e, ↓xse1i_e, ↓xse1l_e, ↓xse1a_e, ↓xse0_e, ↓xfv_0, ↓xfv_c, ↓xgf_e, ↓xpf_e, ↓xia_e, ↓xia_n, ↓xba_e, ↓xba_n, ↓xla_e, ↓xla_n, ↓xob_e, ↓xra_e, ↓xno_e, ↓xle_e, ↓xnr_i, ↓xnr_b0, ↓xnr_b1, ↓xnr_n, ↓xdo_e, ↓xkl_0, ↓xe_iconst, ↓xe_bipush, ↓xe_iadd, ↓xe_imul, ↓xe_idiv, ↓xe_irem, ↓xe_dup2, ↓xe_iload_n, ↓xe_aload_n, ↓xe_istore_n, ↓xe_iinc, ↓xe_goto, ↓xe_getfield, ↓xe_iaload, ↓xe_iastore, ↓xe_return_, ↓xe_icmp_eq, ↓xe_if_ne, ↓xe_icmp_ge, ↓xe_invokevirtual, dX6_factor_0, dX6_factor_1, dX6_factor_4, dX6_factor_5, dX6_factor_6, dX6_factor_9, dX6_factor_10, dX6_factor_11, dX6_factor_12, dX6_factor_15, dX6_factor_18, dX6_factor_19, dX6_factor_20, dX6_factor_21, dX6_factor_22, dX6_factor_24, dX6_factor_27, dX6_factor_28, dX6_factor_29, dX6_factor_32, dX6_factor_33, dX6_factor_34, dX6_factor_35, dX6_factor_38, dX6_factor_39, dX6_factor_40, dX6_factor_43, dX6_factor_44, dX6_factor_45, dX6_factor_46, dX6_factor_47, dX6_factor_48, dX6_factor_51, dX6_factor_53, dX6_factor_54, dX6_factor_57, dX6_factor_58, dX6_factor_59, dX6_factor_60, dX6_factor_61, dX6_factor_62, dX6_factor_63, dX6_factor_64, dX6_factor_65, dX6_factor_68, dX6_factor_71, dX6_factor_74, dX6_factor_75, dX6_factor_76, dX6_factor_79, dX6_factor_80, dX6_factor_81, dX6_factor_82, dX6_factor_85, dX6_factor_88, xpX6_7, xpX6_55, xpX6_126, xpX6_132, xpX6_139, xkb_6, xki_0, xki_1, xki_3, n_le, six, hti, cT, hc1, u1, xt_6_13, xtc_6_13, xt_24_50, xtc_24_50, xt_35_33, xtc_35_33, xt_65_m38, xtc_65_m38, xt_71_m50, xtc_71_m50, xt_76_12, xtc_76_12]
        refine xg_callVv (Qp := fun f' => f' = xu (xu f (v + 11) (xI 150 g')) v (x6 v i3 i4 i5 i14 i15 (nI b) (nI vv) 3 (nI b) (nI c) i22)) O dX6_factor_85 xl_X6_135 xk_X6_fails (c6_fails _ (u1 _) ⟨rfl, rfl, rfl⟩) (u1 _) rfl rfl rfl (Nat.le_of_ble_eq_true rfl) rfl (Nat.le_of_ble_eq_true rfl) (Nat.le_of_ble_eq_true rfl) (Nat.le_of_ble_eq_true rfl) (fun f1 hq => ?_)
        subst hq
        refine xgo O Rt xplX6_q xclX6_q [21, 27] 60 ?_
        simp (maxSteps := 10000000) (disch := omega) only [↓reduceIte, ↓xrun_s, ↓xck_e, xdo_e, xlg_0, xlg_c, xst1_0, xst1_1, xst1_c, xst2_0, xst2_1, xst2_c, xk2_n, xk2_i, xk2_a, xk2_l, xct_i, xct_a, xct_l, xf4_0, xf4_1, xf4_2, xf4_3, List.contains_cons, List.contains_nil, Bool.or_false, Bool.false_or, Bool.or_self, Bool.true_or, Bool.or_true, cond_true, cond_false, List.set_cons_zero, List.set_cons_succ, List.length_cons, List.length_nil, true_and, and_true, xu_s, xu_u, xeqs, Nat.le_refl, not_true_eq_false, xq_10, xq_01, Int32.reduceAdd, Int32.reduceMul, Int32.reduceSub, Int32.reduceLE, Int32.reduceLT, Int32.reduceToNatClampNeg, Nat.reduceAdd, Nat.reduceMul, Nat.reduceBEq, Nat.reduceLT, Nat.reduceLeDiff, Nat.reduceEqDiff, Nat.zero_add, Bool.false_eq_true, reduceCtorEq, if_false, if_true, not_false_eq_true, true_imp_iff, false_imp_iff, imp_self, ↓xil_e, ↓xll_e, ↓xal_e, ↓xs1i_e, ↓xs2i_e, ↓xs1l_e, ↓xs2l_e, ↓xsil_e, ↓xs1_e, ↓xs2_e, ↓xs1a_e, ↓xsia_e, ↓xsiia_e, ↓xslia_e, ↓xsaia_e, ↓xsva_e, ↓xse1i_e, ↓xse1l_e, ↓xse1a_e, ↓xse0_e, ↓xfv_0, ↓xfv_c, ↓xgf_e, ↓xpf_e, ↓xia_e, ↓xia_n, ↓xba_e, ↓xba_n, ↓xla_e, ↓xla_n, ↓xob_e, ↓xra_e, ↓xno_e, ↓xle_e, ↓xnr_i, ↓xnr_b0, ↓xnr_b1, ↓xnr_n, ↓xdo_e, ↓xkl_0, ↓xe_iconst, ↓xe_bipush, ↓xe_iadd, ↓xe_imul, ↓xe_idiv, ↓xe_irem, ↓xe_dup2, ↓xe_iload_n, ↓xe_aload_n, ↓xe_istore_n, ↓xe_iinc, ↓xe_goto, ↓xe_getfield, ↓xe_iaload, ↓xe_iastore, ↓xe_return_, ↓xe_icmp_eq, ↓xe_if_ne, ↓xe_icmp_ge, ↓xe_invokevirtual, dX6_factor_0, dX6_factor_1, dX6_factor_4, dX6_factor_5, dX6_factor_6, dX6_factor_9, dX6_factor_10, dX6_factor_11, dX6_factor_12, dX6_factor_15, dX6_factor_18, dX6_factor_19, dX6_factor_20, dX6_factor_21, dX6_factor_22, dX6_factor_24, dX6_factor_27, dX6_factor_28, dX6_factor_29, dX6_factor_32, dX6_factor_33, dX6_factor_34, dX6_factor_35, dX6_factor_38, dX6_factor_39, dX6_factor_40, dX6_factor_43, dX6_factor_44, dX6_factor_45, dX6_factor_46, dX6_factor_47, dX6_factor_48, dX6_factor_51, dX6_factor_53, dX6_factor_54, dX6_factor_57, dX6_factor_58, dX6_factor_59, dX6_factor_60, dX6_factor_61, dX6_factor_62, dX6_factor_63, dX6_factor_64, dX6_factor_65, dX6_factor_68, dX6_factor_71, dX6_factor_74, dX6_factor_75, dX6_factor_76, dX6_factor_79, dX6_factor_80, dX6_factor_81, dX6_factor_82, dX6_factor_85, dX6_factor_88, xpX6_7, xpX6_55, xpX6_126, xpX6_132, xpX6_139, xkb_6, xki_0, xki_1, xki_3, xt_6_13, xtc_6_13, xt_24_50, xtc_24_50, xt_35_33, xtc_35_33, xt_65_m38, xtc_65_m38, xt_71_m50, xtc_71_m50, xt_76_12, xtc_76_12]
        exact hp0 _ h1 (fun q y1 y2 => by rw [xu_n y1, xu_n y2]) (xu_s _ _ _) ⟨g', by rw [xu_n (by omega)]; exact xu_s _ _ _⟩
    | succ k ih =>
      intro i hi g' hP
      have hti : (nI i).toInt = (i : Int) := nI_int (by omega)
      have hr := rst_pos hvp i
      have cF : ((6 : Int) ≤ (i : Int)) = False := eq_false (by omega)
      have hpr := hpr2 i (by omega)
      have hpb := prm_b i
      have ni : nI i + 1 = nI (i + 1) := nI_1 i
      have nri : nI (6 * c) + nI i = nI (6 * c + i) := nI_add _ _
      have v0 : vp_in (nI (6 * c + i)) 150 := vp_in_nI (by omega) (by omega)
      have v1 : (nI (6 * c + i)).toNatClampNeg = 6 * c + i := nI_clamp (by omega)
      have v2 : vp_in (nI i) 6 := vp_in_nI (by omega) (by omega)
      have v3 : (nI i).toNatClampNeg = i := nI_clamp (by omega)
      have hp0n : (nI (prm i) = 0) = False := eq_false (nI_ne0 (by omega) (by omega))
      have inner : ∀ m j, j + m = 20 → ∀ (R : Nat) (g' : Nat → Int32), 0 < R → R * 2 ^ j ≤ 999999 → mlt vv i = j + (pw (prm i) m R).1 → rst vv (i + 1) = (pw (prm i) m R).2 → (∀ j' q, j' < c + 1 → q < 6 → (g' (6 * j' + q)).toInt = mulK pt c vv s.toInt i j j' q) → xG X 27 [some (.ref v), some (.int s), some (.int (nI R)), some (.int (nI i))] [] (xu f (v + 11) (xI 150 g')) (z, 0, 0) := by
        intro m
        induction m with
        | zero =>
          intro j hj R g' h1 h2 h3 h4 h5
          have : j = 20 := by omega
          subst this
          omega
        | succ m ihm =>
          intro j hj R g' h1 h2 h3 h4 h5
          have hR : R ≤ 999999 := Nat.le_trans (Nat.le_mul_of_pos_right _ (Nat.pow_pos (by omega))) h2
          have hdiv : nI R / nI (prm i) = nI (R / prm i) := pk_div (by omega) (by omega) (by omega)
          have hrem : nI R - nI (R / prm i) * nI (prm i) = nI (R % prm i) := by rw [← hdiv]; exact pk_rem (by omega) (by omega) (by omega)
          have hml : R % prm i < 13 := Nat.lt_of_lt_of_le (Nat.mod_lt _ (by omega)) hpb.2
          by_cases hm0 : R % prm i = 0
          · have hc1 : (nI (R % prm i) = 0) = True := eq_true (by rw [hm0]; rfl)
            have hd0 : 0 < R / prm i := by
              rcases Nat.eq_zero_or_pos (R / prm i) with w0 | w0
              · have := Nat.div_add_mod R (prm i)
                rw [w0, hm0] at this
                omega
              · exact w0
            simp only [pw, if_pos hm0] at h3 h4
            refine xgo O Rt xplX6_q xclX6_q [21, 27] 60 ?_
            simp (maxSteps := 10000000) (disch := omega) only [↓reduceIte, ↓xrun_s, ↓xck_e, xdo_e, xlg_0, xlg_c, xst1_0, xst1_1, xst1_c, xst2_0, xst2_1, xst2_c, xk2_n, xk2_i, xk2_a, xk2_l, xct_i, xct_a, xct_l, xf4_0, xf4_1, xf4_2, xf4_3, List.contains_cons, List.contains_nil, Bool.or_false, Bool.false_or, Bool.or_self, Bool.true_or, Bool.or_true, cond_true, cond_false, List.set_cons_zero, List.set_cons_succ, List.length_cons, List.length_nil, true_and, and_true, xu_s, xu_u, xeqs, Nat.le_refl, not_true_eq_false, xq_10, xq_01, Int32.reduceAdd, Int32.reduceMul, Int32.reduceSub, Int32.reduceLE, Int32.reduceLT, Int32.reduceToNatClampNeg, Nat.reduceAdd, Nat.reduceMul, Nat.reduceBEq, Nat.reduceLT, Nat.reduceLeDiff, Nat.reduceEqDiff, Nat.zero_add, Bool.false_eq_true, reduceCtorEq, if_false, if_true, not_false_eq_true, true_imp_iff, false_imp_iff, imp_self, ↓xil_e, ↓xll_e, ↓xal_e, ↓xs1i_e, ↓xs2i_e, ↓xs1l_e, ↓xs2l_e, ↓xsil_e, ↓xs1_e, ↓xs2_e, ↓xs1a_e, ↓xsia_e, ↓xsiia_e, ↓xslia_e, ↓xsaia_e, ↓xsva_e, ↓xse1i_e, ↓xse1l_e, ↓xse1a_e, ↓xse0_e, ↓xfv_0, ↓xfv_c, ↓xgf_e, ↓xpf_e, ↓xia_e, ↓xia_n, ↓xba_e, ↓xba_n, ↓xla_e, ↓xla_n, ↓xob_e, ↓xra_e, ↓xno_e, ↓xle_e, ↓xnr_i, ↓xnr_b0, ↓xnr_b1, ↓xnr_n, ↓xdo_e, ↓xkl_0, ↓xe_iconst, ↓xe_bipush, ↓xe_iadd, ↓xe_imul, ↓xe_idiv, ↓xe_irem, ↓xe_dup2, ↓xe_iload_n, ↓xe_aload_n, ↓xe_istore_n, ↓xe_iinc, ↓xe_goto, ↓xe_getfield, ↓xe_iaload, ↓xe_iastore, ↓xe_return_, ↓xe_icmp_eq, ↓xe_if_ne, ↓xe_icmp_ge, ↓xe_invokevirtual, dX6_factor_0, dX6_factor_1, dX6_factor_4, dX6_factor_5, dX6_factor_6, dX6_factor_9, dX6_factor_10, dX6_factor_11, dX6_factor_12, dX6_factor_15, dX6_factor_18, dX6_factor_19, dX6_factor_20, dX6_factor_21, dX6_factor_22, dX6_factor_24, dX6_factor_27, dX6_factor_28, dX6_factor_29, dX6_factor_32, dX6_factor_33, dX6_factor_34, dX6_factor_35, dX6_factor_38, dX6_factor_39, dX6_factor_40, dX6_factor_43, dX6_factor_44, dX6_factor_45, dX6_factor_46, dX6_factor_47, dX6_factor_48, dX6_factor_51, dX6_factor_53, dX6_factor_54, dX6_factor_57, dX6_factor_58, dX6_factor_59, dX6_factor_60, dX6_factor_61, dX6_factor_62, dX6_factor_63, dX6_factor_64, dX6_factor_65, dX6_factor_68, dX6_factor_71, dX6_factor_74, dX6_factor_75, dX6_factor_76, dX6_factor_79, dX6_factor_80, dX6_factor_81, dX6_factor_82, dX6_factor_85, dX6_factor_88, xpX6_7, xpX6_55, xpX6_126, xpX6_132, xpX6_139, xkb_6, xki_0, xki_1, xki_3, hpr, hdiv, hrem, hp0n, u1, u2, c6, nri, v0, v1, v2, v3, hc1, xt_6_13, xtc_6_13, xt_24_50, xtc_24_50, xt_35_33, xtc_35_33, xt_65_m38, xtc_65_m38, xt_71_m50, xtc_71_m50, xt_76_12, xtc_76_12]
            refine ihm (j + 1) (by omega) (R / prm i) _ hd0 (pw2 hpb.1 h2 hm0) (by omega) h4 (fun j' q' hj' hq' => ?_)
            have hold := h5 j' q' hj' hq'
            by_cases e : 6 * j' + q' = 6 * c + i
            · have ej : j' = c := by omega
              have eq' : q' = i := by omega
              have hbi := hb i (by omega)
              rw [ej, eq'] at hold ⊢
              simp only [upd, if_true]
              simp only [mulK, if_true, if_neg (Nat.lt_irrefl i)] at hold ⊢
              rw [n_add (by rw [hold]; rcases hs with hs | hs <;> rw [hs] <;> omega) (by rw [hold]; rcases hs with hs | hs <;> rw [hs] <;> omega), hold]
              rcases hs with hs | hs <;> rw [hs] <;> omega
            · simp only [upd, if_neg e]
              rw [hold]
              simp only [mulK]
              by_cases ej : j' = c
              · rw [if_pos ej, if_pos ej]
                by_cases eq' : q' < i
                · rw [if_pos eq', if_pos eq']
                · rw [if_neg eq', if_neg eq', if_neg (show ¬ q' = i by omega), if_neg (show ¬ q' = i by omega)]
              · rw [if_neg ej, if_neg ej]
          · have hc1 : (nI (R % prm i) = 0) = False := eq_false (fun q => hm0 ((nI_eq (a := R % prm i) (b := 0) (by omega) (by omega)).mp q))
            simp only [pw, if_neg hm0] at h3 h4
            refine xgo O Rt xplX6_q xclX6_q [21, 27] 60 ?_
            simp (maxSteps := 10000000) (disch := omega) only [↓reduceIte, ↓xrun_s, ↓xck_e, xdo_e, xlg_0, xlg_c, xst1_0, xst1_1, xst1_c, xst2_0, xst2_1, xst2_c, xk2_n, xk2_i, xk2_a, xk2_l, xct_i, xct_a, xct_l, xf4_0, xf4_1, xf4_2, xf4_3, List.contains_cons, List.contains_nil, Bool.or_false, Bool.false_or, Bool.or_self, Bool.true_or, Bool.or_true, cond_true, cond_false, List.set_cons_zero, List.set_cons_succ, List.length_cons, List.length_nil, true_and, and_true, xu_s, xu_u, xeqs, Nat.le_refl, not_true_eq_false, xq_10, xq_01, Int32.reduceAdd, Int32.reduceMul, Int32.reduceSub, Int32.reduceLE, Int32.reduceLT, Int32.reduceToNatClampNeg, Nat.reduceAdd, Nat.reduceMul, Nat.reduceBEq, Nat.reduceLT, Nat.reduceLeDiff, Nat.reduceEqDiff, Nat.zero_add, Bool.false_eq_true, reduceCtorEq, if_false, if_true, not_false_eq_true, true_imp_iff, false_imp_iff, imp_self, ↓xil_e, ↓xll_e, ↓xal_e, ↓xs1i_e, ↓xs2i_e, ↓xs1l_e, ↓xs2l_e, ↓xsil_e, ↓xs1_e, ↓xs2_e, ↓xs1a_e, ↓xsia_e, ↓xsiia_e, ↓xslia_e, ↓xsaia_e, ↓xsva_e, ↓xse1i_e, ↓xse1l_e, ↓xse1a_e, ↓xse0_e, ↓xfv_0, ↓xfv_c, ↓xgf_e, ↓xpf_e, ↓xia_e, ↓xia_n, ↓xba_e, ↓xba_n, ↓xla_e, ↓xla_n, ↓xob_e, ↓xra_e, ↓xno_e, ↓xle_e, ↓xnr_i, ↓xnr_b0, ↓xnr_b1, ↓xnr_n, ↓xdo_e, ↓xkl_0, ↓xe_iconst, ↓xe_bipush, ↓xe_iadd, ↓xe_imul, ↓xe_idiv, ↓xe_irem, ↓xe_dup2, ↓xe_iload_n, ↓xe_aload_n, ↓xe_istore_n, ↓xe_iinc, ↓xe_goto, ↓xe_getfield, ↓xe_iaload, ↓xe_iastore, ↓xe_return_, ↓xe_icmp_eq, ↓xe_if_ne, ↓xe_icmp_ge, ↓xe_invokevirtual, dX6_factor_0, dX6_factor_1, dX6_factor_4, dX6_factor_5, dX6_factor_6, dX6_factor_9, dX6_factor_10, dX6_factor_11, dX6_factor_12, dX6_factor_15, dX6_factor_18, dX6_factor_19, dX6_factor_20, dX6_factor_21, dX6_factor_22, dX6_factor_24, dX6_factor_27, dX6_factor_28, dX6_factor_29, dX6_factor_32, dX6_factor_33, dX6_factor_34, dX6_factor_35, dX6_factor_38, dX6_factor_39, dX6_factor_40, dX6_factor_43, dX6_factor_44, dX6_factor_45, dX6_factor_46, dX6_factor_47, dX6_factor_48, dX6_factor_51, dX6_factor_53, dX6_factor_54, dX6_factor_57, dX6_factor_58, dX6_factor_59, dX6_factor_60, dX6_factor_61, dX6_factor_62, dX6_factor_63, dX6_factor_64, dX6_factor_65, dX6_factor_68, dX6_factor_71, dX6_factor_74, dX6_factor_75, dX6_factor_76, dX6_factor_79, dX6_factor_80, dX6_factor_81, dX6_factor_82, dX6_factor_85, dX6_factor_88, xpX6_7, xpX6_55, xpX6_126, xpX6_132, xpX6_139, xkb_6, xki_0, xki_1, xki_3, hpr, hdiv, hrem, hp0n, u1, u2, v2, v3, hc1, ni, xt_6_13, xtc_6_13, xt_24_50, xtc_24_50, xt_35_33, xtc_35_33, xt_65_m38, xtc_65_m38, xt_71_m50, xtc_71_m50, xt_76_12, xtc_76_12]
            rw [← h4]
            refine ih (i + 1) (by omega) g' (fun j' q' hj' hq' => ?_)
            rw [← mulK_next, h3, Nat.add_zero]
            exact h5 j' q' hj' hq'
      refine xgo O Rt xplX6_q xclX6_q [21, 27] 60 ?_
      simp (maxSteps := 10000000) (disch := omega) only [↓reduceIte, ↓xrun_s, ↓xck_e, xdo_e, xlg_0, xlg_c, xst1_0, xst1_1, xst1_c, xst2_0, xst2_1, xst2_c, xk2_n, xk2_i, xk2_a, xk2_l, xct_i, xct_a, xct_l, xf4_0, xf4_1, xf4_2, xf4_3, List.contains_cons, List.contains_nil, Bool.or_false, Bool.false_or, Bool.or_self, Bool.true_or, Bool.or_true, cond_true, cond_false, List.set_cons_zero, List.set_cons_succ, List.length_cons, List.length_nil, true_and, and_true, xu_s, xu_u, xeqs, Nat.le_refl, not_true_eq_false, xq_10, xq_01, Int32.reduceAdd, Int32.reduceMul, Int32.reduceSub, Int32.reduceLE, Int32.reduceLT, Int32.reduceToNatClampNeg, Nat.reduceAdd, Nat.reduceMul, Nat.reduceBEq, Nat.reduceLT, Nat.reduceLeDiff, Nat.reduceEqDiff, Nat.zero_add, Bool.false_eq_true, reduceCtorEq, if_false, if_true, not_false_eq_true, true_imp_iff, false_imp_iff, imp_self, ↓xil_e, ↓xll_e, ↓xal_e, ↓xs1i_e, ↓xs2i_e, ↓xs1l_e, ↓xs2l_e, ↓xsil_e, ↓xs1_e, ↓xs2_e, ↓xs1a_e, ↓xsia_e, ↓xsiia_e, ↓xslia_e, ↓xsaia_e, ↓xsva_e, ↓xse1i_e, ↓xse1l_e, ↓xse1a_e, ↓xse0_e, ↓xfv_0, ↓xfv_c, ↓xgf_e, ↓xpf_e, ↓xia_e, ↓xia_n, ↓xba_e, ↓xba_n, ↓xla_e, ↓xla_n, ↓xob_e, ↓xra_e, ↓xno_e, ↓xle_e, ↓xnr_i, ↓xnr_b0, ↓xnr_b1, ↓xnr_n, ↓xdo_e, ↓xkl_0, ↓xe_iconst, ↓xe_bipush, ↓xe_iadd, ↓xe_imul, ↓xe_idiv, ↓xe_irem, ↓xe_dup2, ↓xe_iload_n, ↓xe_aload_n, ↓xe_istore_n, ↓xe_iinc, ↓xe_goto, ↓xe_getfield, ↓xe_iaload, ↓xe_iastore, ↓xe_return_, ↓xe_icmp_eq, ↓xe_if_ne, ↓xe_icmp_ge, ↓xe_invokevirtual, dX6_factor_0, dX6_factor_1, dX6_factor_4, dX6_factor_5, dX6_factor_6, dX6_factor_9, dX6_factor_10, dX6_factor_11, dX6_factor_12, dX6_factor_15, dX6_factor_18, dX6_factor_19, dX6_factor_20, dX6_factor_21, dX6_factor_22, dX6_factor_24, dX6_factor_27, dX6_factor_28, dX6_factor_29, dX6_factor_32, dX6_factor_33, dX6_factor_34, dX6_factor_35, dX6_factor_38, dX6_factor_39, dX6_factor_40, dX6_factor_43, dX6_factor_44, dX6_factor_45, dX6_factor_46, dX6_factor_47, dX6_factor_48, dX6_factor_51, dX6_factor_53, dX6_factor_54, dX6_factor_57, dX6_factor_58, dX6_factor_59, dX6_factor_60, dX6_factor_61, dX6_factor_62, dX6_factor_63, dX6_factor_64, dX6_factor_65, dX6_factor_68, dX6_factor_71, dX6_factor_74, dX6_factor_75, dX6_factor_76, dX6_factor_79, dX6_factor_80, dX6_factor_81, dX6_factor_82, dX6_factor_85, dX6_factor_88, xpX6_7, xpX6_55, xpX6_126, xpX6_132, xpX6_139, xkb_6, xki_0, xki_1, xki_3, n_le, six, hti, cF, xt_6_13, xtc_6_13, xt_24_50, xtc_24_50, xt_35_33, xtc_35_33, xt_65_m38, xtc_65_m38, xt_71_m50, xtc_71_m50, xt_76_12, xtc_76_12]
      exact inner 20 0 (by omega) (rst vv i) g' hr.1 (by omega) (by simp only [mlt]; omega) rfl hP
  refine xgo O Rt xplX6_q xclX6_q [21, 27] 60 ?_
  simp (maxSteps := 10000000) (disch := omega) only [↓reduceIte, ↓xrun_s, ↓xck_e, xdo_e, xlg_0, xlg_c, xst1_0, xst1_1, xst1_c, xst2_0, xst2_1, xst2_c, xk2_n, xk2_i, xk2_a, xk2_l, xct_i, xct_a, xct_l, xf4_0, xf4_1, xf4_2, xf4_3, List.contains_cons, List.contains_nil, Bool.or_false, Bool.false_or, Bool.or_self, Bool.true_or, Bool.or_true, cond_true, cond_false, List.set_cons_zero, List.set_cons_succ, List.length_cons, List.length_nil, true_and, and_true, xu_s, xu_u, xeqs, Nat.le_refl, not_true_eq_false, xq_10, xq_01, Int32.reduceAdd, Int32.reduceMul, Int32.reduceSub, Int32.reduceLE, Int32.reduceLT, Int32.reduceToNatClampNeg, Nat.reduceAdd, Nat.reduceMul, Nat.reduceBEq, Nat.reduceLT, Nat.reduceLeDiff, Nat.reduceEqDiff, Nat.zero_add, Bool.false_eq_true, reduceCtorEq, if_false, if_true, not_false_eq_true, true_imp_iff, false_imp_iff, imp_self, ↓xil_e, ↓xll_e, ↓xal_e, ↓xs1i_e, ↓xs2i_e, ↓xs1l_e, ↓xs2l_e, ↓xsil_e, ↓xs1_e, ↓xs2_e, ↓xs1a_e, ↓xsia_e, ↓xsiia_e, ↓xslia_e, ↓xsaia_e, ↓xsva_e, ↓xse1i_e, ↓xse1l_e, ↓xse1a_e, ↓xse0_e, ↓xfv_0, ↓xfv_c, ↓xgf_e, ↓xpf_e, ↓xia_e, ↓xia_n, ↓xba_e, ↓xba_n, ↓xla_e, ↓xla_n, ↓xob_e, ↓xra_e, ↓xno_e, ↓xle_e, ↓xnr_i, ↓xnr_b0, ↓xnr_b1, ↓xnr_n, ↓xdo_e, ↓xkl_0, ↓xe_iconst, ↓xe_bipush, ↓xe_iadd, ↓xe_imul, ↓xe_idiv, ↓xe_irem, ↓xe_dup2, ↓xe_iload_n, ↓xe_aload_n, ↓xe_istore_n, ↓xe_iinc, ↓xe_goto, ↓xe_getfield, ↓xe_iaload, ↓xe_iastore, ↓xe_return_, ↓xe_icmp_eq, ↓xe_if_ne, ↓xe_icmp_ge, ↓xe_invokevirtual, dX6_factor_0, dX6_factor_1, dX6_factor_4, dX6_factor_5, dX6_factor_6, dX6_factor_9, dX6_factor_10, dX6_factor_11, dX6_factor_12, dX6_factor_15, dX6_factor_18, dX6_factor_19, dX6_factor_20, dX6_factor_21, dX6_factor_22, dX6_factor_24, dX6_factor_27, dX6_factor_28, dX6_factor_29, dX6_factor_32, dX6_factor_33, dX6_factor_34, dX6_factor_35, dX6_factor_38, dX6_factor_39, dX6_factor_40, dX6_factor_43, dX6_factor_44, dX6_factor_45, dX6_factor_46, dX6_factor_47, dX6_factor_48, dX6_factor_51, dX6_factor_53, dX6_factor_54, dX6_factor_57, dX6_factor_58, dX6_factor_59, dX6_factor_60, dX6_factor_61, dX6_factor_62, dX6_factor_63, dX6_factor_64, dX6_factor_65, dX6_factor_68, dX6_factor_71, dX6_factor_74, dX6_factor_75, dX6_factor_76, dX6_factor_79, dX6_factor_80, dX6_factor_81, dX6_factor_82, dX6_factor_85, dX6_factor_88, xpX6_7, xpX6_55, xpX6_126, xpX6_132, xpX6_139, xkb_6, xki_0, xki_1, xki_3, h6, hz, xt_6_13, xtc_6_13, xt_24_50, xtc_24_50, xt_35_33, xtc_35_33, xt_65_m38, xtc_65_m38, xt_71_m50, xtc_71_m50, xt_76_12, xtc_76_12]
  have := outer 6 0 (by omega) g (fun j q hj hq => by
    rw [hpt j q hj hq]
    simp only [mulK, if_neg (Nat.not_lt_zero q)]
    by_cases e : j = c
    · rw [if_pos e]
      by_cases e2 : q = 0
      · rw [if_pos e2]; simp
      · rw [if_neg e2]
    · rw [if_neg e])
  rw [xu_id hg] at this
  exact this
theorem perB_iff (x : xZ) : perB x = true ↔ (∀ k, k < 6 → 0 ≤ x k) ∧ 2 ≤ pval x ∧ pval x ≤ 13 := by
  simp only [perB, Bool.and_eq_true, decide_eq_true_eq]
  constructor
  · rintro ⟨⟨⟨⟨⟨⟨⟨h0, h1⟩, h2⟩, h3⟩, h4⟩, h5⟩, h6⟩, h7⟩
    refine ⟨fun k hk => ?_, h6, h7⟩
    rcases (by omega : k = 0 ∨ k = 1 ∨ k = 2 ∨ k = 3 ∨ k = 4 ∨ k = 5) with rfl | rfl | rfl | rfl | rfl | rfl <;> assumption
  · rintro ⟨h, h6, h7⟩
    exact ⟨⟨⟨⟨⟨⟨⟨h 0 (by omega), h 1 (by omega)⟩, h 2 (by omega)⟩, h 3 (by omega)⟩, h 4 (by omega)⟩, h 5 (by omega)⟩, h6⟩, h7⟩
theorem pvk_pos (x : xZ) : ∀ k, 0 < pvk x k
  | 0 => by simp [pvk]
  | k + 1 => Nat.mul_pos (pvk_pos x k) (Nat.pow_pos (by have := prm_b k; omega))
theorem pvk_mono (x : xZ) : ∀ m k, pvk x k ≤ pvk x (k + m)
  | 0, k => Nat.le_refl _
  | m + 1, k => by
    have h1 := pvk_mono x m k
    have h2 : 0 < prm (k + m) ^ (x (k + m)).toNat := Nat.pow_pos (by have := prm_b (k + m); omega)
    have h4 := Nat.le_mul_of_pos_right (pvk x (k + m)) h2
    exact Nat.le_trans h1 h4
/-- the value so far: nothing once it is past 13 -/
def wv (p : Nat) : Nat := if p ≤ 13 then p else 0
set_option maxRecDepth 100000 in
set_option maxHeartbeats 8000000 in
theorem c6_whole (V : xV) {v z c j : Nat} {f : xH} {i3 i4 i5 i14 i15 i16 i17 i18 i19 i21 i22 : Int32} {pt : Nat → xZ} {post : Option Value → xH → Nat → Prop} (h6 : f v = some (x6 v i3 i4 i5 i14 i15 i16 i17 i18 i19 i21 i22)) (hC : RfC f v) (hF : Rws f (v + 11) c pt) (hj : j < c) (hc : c ≤ 24) (hb : bd (pt j) 100)
    (hp : ∀ r : Int32, (r < 2) = ¬ perB (pt j) = true → post (some (.int r)) f z) :
    xMet V yX6_whole cX6_whole 6 (some .int) 1 0 0 [.ref v, .int (nI j)] f z post := by
  refine xMet_of false (by decide) (Nat.le_of_ble_eq_true rfl) (fun h => by cases h) (fun X hX O Rt => ?_)
  have O : xO X cX6_whole 6 RX6 1 0 0 false := O
  show xG X 0 [some (.ref v), some (.int (nI j)), none, none, none, none] [] f (z, 0, 0)
  obtain ⟨⟨pr, hpr1, hpr2⟩, -⟩ := id hC
  obtain ⟨g, hg, hpt⟩ := hF
  have six : (6 : Int32).toInt = 6 := rfl
  have c13 : (13 : Int32).toInt = 13 := rfl
  have two : (2 : Int32).toInt = 2 := rfl
  generalize hx : pt j = x at *
  have c6 : (6 : Int32) * nI j = nI (6 * j) := pk_mul 6 j
  have outer : ∀ k i, i + k = 6 → (∀ q, q < i → 0 ≤ x q) → ∀ u4 u5, xG X 4 [some (.ref v), some (.int (nI j)), some (.int (nI (wv (pvk x i)))), some (.int (nI i)), u4, u5] [] f (z, 0, 0) := by
    intro k
    induction k with
    | zero =>
      intro i hi hnn u4 u5
      have hi6 : i = 6 := by omega
      subst hi6
      have hti : (nI 6).toInt = 6 := rfl
      have cT : ((6 : Int) ≤ 6) = True := eq_true (Int.le_refl _)
      refine xgo O Rt xplX6_q xclX6_q [4, 33] 60 ?_
      simp (maxSteps := 10000000) (disch := omega) only [↓reduceIte, ↓xrun_s, ↓xck_e, xdo_e, xlg_0, xlg_c, xst1_0, xst1_1, xst1_c, xst2_0, xst2_1, xst2_c, xk2_n, xk2_i, xk2_a, xk2_l, xct_i, xct_a, xct_l, xf4_0, xf4_1, xf4_2, xf4_3, List.contains_cons, List.contains_nil, Bool.or_false, Bool.false_or, Bool.or_self, Bool.true_or, Bool.or_true, cond_true, cond_false, List.set_cons_zero, List.set_cons_succ, List.length_cons, List.length_nil, true_and, and_true, xu_s, xu_u, xeqs, Nat.le_refl, not_true_eq_false, xq_10, xq_01, Int32.reduceAdd, Int32.reduceMul, Int32.reduceSub, Int32.reduceLE, Int32.reduceLT, Int32.reduceToNatClampNeg, Nat.reduceAdd, Nat.reduceMul, Nat.reduceBEq, Nat.reduceLT, Nat.reduceLeDiff, Nat.reduceEqDiff, Nat.zero_add, Bool.false_eq_true, reduceCtorEq, if_false, if_true, not_false_eq_true, true_imp_iff, false_imp_iff, imp_self, ↓xil_e, ↓xll_e, ↓xal_e, ↓xs1i_e, ↓xs2i_e, ↓xs1l_e, ↓xs2l_e, ↓xsil_e, ↓xs1_e, ↓xs2_e, ↓xs1a_e, ↓xsia_e, ↓xsiia_e, ↓xslia_e, ↓xsaia_e, ↓xsva_e, ↓xse1i_e, ↓xse1l_e, ↓xse1a_e, ↓xse0_e, ↓xfv_0, ↓xfv_c, ↓xgf_e, ↓xpf_e, ↓xia_e, ↓xia_n, ↓xba_e, ↓xba_n, ↓xla_e, ↓xla_n, ↓xob_e, ↓xra_e, ↓xno_e, ↓xle_e, ↓xnr_i, ↓xnr_b0, ↓xnr_b1, ↓xnr_n, ↓xdo_e, ↓xkl_0, ↓xe_iconst, ↓xe_bipush, ↓xe_iadd, ↓xe_imul, ↓xe_iload, ↓xe_iload_n, ↓xe_aload_n, ↓xe_istore, ↓xe_istore_n, ↓xe_iinc, ↓xe_goto, ↓xe_getfield, ↓xe_iaload, ↓xe_ireturn, ↓xe_if_ge, ↓xe_icmp_ge, ↓xe_if_le, ↓xe_icmp_le, dX6_whole_0, dX6_whole_1, dX6_whole_2, dX6_whole_3, dX6_whole_4, dX6_whole_5, dX6_whole_7, dX6_whole_10, dX6_whole_11, dX6_whole_14, dX6_whole_16, dX6_whole_17, dX6_whole_18, dX6_whole_19, dX6_whole_20, dX6_whole_21, dX6_whole_23, dX6_whole_25, dX6_whole_28, dX6_whole_29, dX6_whole_30, dX6_whole_31, dX6_whole_33, dX6_whole_35, dX6_whole_37, dX6_whole_40, dX6_whole_41, dX6_whole_44, dX6_whole_45, dX6_whole_46, dX6_whole_49, dX6_whole_50, dX6_whole_51, dX6_whole_52, dX6_whole_54, dX6_whole_57, dX6_whole_58, dX6_whole_61, dX6_whole_62, dX6_whole_63, dX6_whole_66, dX6_whole_67, dX6_whole_68, dX6_whole_69, dX6_whole_70, dX6_whole_73, dX6_whole_76, dX6_whole_79, dX6_whole_82, dX6_whole_83, xpX6_7, xpX6_55, xkb_13, xkb_6, xki_0, xki_1, n_le, six, hti, cT, xt_7_75, xtc_7_75, xt_25_5, xtc_25_5, xt_37_39, xtc_37_39, xt_41_35, xtc_41_35, xt_54_7, xtc_54_7, xt_58_11, xtc_58_11, xt_73_m40, xtc_73_m40, xt_79_m75, xtc_79_m75]
      refine hp _ ?_
      have hw : wv (pvk x 6) ≤ 13 := by unfold wv; split <;> omega
      rw [perB_iff, n_lt, nI_int (by omega), two]
      apply propext
      have := pvk_pos x 6
      unfold wv
      rw [← pvk_6]
      constructor
      · intro h1 h2
        rw [if_pos h2.2.2] at h1
        omega
      · intro h1
        split
        · rename_i h2
          rcases Nat.lt_or_ge (pvk x 6) 2 with q | q
          · omega
          · exact absurd ⟨hnn, q, h2⟩ h1
        · decide
    | succ k ih =>
      intro i hi hnn u4 u5
      have hti : (nI i).toInt = (i : Int) := nI_int (by omega)
      have cF : ((6 : Int) ≤ (i : Int)) = False := eq_false (by omega)
      have ni : nI i + 1 = nI (i + 1) := nI_1 i
      have nri : nI (6 * j) + nI i = nI (6 * j + i) := nI_add _ _
      have v0 : vp_in (nI (6 * j + i)) 150 := vp_in_nI (by omega) (by omega)
      have v1 : (nI (6 * j + i)).toNatClampNeg = 6 * j + i := nI_clamp (by omega)
      have v2 : vp_in (nI i) 6 := vp_in_nI (by omega) (by omega)
      have v3 : (nI i).toNatClampNeg = i := nI_clamp (by omega)
      have hgi : (g (6 * j + i)).toInt = x i := by rw [hpt j i hj (by omega), hx]
      have hpr := hpr2 i (by omega)
      have hpb := prm_b i
      have hbi := hb i (by omega)
      by_cases hneg : 0 ≤ x i
      rotate_left
      · have hc1 : (0 ≤ g (6 * j + i)) = False := eq_false (fun y => hneg (by have y := (n_le _ _).mp y; rw [n_0, hgi] at y; exact y))
        refine xgo O Rt xplX6_q xclX6_q [4, 33] 60 ?_
        simp (maxSteps := 10000000) (disch := omega) only [↓reduceIte, ↓xrun_s, ↓xck_e, xdo_e, xlg_0, xlg_c, xst1_0, xst1_1, xst1_c, xst2_0, xst2_1, xst2_c, xk2_n, xk2_i, xk2_a, xk2_l, xct_i, xct_a, xct_l, xf4_0, xf4_1, xf4_2, xf4_3, List.contains_cons, List.contains_nil, Bool.or_false, Bool.false_or, Bool.or_self, Bool.true_or, Bool.or_true, cond_true, cond_false, List.set_cons_zero, List.set_cons_succ, List.length_cons, List.length_nil, true_and, and_true, xu_s, xu_u, xeqs, Nat.le_refl, not_true_eq_false, xq_10, xq_01, Int32.reduceAdd, Int32.reduceMul, Int32.reduceSub, Int32.reduceLE, Int32.reduceLT, Int32.reduceToNatClampNeg, Nat.reduceAdd, Nat.reduceMul, Nat.reduceBEq, Nat.reduceLT, Nat.reduceLeDiff, Nat.reduceEqDiff, Nat.zero_add, Bool.false_eq_true, reduceCtorEq, if_false, if_true, not_false_eq_true, true_imp_iff, false_imp_iff, imp_self, ↓xil_e, ↓xll_e, ↓xal_e, ↓xs1i_e, ↓xs2i_e, ↓xs1l_e, ↓xs2l_e, ↓xsil_e, ↓xs1_e, ↓xs2_e, ↓xs1a_e, ↓xsia_e, ↓xsiia_e, ↓xslia_e, ↓xsaia_e, ↓xsva_e, ↓xse1i_e, ↓xse1l_e, ↓xse1a_e, ↓xse0_e, ↓xfv_0, ↓xfv_c, ↓xgf_e, ↓xpf_e, ↓xia_e, ↓xia_n, ↓xba_e, ↓xba_n, ↓xla_e, ↓xla_n, ↓xob_e, ↓xra_e, ↓xno_e, ↓xle_e, ↓xnr_i, ↓xnr_b0, ↓xnr_b1, ↓xnr_n, ↓xdo_e, ↓xkl_0, ↓xe_iconst, ↓xe_bipush, ↓xe_iadd, ↓xe_imul, ↓xe_iload, ↓xe_iload_n, ↓xe_aload_n, ↓xe_istore, ↓xe_istore_n, ↓xe_iinc, ↓xe_goto, ↓xe_getfield, ↓xe_iaload, ↓xe_ireturn, ↓xe_if_ge, ↓xe_icmp_ge, ↓xe_if_le, ↓xe_icmp_le, dX6_whole_0, dX6_whole_1, dX6_whole_2, dX6_whole_3, dX6_whole_4, dX6_whole_5, dX6_whole_7, dX6_whole_10, dX6_whole_11, dX6_whole_14, dX6_whole_16, dX6_whole_17, dX6_whole_18, dX6_whole_19, dX6_whole_20, dX6_whole_21, dX6_whole_23, dX6_whole_25, dX6_whole_28, dX6_whole_29, dX6_whole_30, dX6_whole_31, dX6_whole_33, dX6_whole_35, dX6_whole_37, dX6_whole_40, dX6_whole_41, dX6_whole_44, dX6_whole_45, dX6_whole_46, dX6_whole_49, dX6_whole_50, dX6_whole_51, dX6_whole_52, dX6_whole_54, dX6_whole_57, dX6_whole_58, dX6_whole_61, dX6_whole_62, dX6_whole_63, dX6_whole_66, dX6_whole_67, dX6_whole_68, dX6_whole_69, dX6_whole_70, dX6_whole_73, dX6_whole_76, dX6_whole_79, dX6_whole_82, dX6_whole_83, xpX6_7, xpX6_55, xkb_13, xkb_6, xki_0, xki_1, n_le, six, hti, cF, h6, hg, c6, nri, v0, v1, hgi, n_0, hneg, xt_7_75, xtc_7_75, xt_25_5, xtc_25_5, xt_37_39, xtc_37_39, xt_41_35, xtc_41_35, xt_54_7, xtc_54_7, xt_58_11, xtc_58_11, xt_73_m40, xtc_73_m40, xt_79_m75, xtc_79_m75]
        refine hp _ ?_
        rw [perB_iff]
        apply propext
        constructor
        · intro _ h2
          exact hneg (h2.1 i (by omega))
        · intro _
          decide
      · have inner : ∀ m l : Nat, (l : Int) + m = x i → xG X 33 [some (.ref v), some (.int (nI j)), some (.int (nI (wv (pvk x i * prm i ^ l)))), some (.int (nI i)), some (.int (g (6 * j + i))), some (.int (nI l))] [] f (z, 0, 0) := by
          intro m
          induction m with
          | zero =>
            intro l hl
            have htl : (nI l).toInt = x i := by rw [nI_int (by omega)]; omega
            have cT : (x i ≤ x i) = True := eq_true (Int.le_refl _)
            refine xgo O Rt xplX6_q xclX6_q [4, 33] 60 ?_
            simp (maxSteps := 10000000) (disch := omega) only [↓reduceIte, ↓xrun_s, ↓xck_e, xdo_e, xlg_0, xlg_c, xst1_0, xst1_1, xst1_c, xst2_0, xst2_1, xst2_c, xk2_n, xk2_i, xk2_a, xk2_l, xct_i, xct_a, xct_l, xf4_0, xf4_1, xf4_2, xf4_3, List.contains_cons, List.contains_nil, Bool.or_false, Bool.false_or, Bool.or_self, Bool.true_or, Bool.or_true, cond_true, cond_false, List.set_cons_zero, List.set_cons_succ, List.length_cons, List.length_nil, true_and, and_true, xu_s, xu_u, xeqs, Nat.le_refl, not_true_eq_false, xq_10, xq_01, Int32.reduceAdd, Int32.reduceMul, Int32.reduceSub, Int32.reduceLE, Int32.reduceLT, Int32.reduceToNatClampNeg, Nat.reduceAdd, Nat.reduceMul, Nat.reduceBEq, Nat.reduceLT, Nat.reduceLeDiff, Nat.reduceEqDiff, Nat.zero_add, Bool.false_eq_true, reduceCtorEq, if_false, if_true, not_false_eq_true, true_imp_iff, false_imp_iff, imp_self, ↓xil_e, ↓xll_e, ↓xal_e, ↓xs1i_e, ↓xs2i_e, ↓xs1l_e, ↓xs2l_e, ↓xsil_e, ↓xs1_e, ↓xs2_e, ↓xs1a_e, ↓xsia_e, ↓xsiia_e, ↓xslia_e, ↓xsaia_e, ↓xsva_e, ↓xse1i_e, ↓xse1l_e, ↓xse1a_e, ↓xse0_e, ↓xfv_0, ↓xfv_c, ↓xgf_e, ↓xpf_e, ↓xia_e, ↓xia_n, ↓xba_e, ↓xba_n, ↓xla_e, ↓xla_n, ↓xob_e, ↓xra_e, ↓xno_e, ↓xle_e, ↓xnr_i, ↓xnr_b0, ↓xnr_b1, ↓xnr_n, ↓xdo_e, ↓xkl_0, ↓xe_iconst, ↓xe_bipush, ↓xe_iadd, ↓xe_imul, ↓xe_iload, ↓xe_iload_n, ↓xe_aload_n, ↓xe_istore, ↓xe_istore_n, ↓xe_iinc, ↓xe_goto, ↓xe_getfield, ↓xe_iaload, ↓xe_ireturn, ↓xe_if_ge, ↓xe_icmp_ge, ↓xe_if_le, ↓xe_icmp_le, dX6_whole_0, dX6_whole_1, dX6_whole_2, dX6_whole_3, dX6_whole_4, dX6_whole_5, dX6_whole_7, dX6_whole_10, dX6_whole_11, dX6_whole_14, dX6_whole_16, dX6_whole_17, dX6_whole_18, dX6_whole_19, dX6_whole_20, dX6_whole_21, dX6_whole_23, dX6_whole_25, dX6_whole_28, dX6_whole_29, dX6_whole_30, dX6_whole_31, dX6_whole_33, dX6_whole_35, dX6_whole_37, dX6_whole_40, dX6_whole_41, dX6_whole_44, dX6_whole_45, dX6_whole_46, dX6_whole_49, dX6_whole_50, dX6_whole_51, dX6_whole_52, dX6_whole_54, dX6_whole_57, dX6_whole_58, dX6_whole_61, dX6_whole_62, dX6_whole_63, dX6_whole_66, dX6_whole_67, dX6_whole_68, dX6_whole_69, dX6_whole_70, dX6_whole_73, dX6_whole_76, dX6_whole_79, dX6_whole_82, dX6_whole_83, xpX6_7, xpX6_55, xkb_13, xkb_6, xki_0, xki_1, n_le, htl, hgi, cT, ni, xt_7_75, xtc_7_75, xt_25_5, xtc_25_5, xt_37_39, xtc_37_39, xt_41_35, xtc_41_35, xt_54_7, xtc_54_7, xt_58_11, xtc_58_11, xt_73_m40, xtc_73_m40, xt_79_m75, xtc_79_m75]
            have : pvk x i * prm i ^ l = pvk x (i + 1) := by
              show _ = pvk x i * prm i ^ (x i).toNat
              rw [show (x i).toNat = l by omega]
            rw [this]
            exact ih (i + 1) (by omega) (fun q hq => by
              by_cases e : q = i
              · rw [e]; exact hneg
              · exact hnn q (by omega)) _ _
          | succ m ihm =>
            intro l hl
            have htl : (nI l).toInt = (l : Int) := nI_int (by omega)
            have cF2 : (x i ≤ (l : Int)) = False := eq_false (by omega)
            have nl : nI l + 1 = nI (l + 1) := nI_1 l
            have hpos : 0 < pvk x i * prm i ^ l := Nat.mul_pos (pvk_pos x i) (Nat.pow_pos (by omega))
            have epw : pvk x i * prm i ^ (l + 1) = pvk x i * prm i ^ l * prm i := by rw [Nat.pow_succ, Nat.mul_assoc]
            generalize hW : pvk x i * prm i ^ l = W at *
            by_cases hW13 : W ≤ 13
            · have ew : wv W = W := by unfold wv; rw [if_pos hW13]
              rw [ew]
              have hWi : (nI W).toInt = (W : Int) := nI_int (by omega)
              have c0 : ((W : Int) ≤ 0) = False := eq_false (by omega)
              have hmul : nI W * nI (prm i) = nI (W * prm i) := pk_mul _ _
              have hle : W * prm i ≤ 13 * 13 := Nat.mul_le_mul hW13 hpb.2
              have hWpi : (nI (W * prm i)).toInt = ((W * prm i : Nat) : Int) := nI_int (by omega)
              have nxt := ihm (l + 1) (by omega)
              rw [epw] at nxt
              by_cases hn13 : W * prm i ≤ 13
              · have c1 : (((W * prm i : Nat) : Int) ≤ 13) = True := eq_true (by omega)
                have ew2 : wv (W * prm i) = W * prm i := by unfold wv; rw [if_pos hn13]
                rw [ew2] at nxt
                refine xgo O Rt xplX6_q xclX6_q [4, 33] 60 ?_
                simp (maxSteps := 10000000) (disch := omega) only [↓reduceIte, ↓xrun_s, ↓xck_e, xdo_e, xlg_0, xlg_c, xst1_0, xst1_1, xst1_c, xst2_0, xst2_1, xst2_c, xk2_n, xk2_i, xk2_a, xk2_l, xct_i, xct_a, xct_l, xf4_0, xf4_1, xf4_2, xf4_3, List.contains_cons, List.contains_nil, Bool.or_false, Bool.false_or, Bool.or_self, Bool.true_or, Bool.or_true, cond_true, cond_false, List.set_cons_zero, List.set_cons_succ, List.length_cons, List.length_nil, true_and, and_true, xu_s, xu_u, xeqs, Nat.le_refl, not_true_eq_false, xq_10, xq_01, Int32.reduceAdd, Int32.reduceMul, Int32.reduceSub, Int32.reduceLE, Int32.reduceLT, Int32.reduceToNatClampNeg, Nat.reduceAdd, Nat.reduceMul, Nat.reduceBEq, Nat.reduceLT, Nat.reduceLeDiff, Nat.reduceEqDiff, Nat.zero_add, Bool.false_eq_true, reduceCtorEq, if_false, if_true, not_false_eq_true, true_imp_iff, false_imp_iff, imp_self, ↓xil_e, ↓xll_e, ↓xal_e, ↓xs1i_e, ↓xs2i_e, ↓xs1l_e, ↓xs2l_e, ↓xsil_e, ↓xs1_e, ↓xs2_e, ↓xs1a_e, ↓xsia_e, ↓xsiia_e, ↓xslia_e, ↓xsaia_e, ↓xsva_e, ↓xse1i_e, ↓xse1l_e, ↓xse1a_e, ↓xse0_e, ↓xfv_0, ↓xfv_c, ↓xgf_e, ↓xpf_e, ↓xia_e, ↓xia_n, ↓xba_e, ↓xba_n, ↓xla_e, ↓xla_n, ↓xob_e, ↓xra_e, ↓xno_e, ↓xle_e, ↓xnr_i, ↓xnr_b0, ↓xnr_b1, ↓xnr_n, ↓xdo_e, ↓xkl_0, ↓xe_iconst, ↓xe_bipush, ↓xe_iadd, ↓xe_imul, ↓xe_iload, ↓xe_iload_n, ↓xe_aload_n, ↓xe_istore, ↓xe_istore_n, ↓xe_iinc, ↓xe_goto, ↓xe_getfield, ↓xe_iaload, ↓xe_ireturn, ↓xe_if_ge, ↓xe_icmp_ge, ↓xe_if_le, ↓xe_icmp_le, dX6_whole_0, dX6_whole_1, dX6_whole_2, dX6_whole_3, dX6_whole_4, dX6_whole_5, dX6_whole_7, dX6_whole_10, dX6_whole_11, dX6_whole_14, dX6_whole_16, dX6_whole_17, dX6_whole_18, dX6_whole_19, dX6_whole_20, dX6_whole_21, dX6_whole_23, dX6_whole_25, dX6_whole_28, dX6_whole_29, dX6_whole_30, dX6_whole_31, dX6_whole_33, dX6_whole_35, dX6_whole_37, dX6_whole_40, dX6_whole_41, dX6_whole_44, dX6_whole_45, dX6_whole_46, dX6_whole_49, dX6_whole_50, dX6_whole_51, dX6_whole_52, dX6_whole_54, dX6_whole_57, dX6_whole_58, dX6_whole_61, dX6_whole_62, dX6_whole_63, dX6_whole_66, dX6_whole_67, dX6_whole_68, dX6_whole_69, dX6_whole_70, dX6_whole_73, dX6_whole_76, dX6_whole_79, dX6_whole_82, dX6_whole_83, xpX6_7, xpX6_55, xkb_13, xkb_6, xki_0, xki_1, n_le, htl, hgi, cF2, hWi, n_0, c0, h6, hpr1, hpr, v2, v3, hmul, hWpi, c13, c1, nl, xt_7_75, xtc_7_75, xt_25_5, xtc_25_5, xt_37_39, xtc_37_39, xt_41_35, xtc_41_35, xt_54_7, xtc_54_7, xt_58_11, xtc_58_11, xt_73_m40, xtc_73_m40, xt_79_m75, xtc_79_m75]
                exact nxt
              · have c1 : (((W * prm i : Nat) : Int) ≤ 13) = False := eq_false (by omega)
                have ew2 : wv (W * prm i) = 0 := by unfold wv; rw [if_neg hn13]
                rw [ew2] at nxt
                refine xgo O Rt xplX6_q xclX6_q [4, 33] 60 ?_
                simp (maxSteps := 10000000) (disch := omega) only [↓reduceIte, ↓xrun_s, ↓xck_e, xdo_e, xlg_0, xlg_c, xst1_0, xst1_1, xst1_c, xst2_0, xst2_1, xst2_c, xk2_n, xk2_i, xk2_a, xk2_l, xct_i, xct_a, xct_l, xf4_0, xf4_1, xf4_2, xf4_3, List.contains_cons, List.contains_nil, Bool.or_false, Bool.false_or, Bool.or_self, Bool.true_or, Bool.or_true, cond_true, cond_false, List.set_cons_zero, List.set_cons_succ, List.length_cons, List.length_nil, true_and, and_true, xu_s, xu_u, xeqs, Nat.le_refl, not_true_eq_false, xq_10, xq_01, Int32.reduceAdd, Int32.reduceMul, Int32.reduceSub, Int32.reduceLE, Int32.reduceLT, Int32.reduceToNatClampNeg, Nat.reduceAdd, Nat.reduceMul, Nat.reduceBEq, Nat.reduceLT, Nat.reduceLeDiff, Nat.reduceEqDiff, Nat.zero_add, Bool.false_eq_true, reduceCtorEq, if_false, if_true, not_false_eq_true, true_imp_iff, false_imp_iff, imp_self, ↓xil_e, ↓xll_e, ↓xal_e, ↓xs1i_e, ↓xs2i_e, ↓xs1l_e, ↓xs2l_e, ↓xsil_e, ↓xs1_e, ↓xs2_e, ↓xs1a_e, ↓xsia_e, ↓xsiia_e, ↓xslia_e, ↓xsaia_e, ↓xsva_e, ↓xse1i_e, ↓xse1l_e, ↓xse1a_e, ↓xse0_e, ↓xfv_0, ↓xfv_c, ↓xgf_e, ↓xpf_e, ↓xia_e, ↓xia_n, ↓xba_e, ↓xba_n, ↓xla_e, ↓xla_n, ↓xob_e, ↓xra_e, ↓xno_e, ↓xle_e, ↓xnr_i, ↓xnr_b0, ↓xnr_b1, ↓xnr_n, ↓xdo_e, ↓xkl_0, ↓xe_iconst, ↓xe_bipush, ↓xe_iadd, ↓xe_imul, ↓xe_iload, ↓xe_iload_n, ↓xe_aload_n, ↓xe_istore, ↓xe_istore_n, ↓xe_iinc, ↓xe_goto, ↓xe_getfield, ↓xe_iaload, ↓xe_ireturn, ↓xe_if_ge, ↓xe_icmp_ge, ↓xe_if_le, ↓xe_icmp_le, dX6_whole_0, dX6_whole_1, dX6_whole_2, dX6_whole_3, dX6_whole_4, dX6_whole_5, dX6_whole_7, dX6_whole_10, dX6_whole_11, dX6_whole_14, dX6_whole_16, dX6_whole_17, dX6_whole_18, dX6_whole_19, dX6_whole_20, dX6_whole_21, dX6_whole_23, dX6_whole_25, dX6_whole_28, dX6_whole_29, dX6_whole_30, dX6_whole_31, dX6_whole_33, dX6_whole_35, dX6_whole_37, dX6_whole_40, dX6_whole_41, dX6_whole_44, dX6_whole_45, dX6_whole_46, dX6_whole_49, dX6_whole_50, dX6_whole_51, dX6_whole_52, dX6_whole_54, dX6_whole_57, dX6_whole_58, dX6_whole_61, dX6_whole_62, dX6_whole_63, dX6_whole_66, dX6_whole_67, dX6_whole_68, dX6_whole_69, dX6_whole_70, dX6_whole_73, dX6_whole_76, dX6_whole_79, dX6_whole_82, dX6_whole_83, xpX6_7, xpX6_55, xkb_13, xkb_6, xki_0, xki_1, n_le, htl, hgi, cF2, hWi, n_0, c0, h6, hpr1, hpr, v2, v3, hmul, hWpi, c13, c1, nl, xt_7_75, xtc_7_75, xt_25_5, xtc_25_5, xt_37_39, xtc_37_39, xt_41_35, xtc_41_35, xt_54_7, xtc_54_7, xt_58_11, xtc_58_11, xt_73_m40, xtc_73_m40, xt_79_m75, xtc_79_m75]
                exact nxt
            · have ew : wv W = 0 := by unfold wv; rw [if_neg hW13]
              rw [ew]
              have hWi : (nI 0).toInt = 0 := rfl
              have c0 : ((0 : Int) ≤ 0) = True := eq_true (Int.le_refl _)
              refine xgo O Rt xplX6_q xclX6_q [4, 33] 60 ?_
              simp (maxSteps := 10000000) (disch := omega) only [↓reduceIte, ↓xrun_s, ↓xck_e, xdo_e, xlg_0, xlg_c, xst1_0, xst1_1, xst1_c, xst2_0, xst2_1, xst2_c, xk2_n, xk2_i, xk2_a, xk2_l, xct_i, xct_a, xct_l, xf4_0, xf4_1, xf4_2, xf4_3, List.contains_cons, List.contains_nil, Bool.or_false, Bool.false_or, Bool.or_self, Bool.true_or, Bool.or_true, cond_true, cond_false, List.set_cons_zero, List.set_cons_succ, List.length_cons, List.length_nil, true_and, and_true, xu_s, xu_u, xeqs, Nat.le_refl, not_true_eq_false, xq_10, xq_01, Int32.reduceAdd, Int32.reduceMul, Int32.reduceSub, Int32.reduceLE, Int32.reduceLT, Int32.reduceToNatClampNeg, Nat.reduceAdd, Nat.reduceMul, Nat.reduceBEq, Nat.reduceLT, Nat.reduceLeDiff, Nat.reduceEqDiff, Nat.zero_add, Bool.false_eq_true, reduceCtorEq, if_false, if_true, not_false_eq_true, true_imp_iff, false_imp_iff, imp_self, ↓xil_e, ↓xll_e, ↓xal_e, ↓xs1i_e, ↓xs2i_e, ↓xs1l_e, ↓xs2l_e, ↓xsil_e, ↓xs1_e, ↓xs2_e, ↓xs1a_e, ↓xsia_e, ↓xsiia_e, ↓xslia_e, ↓xsaia_e, ↓xsva_e, ↓xse1i_e, ↓xse1l_e, ↓xse1a_e, ↓xse0_e, ↓xfv_0, ↓xfv_c, ↓xgf_e, ↓xpf_e, ↓xia_e, ↓xia_n, ↓xba_e, ↓xba_n, ↓xla_e, ↓xla_n, ↓xob_e, ↓xra_e, ↓xno_e, ↓xle_e, ↓xnr_i, ↓xnr_b0, ↓xnr_b1, ↓xnr_n, ↓xdo_e, ↓xkl_0, ↓xe_iconst, ↓xe_bipush, ↓xe_iadd, ↓xe_imul, ↓xe_iload, ↓xe_iload_n, ↓xe_aload_n, ↓xe_istore, ↓xe_istore_n, ↓xe_iinc, ↓xe_goto, ↓xe_getfield, ↓xe_iaload, ↓xe_ireturn, ↓xe_if_ge, ↓xe_icmp_ge, ↓xe_if_le, ↓xe_icmp_le, dX6_whole_0, dX6_whole_1, dX6_whole_2, dX6_whole_3, dX6_whole_4, dX6_whole_5, dX6_whole_7, dX6_whole_10, dX6_whole_11, dX6_whole_14, dX6_whole_16, dX6_whole_17, dX6_whole_18, dX6_whole_19, dX6_whole_20, dX6_whole_21, dX6_whole_23, dX6_whole_25, dX6_whole_28, dX6_whole_29, dX6_whole_30, dX6_whole_31, dX6_whole_33, dX6_whole_35, dX6_whole_37, dX6_whole_40, dX6_whole_41, dX6_whole_44, dX6_whole_45, dX6_whole_46, dX6_whole_49, dX6_whole_50, dX6_whole_51, dX6_whole_52, dX6_whole_54, dX6_whole_57, dX6_whole_58, dX6_whole_61, dX6_whole_62, dX6_whole_63, dX6_whole_66, dX6_whole_67, dX6_whole_68, dX6_whole_69, dX6_whole_70, dX6_whole_73, dX6_whole_76, dX6_whole_79, dX6_whole_82, dX6_whole_83, xpX6_7, xpX6_55, xkb_13, xkb_6, xki_0, xki_1, n_le, htl, hgi, cF2, hWi, n_0, c0, ni, xt_7_75, xtc_7_75, xt_25_5, xtc_25_5, xt_37_39, xtc_37_39, xt_41_35, xtc_41_35, xt_54_7, xtc_54_7, xt_58_11, xtc_58_11, xt_73_m40, xtc_73_m40, xt_79_m75, xtc_79_m75]
              have hge : W ≤ pvk x (i + 1) := by
                rw [← hW]
                show _ ≤ pvk x i * prm i ^ (x i).toNat
                exact Nat.mul_le_mul_left _ (Nat.pow_le_pow_right (by omega) (by omega))
              have := ih (i + 1) (by omega) (fun q hq => by
                by_cases e : q = i
                · rw [e]; exact hneg
                · exact hnn q (by omega)) (some (.int (g (6 * j + i)))) (some (.int (nI l)))
              rw [show wv (pvk x (i + 1)) = 0 by unfold wv; rw [if_neg (by omega)]] at this
              exact this
        have cP : (0 ≤ x i) = True := eq_true hneg
        refine xgo O Rt xplX6_q xclX6_q [4, 33] 60 ?_
        simp (maxSteps := 10000000) (disch := omega) only [↓reduceIte, ↓xrun_s, ↓xck_e, xdo_e, xlg_0, xlg_c, xst1_0, xst1_1, xst1_c, xst2_0, xst2_1, xst2_c, xk2_n, xk2_i, xk2_a, xk2_l, xct_i, xct_a, xct_l, xf4_0, xf4_1, xf4_2, xf4_3, List.contains_cons, List.contains_nil, Bool.or_false, Bool.false_or, Bool.or_self, Bool.true_or, Bool.or_true, cond_true, cond_false, List.set_cons_zero, List.set_cons_succ, List.length_cons, List.length_nil, true_and, and_true, xu_s, xu_u, xeqs, Nat.le_refl, not_true_eq_false, xq_10, xq_01, Int32.reduceAdd, Int32.reduceMul, Int32.reduceSub, Int32.reduceLE, Int32.reduceLT, Int32.reduceToNatClampNeg, Nat.reduceAdd, Nat.reduceMul, Nat.reduceBEq, Nat.reduceLT, Nat.reduceLeDiff, Nat.reduceEqDiff, Nat.zero_add, Bool.false_eq_true, reduceCtorEq, if_false, if_true, not_false_eq_true, true_imp_iff, false_imp_iff, imp_self, ↓xil_e, ↓xll_e, ↓xal_e, ↓xs1i_e, ↓xs2i_e, ↓xs1l_e, ↓xs2l_e, ↓xsil_e, ↓xs1_e, ↓xs2_e, ↓xs1a_e, ↓xsia_e, ↓xsiia_e, ↓xslia_e, ↓xsaia_e, ↓xsva_e, ↓xse1i_e, ↓xse1l_e, ↓xse1a_e, ↓xse0_e, ↓xfv_0, ↓xfv_c, ↓xgf_e, ↓xpf_e, ↓xia_e, ↓xia_n, ↓xba_e, ↓xba_n, ↓xla_e, ↓xla_n, ↓xob_e, ↓xra_e, ↓xno_e, ↓xle_e, ↓xnr_i, ↓xnr_b0, ↓xnr_b1, ↓xnr_n, ↓xdo_e, ↓xkl_0, ↓xe_iconst, ↓xe_bipush, ↓xe_iadd, ↓xe_imul, ↓xe_iload, ↓xe_iload_n, ↓xe_aload_n, ↓xe_istore, ↓xe_istore_n, ↓xe_iinc, ↓xe_goto, ↓xe_getfield, ↓xe_iaload, ↓xe_ireturn, ↓xe_if_ge, ↓xe_icmp_ge, ↓xe_if_le, ↓xe_icmp_le, dX6_whole_0, dX6_whole_1, dX6_whole_2, dX6_whole_3, dX6_whole_4, dX6_whole_5, dX6_whole_7, dX6_whole_10, dX6_whole_11, dX6_whole_14, dX6_whole_16, dX6_whole_17, dX6_whole_18, dX6_whole_19, dX6_whole_20, dX6_whole_21, dX6_whole_23, dX6_whole_25, dX6_whole_28, dX6_whole_29, dX6_whole_30, dX6_whole_31, dX6_whole_33, dX6_whole_35, dX6_whole_37, dX6_whole_40, dX6_whole_41, dX6_whole_44, dX6_whole_45, dX6_whole_46, dX6_whole_49, dX6_whole_50, dX6_whole_51, dX6_whole_52, dX6_whole_54, dX6_whole_57, dX6_whole_58, dX6_whole_61, dX6_whole_62, dX6_whole_63, dX6_whole_66, dX6_whole_67, dX6_whole_68, dX6_whole_69, dX6_whole_70, dX6_whole_73, dX6_whole_76, dX6_whole_79, dX6_whole_82, dX6_whole_83, xpX6_7, xpX6_55, xkb_13, xkb_6, xki_0, xki_1, n_le, six, hti, cF, h6, hg, c6, nri, v0, v1, hgi, n_0, cP, xt_7_75, xtc_7_75, xt_25_5, xtc_25_5, xt_37_39, xtc_37_39, xt_41_35, xtc_41_35, xt_54_7, xtc_54_7, xt_58_11, xtc_58_11, xt_73_m40, xtc_73_m40, xt_79_m75, xtc_79_m75]
        have := inner (x i).toNat 0 (by omega)
        rw [Nat.pow_zero, Nat.mul_one] at this
        exact this
  refine xgo O Rt xplX6_q xclX6_q [4, 33] 60 ?_
  simp (maxSteps := 10000000) (disch := omega) only [↓reduceIte, ↓xrun_s, ↓xck_e, xdo_e, xlg_0, xlg_c, xst1_0, xst1_1, xst1_c, xst2_0, xst2_1, xst2_c, xk2_n, xk2_i, xk2_a, xk2_l, xct_i, xct_a, xct_l, xf4_0, xf4_1, xf4_2, xf4_3, List.contains_cons, List.contains_nil, Bool.or_false, Bool.false_or, Bool.or_self, Bool.true_or, Bool.or_true, cond_true, cond_false, List.set_cons_zero, List.set_cons_succ, List.length_cons, List.length_nil, true_and, and_true, xu_s, xu_u, xeqs, Nat.le_refl, not_true_eq_false, xq_10, xq_01, Int32.reduceAdd, Int32.reduceMul, Int32.reduceSub, Int32.reduceLE, Int32.reduceLT, Int32.reduceToNatClampNeg, Nat.reduceAdd, Nat.reduceMul, Nat.reduceBEq, Nat.reduceLT, Nat.reduceLeDiff, Nat.reduceEqDiff, Nat.zero_add, Bool.false_eq_true, reduceCtorEq, if_false, if_true, not_false_eq_true, true_imp_iff, false_imp_iff, imp_self, ↓xil_e, ↓xll_e, ↓xal_e, ↓xs1i_e, ↓xs2i_e, ↓xs1l_e, ↓xs2l_e, ↓xsil_e, ↓xs1_e, ↓xs2_e, ↓xs1a_e, ↓xsia_e, ↓xsiia_e, ↓xslia_e, ↓xsaia_e, ↓xsva_e, ↓xse1i_e, ↓xse1l_e, ↓xse1a_e, ↓xse0_e, ↓xfv_0, ↓xfv_c, ↓xgf_e, ↓xpf_e, ↓xia_e, ↓xia_n, ↓xba_e, ↓xba_n, ↓xla_e, ↓xla_n, ↓xob_e, ↓xra_e, ↓xno_e, ↓xle_e, ↓xnr_i, ↓xnr_b0, ↓xnr_b1, ↓xnr_n, ↓xdo_e, ↓xkl_0, ↓xe_iconst, ↓xe_bipush, ↓xe_iadd, ↓xe_imul, ↓xe_iload, ↓xe_iload_n, ↓xe_aload_n, ↓xe_istore, ↓xe_istore_n, ↓xe_iinc, ↓xe_goto, ↓xe_getfield, ↓xe_iaload, ↓xe_ireturn, ↓xe_if_ge, ↓xe_icmp_ge, ↓xe_if_le, ↓xe_icmp_le, dX6_whole_0, dX6_whole_1, dX6_whole_2, dX6_whole_3, dX6_whole_4, dX6_whole_5, dX6_whole_7, dX6_whole_10, dX6_whole_11, dX6_whole_14, dX6_whole_16, dX6_whole_17, dX6_whole_18, dX6_whole_19, dX6_whole_20, dX6_whole_21, dX6_whole_23, dX6_whole_25, dX6_whole_28, dX6_whole_29, dX6_whole_30, dX6_whole_31, dX6_whole_33, dX6_whole_35, dX6_whole_37, dX6_whole_40, dX6_whole_41, dX6_whole_44, dX6_whole_45, dX6_whole_46, dX6_whole_49, dX6_whole_50, dX6_whole_51, dX6_whole_52, dX6_whole_54, dX6_whole_57, dX6_whole_58, dX6_whole_61, dX6_whole_62, dX6_whole_63, dX6_whole_66, dX6_whole_67, dX6_whole_68, dX6_whole_69, dX6_whole_70, dX6_whole_73, dX6_whole_76, dX6_whole_79, dX6_whole_82, dX6_whole_83, xpX6_7, xpX6_55, xkb_13, xkb_6, xki_0, xki_1, xt_7_75, xtc_7_75, xt_25_5, xtc_25_5, xt_37_39, xtc_37_39, xt_41_35, xtc_41_35, xt_54_7, xtc_54_7, xt_58_11, xtc_58_11, xt_73_m40, xtc_73_m40, xt_79_m75, xtc_79_m75]
  exact outer 6 0 (by omega) (fun q hq => absurd hq (by omega)) none none
