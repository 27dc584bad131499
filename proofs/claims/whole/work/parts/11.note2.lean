/-! ===== Arrays.fill, Note.clear, isAboveUnison, copyFrom ===== -/
theorem dJ7_fill_53178_0 : decode cJ7_fill_53178 0 = .ok (.iconst 0, 1) := by decide +kernel
theorem dJ7_fill_53178_1 : decode cJ7_fill_53178 1 = .ok (.istore_n 2, 1) := by decide +kernel
theorem dJ7_fill_53178_2 : decode cJ7_fill_53178 2 = .ok (.aload_n 0, 1) := by decide +kernel
theorem dJ7_fill_53178_3 : decode cJ7_fill_53178 3 = .ok (.arraylength, 1) := by decide +kernel
theorem dJ7_fill_53178_4 : decode cJ7_fill_53178 4 = .ok (.istore_n 3, 1) := by decide +kernel
theorem dJ7_fill_53178_5 : decode cJ7_fill_53178 5 = .ok (.iload_n 2, 1) := by decide +kernel
theorem dJ7_fill_53178_6 : decode cJ7_fill_53178 6 = .ok (.iload_n 3, 1) := by decide +kernel
theorem dJ7_fill_53178_7 : decode cJ7_fill_53178 7 = .ok (.if_icmp .ge 13, 3) := by decide +kernel
theorem dJ7_fill_53178_10 : decode cJ7_fill_53178 10 = .ok (.aload_n 0, 1) := by decide +kernel
theorem dJ7_fill_53178_11 : decode cJ7_fill_53178 11 = .ok (.iload_n 2, 1) := by decide +kernel
theorem dJ7_fill_53178_12 : decode cJ7_fill_53178 12 = .ok (.iload_n 1, 1) := by decide +kernel
theorem dJ7_fill_53178_13 : decode cJ7_fill_53178 13 = .ok (.iastore, 1) := by decide +kernel
theorem dJ7_fill_53178_14 : decode cJ7_fill_53178 14 = .ok (.iinc 2 1, 3) := by decide +kernel
theorem dJ7_fill_53178_17 : decode cJ7_fill_53178 17 = .ok (.goto (-12), 3) := by decide +kernel
theorem dJ7_fill_53178_20 : decode cJ7_fill_53178 20 = .ok (.return_, 1) := by decide +kernel
theorem dX1_clear_0 : decode cX1_clear 0 = .ok (.aload_n 0, 1) := by decide +kernel
theorem dX1_clear_1 : decode cX1_clear 1 = .ok (.getfield 9, 3) := by decide +kernel
theorem dX1_clear_4 : decode cX1_clear 4 = .ok (.iconst 0, 1) := by decide +kernel
theorem dX1_clear_5 : decode cX1_clear 5 = .ok (.invokestatic 15, 3) := by decide +kernel
theorem dX1_clear_8 : decode cX1_clear 8 = .ok (.aload_n 0, 1) := by decide +kernel
theorem dX1_clear_9 : decode cX1_clear 9 = .ok (.lconst 0, 1) := by decide +kernel
theorem dX1_clear_10 : decode cX1_clear 10 = .ok (.putfield 21, 3) := by decide +kernel
theorem dX1_clear_13 : decode cX1_clear 13 = .ok (.aload_n 0, 1) := by decide +kernel
theorem dX1_clear_14 : decode cX1_clear 14 = .ok (.lconst 0, 1) := by decide +kernel
theorem dX1_clear_15 : decode cX1_clear 15 = .ok (.putfield 25, 3) := by decide +kernel
theorem dX1_clear_18 : decode cX1_clear 18 = .ok (.aload_n 0, 1) := by decide +kernel
theorem dX1_clear_19 : decode cX1_clear 19 = .ok (.lconst 0, 1) := by decide +kernel
theorem dX1_clear_20 : decode cX1_clear 20 = .ok (.putfield 28, 3) := by decide +kernel
theorem dX1_clear_23 : decode cX1_clear 23 = .ok (.return_, 1) := by decide +kernel
theorem dX1_copyFrom_0 : decode cX1_copyFrom 0 = .ok (.aload_n 1, 1) := by decide +kernel
theorem dX1_copyFrom_1 : decode cX1_copyFrom 1 = .ok (.getfield 9, 3) := by decide +kernel
theorem dX1_copyFrom_4 : decode cX1_copyFrom 4 = .ok (.iconst 0, 1) := by decide +kernel
theorem dX1_copyFrom_5 : decode cX1_copyFrom 5 = .ok (.aload_n 0, 1) := by decide +kernel
theorem dX1_copyFrom_6 : decode cX1_copyFrom 6 = .ok (.getfield 9, 3) := by decide +kernel
theorem dX1_copyFrom_9 : decode cX1_copyFrom 9 = .ok (.iconst 0, 1) := by decide +kernel
theorem dX1_copyFrom_10 : decode cX1_copyFrom 10 = .ok (.bipush 6, 2) := by decide +kernel
theorem dX1_copyFrom_12 : decode cX1_copyFrom 12 = .ok (.invokestatic 31, 3) := by decide +kernel
theorem dX1_copyFrom_15 : decode cX1_copyFrom 15 = .ok (.aload_n 0, 1) := by decide +kernel
theorem dX1_copyFrom_16 : decode cX1_copyFrom 16 = .ok (.aload_n 1, 1) := by decide +kernel
theorem dX1_copyFrom_17 : decode cX1_copyFrom 17 = .ok (.getfield 21, 3) := by decide +kernel
theorem dX1_copyFrom_20 : decode cX1_copyFrom 20 = .ok (.putfield 21, 3) := by decide +kernel
theorem dX1_copyFrom_23 : decode cX1_copyFrom 23 = .ok (.aload_n 0, 1) := by decide +kernel
theorem dX1_copyFrom_24 : decode cX1_copyFrom 24 = .ok (.aload_n 1, 1) := by decide +kernel
theorem dX1_copyFrom_25 : decode cX1_copyFrom 25 = .ok (.getfield 25, 3) := by decide +kernel
theorem dX1_copyFrom_28 : decode cX1_copyFrom 28 = .ok (.putfield 25, 3) := by decide +kernel
theorem dX1_copyFrom_31 : decode cX1_copyFrom 31 = .ok (.aload_n 0, 1) := by decide +kernel
theorem dX1_copyFrom_32 : decode cX1_copyFrom 32 = .ok (.aload_n 1, 1) := by decide +kernel
theorem dX1_copyFrom_33 : decode cX1_copyFrom 33 = .ok (.getfield 28, 3) := by decide +kernel
theorem dX1_copyFrom_36 : decode cX1_copyFrom 36 = .ok (.putfield 28, 3) := by decide +kernel
theorem dX1_copyFrom_39 : decode cX1_copyFrom 39 = .ok (.return_, 1) := by decide +kernel
set_option maxRecDepth 100000 in
set_option maxHeartbeats 4000000 in
theorem c_fill (V : xV) {a n z : Nat} {f : xH} {g : Nat → Int32} {v : Int32} {post : Option Value → xH → Nat → Prop} (hf : f a = some (xI n g)) (hn : n < 2147483648)
    (hp : ∀ g', (∀ j, j < n → g' j = v) → post none (xu f a (xI n g')) z) :
    xMet V yJ7_fill_53178 cJ7_fill_53178 4 none 1 0 0 [.ref a, .int v] f z post := by
  refine xMet_of false (by decide) (Nat.le_of_ble_eq_true rfl) (fun h => by cases h) (fun X hX O Rt => ?_)
  have O : xO X cJ7_fill_53178 4 RJ7 1 0 0 false := O
  show xG X 0 [some (.ref a), some (.int v), none, none] [] f (z, 0, 0)
  have loop : ∀ k i g', i + k = n → (∀ j, j < i → g' j = v) → xG X 5 [some (.ref a), some (.int v), some (.int (nI i)), some (.int (nI n))] [] (xu f a (xI n g')) (z, 0, 0) := by
    intro k
    induction k with
    | zero =>
      intro i g' hi hg
      refine xgo O Rt xpl0_q xcl0_q [5] 30 ?_
      simp (maxSteps := 10000000) (disch := omega) only [↓reduceIte, ↓xrun_s, ↓xck_e, xdo_e, xlg_0, xlg_c, xst1_0, xst1_1, xst1_c, xst2_0, xst2_1, xst2_c, xk2_n, xk2_i, xk2_a, xk2_l, xct_i, xct_a, xct_l, xf4_0, xf4_1, xf4_2, xf4_3, List.contains_cons, List.contains_nil, Bool.or_false, Bool.false_or, Bool.or_self, Bool.true_or, Bool.or_true, cond_true, cond_false, List.set_cons_zero, List.set_cons_succ, List.length_cons, List.length_nil, true_and, and_true, xu_s, xu_u, xeqs, Nat.le_refl, not_true_eq_false, xq_10, xq_01, Int32.reduceAdd, Int32.reduceMul, Int32.reduceSub, Int32.reduceLE, Int32.reduceLT, Int32.reduceToNatClampNeg, Nat.reduceAdd, Nat.reduceMul, Nat.reduceBEq, Nat.reduceLT, Nat.reduceLeDiff, Nat.reduceEqDiff, Nat.zero_add, Bool.false_eq_true, reduceCtorEq, if_false, if_true, not_false_eq_true, true_imp_iff, false_imp_iff, imp_self, ↓xil_e, ↓xll_e, ↓xal_e, ↓xs1i_e, ↓xs2i_e, ↓xs1l_e, ↓xs2l_e, ↓xsil_e, ↓xs1_e, ↓xs2_e, ↓xs1a_e, ↓xsia_e, ↓xsiia_e, ↓xslia_e, ↓xsaia_e, ↓xsva_e, ↓xse1i_e, ↓xse1l_e, ↓xse1a_e, ↓xse0_e, ↓xfv_0, ↓xfv_c, ↓xgf_e, ↓xpf_e, ↓xia_e, ↓xia_n, ↓xba_e, ↓xba_n, ↓xla_e, ↓xla_n, ↓xob_e, ↓xra_e, ↓xno_e, ↓xle_e, ↓xnr_i, ↓xnr_b0, ↓xnr_b1, ↓xnr_n, ↓xdo_e, ↓xkl_0, ↓xe_iconst, ↓xe_iload_n, ↓xe_aload_n, ↓xe_istore_n, ↓xe_iinc, ↓xe_goto, ↓xe_iastore, ↓xe_arraylength, ↓xe_return_, ↓xe_icmp_ge, dJ7_fill_53178_0, dJ7_fill_53178_1, dJ7_fill_53178_2, dJ7_fill_53178_3, dJ7_fill_53178_4, dJ7_fill_53178_5, dJ7_fill_53178_6, dJ7_fill_53178_7, dJ7_fill_53178_10, dJ7_fill_53178_11, dJ7_fill_53178_12, dJ7_fill_53178_13, dJ7_fill_53178_14, dJ7_fill_53178_17, dJ7_fill_53178_20, xki_0, xki_1, nI_leI, xt_7_13, xtc_7_13, xt_17_m12, xtc_17_m12]
      exact ⟨fun _ => hp g' (fun j hj => hg j (by omega)), fun q => absurd (by omega) q⟩
    | succ k ih =>
      intro i g' hi hg
      refine xgo O Rt xpl0_q xcl0_q [5] 30 ?_
      simp (maxSteps := 10000000) (disch := omega) only [↓reduceIte, ↓xrun_s, ↓xck_e, xdo_e, xlg_0, xlg_c, xst1_0, xst1_1, xst1_c, xst2_0, xst2_1, xst2_c, xk2_n, xk2_i, xk2_a, xk2_l, xct_i, xct_a, xct_l, xf4_0, xf4_1, xf4_2, xf4_3, List.contains_cons, List.contains_nil, Bool.or_false, Bool.false_or, Bool.or_self, Bool.true_or, Bool.or_true, cond_true, cond_false, List.set_cons_zero, List.set_cons_succ, List.length_cons, List.length_nil, true_and, and_true, xu_s, xu_u, xeqs, Nat.le_refl, not_true_eq_false, xq_10, xq_01, Int32.reduceAdd, Int32.reduceMul, Int32.reduceSub, Int32.reduceLE, Int32.reduceLT, Int32.reduceToNatClampNeg, Nat.reduceAdd, Nat.reduceMul, Nat.reduceBEq, Nat.reduceLT, Nat.reduceLeDiff, Nat.reduceEqDiff, Nat.zero_add, Bool.false_eq_true, reduceCtorEq, if_false, if_true, not_false_eq_true, true_imp_iff, false_imp_iff, imp_self, ↓xil_e, ↓xll_e, ↓xal_e, ↓xs1i_e, ↓xs2i_e, ↓xs1l_e, ↓xs2l_e, ↓xsil_e, ↓xs1_e, ↓xs2_e, ↓xs1a_e, ↓xsia_e, ↓xsiia_e, ↓xslia_e, ↓xsaia_e, ↓xsva_e, ↓xse1i_e, ↓xse1l_e, ↓xse1a_e, ↓xse0_e, ↓xfv_0, ↓xfv_c, ↓xgf_e, ↓xpf_e, ↓xia_e, ↓xia_n, ↓xba_e, ↓xba_n, ↓xla_e, ↓xla_n, ↓xob_e, ↓xra_e, ↓xno_e, ↓xle_e, ↓xnr_i, ↓xnr_b0, ↓xnr_b1, ↓xnr_n, ↓xdo_e, ↓xkl_0, ↓xe_iconst, ↓xe_iload_n, ↓xe_aload_n, ↓xe_istore_n, ↓xe_iinc, ↓xe_goto, ↓xe_iastore, ↓xe_arraylength, ↓xe_return_, ↓xe_icmp_ge, dJ7_fill_53178_0, dJ7_fill_53178_1, dJ7_fill_53178_2, dJ7_fill_53178_3, dJ7_fill_53178_4, dJ7_fill_53178_5, dJ7_fill_53178_6, dJ7_fill_53178_7, dJ7_fill_53178_10, dJ7_fill_53178_11, dJ7_fill_53178_12, dJ7_fill_53178_13, dJ7_fill_53178_14, dJ7_fill_53178_17, dJ7_fill_53178_20, xki_0, xki_1, nI_leI, nI_clamp, nI_1, xt_7_13, xtc_7_13, xt_17_m12, xtc_17_m12]
      refine ⟨fun q => absurd q (by omega), fun _ => ⟨vp_in_nI (by omega) (by omega), ?_⟩⟩
      refine ih (i + 1) _ (by omega) (fun j hj => ?_)
      by_cases h : j = i
      · subst h; simp [upd]
      · simp [upd, h]; exact hg j (by omega)
  refine xgo O Rt xpl0_q xcl0_q [5] 30 ?_
  simp (maxSteps := 10000000) (disch := omega) only [↓reduceIte, ↓xrun_s, ↓xck_e, xdo_e, xlg_0, xlg_c, xst1_0, xst1_1, xst1_c, xst2_0, xst2_1, xst2_c, xk2_n, xk2_i, xk2_a, xk2_l, xct_i, xct_a, xct_l, xf4_0, xf4_1, xf4_2, xf4_3, List.contains_cons, List.contains_nil, Bool.or_false, Bool.false_or, Bool.or_self, Bool.true_or, Bool.or_true, cond_true, cond_false, List.set_cons_zero, List.set_cons_succ, List.length_cons, List.length_nil, true_and, and_true, xu_s, xu_u, xeqs, Nat.le_refl, not_true_eq_false, xq_10, xq_01, Int32.reduceAdd, Int32.reduceMul, Int32.reduceSub, Int32.reduceLE, Int32.reduceLT, Int32.reduceToNatClampNeg, Nat.reduceAdd, Nat.reduceMul, Nat.reduceBEq, Nat.reduceLT, Nat.reduceLeDiff, Nat.reduceEqDiff, Nat.zero_add, Bool.false_eq_true, reduceCtorEq, if_false, if_true, not_false_eq_true, true_imp_iff, false_imp_iff, imp_self, ↓xil_e, ↓xll_e, ↓xal_e, ↓xs1i_e, ↓xs2i_e, ↓xs1l_e, ↓xs2l_e, ↓xsil_e, ↓xs1_e, ↓xs2_e, ↓xs1a_e, ↓xsia_e, ↓xsiia_e, ↓xslia_e, ↓xsaia_e, ↓xsva_e, ↓xse1i_e, ↓xse1l_e, ↓xse1a_e, ↓xse0_e, ↓xfv_0, ↓xfv_c, ↓xgf_e, ↓xpf_e, ↓xia_e, ↓xia_n, ↓xba_e, ↓xba_n, ↓xla_e, ↓xla_n, ↓xob_e, ↓xra_e, ↓xno_e, ↓xle_e, ↓xnr_i, ↓xnr_b0, ↓xnr_b1, ↓xnr_n, ↓xdo_e, ↓xkl_0, ↓xe_iconst, ↓xe_iload_n, ↓xe_aload_n, ↓xe_istore_n, ↓xe_iinc, ↓xe_goto, ↓xe_iastore, ↓xe_arraylength, ↓xe_return_, ↓xe_icmp_ge, dJ7_fill_53178_0, dJ7_fill_53178_1, dJ7_fill_53178_2, dJ7_fill_53178_3, dJ7_fill_53178_4, dJ7_fill_53178_5, dJ7_fill_53178_6, dJ7_fill_53178_7, dJ7_fill_53178_10, dJ7_fill_53178_11, dJ7_fill_53178_12, dJ7_fill_53178_13, dJ7_fill_53178_14, dJ7_fill_53178_17, dJ7_fill_53178_20, xki_0, xki_1, hf, xt_7_13, xtc_7_13, xt_17_m12, xtc_17_m12]
  have := loop n 0 g (by omega) (fun j hj => by omega)
  rw [xu_id hf] at this
  exact this
set_option maxRecDepth 100000 in
set_option maxHeartbeats 4000000 in
theorem c_isAboveUnison (V : xV) {a b z : Nat} {f : xH} {x : xZ} {post : Option Value → xH → Nat → Prop} (hn : Nt f a b x) (hp : post (some (.int (if 0 < sz x then 1 else 0))) f z) :
    xMet V yX1_isAboveUnison cX1_isAboveUnison 1 (some .boolean) 2 0 0 [.ref a] f z post := by
  refine xMet_of false (by decide) (Nat.le_of_ble_eq_true rfl) (fun h => by cases h) (fun X hX O Rt => ?_)
  have O : xO X cX1_isAboveUnison 1 RX1 2 0 0 false := O
  show xG X 0 [some (.ref a)] [] f (z, 0, 0)
  obtain ⟨h0, e, h, m, l, hf, hf2, h3, h4, h5, h6, h7, h8⟩ := id hn
  refine xgo O Rt xplX1_q xclX1_q [] 60 ?_
  simp (maxSteps := 10000000) (disch := omega) only [↓reduceIte, ↓xrun_s, ↓xck_e, xdo_e, xlg_0, xlg_c, xst1_0, xst1_1, xst1_c, xst2_0, xst2_1, xst2_c, xk2_n, xk2_i, xk2_a, xk2_l, xct_i, xct_a, xct_l, xf4_0, xf4_1, xf4_2, xf4_3, List.contains_cons, List.contains_nil, Bool.or_false, Bool.false_or, Bool.or_self, Bool.true_or, Bool.or_true, cond_true, cond_false, List.set_cons_zero, List.set_cons_succ, List.length_cons, List.length_nil, true_and, and_true, xu_s, xu_u, xeqs, Nat.le_refl, not_true_eq_false, xq_10, xq_01, Int32.reduceAdd, Int32.reduceMul, Int32.reduceSub, Int32.reduceLE, Int32.reduceLT, Int32.reduceToNatClampNeg, Nat.reduceAdd, Nat.reduceMul, Nat.reduceBEq, Nat.reduceLT, Nat.reduceLeDiff, Nat.reduceEqDiff, Nat.zero_add, Bool.false_eq_true, reduceCtorEq, if_false, if_true, not_false_eq_true, true_imp_iff, false_imp_iff, imp_self, ↓xil_e, ↓xll_e, ↓xal_e, ↓xs1i_e, ↓xs2i_e, ↓xs1l_e, ↓xs2l_e, ↓xsil_e, ↓xs1_e, ↓xs2_e, ↓xs1a_e, ↓xsia_e, ↓xsiia_e, ↓xslia_e, ↓xsaia_e, ↓xsva_e, ↓xse1i_e, ↓xse1l_e, ↓xse1a_e, ↓xse0_e, ↓xfv_0, ↓xfv_c, ↓xgf_e, ↓xpf_e, ↓xia_e, ↓xia_n, ↓xba_e, ↓xba_n, ↓xla_e, ↓xla_n, ↓xob_e, ↓xra_e, ↓xno_e, ↓xle_e, ↓xnr_i, ↓xnr_b0, ↓xnr_b1, ↓xnr_n, ↓xdo_e, ↓xkl_0, ↓xe_iconst, ↓xe_lconst, ↓xe_lcmp, ↓xe_aload_n, ↓xe_goto, ↓xe_getfield, ↓xe_ireturn, ↓xe_if_ne, ↓xe_if_lt, ↓xe_invokevirtual, dX1_isAboveUnison_0, dX1_isAboveUnison_1, dX1_isAboveUnison_4, dX1_isAboveUnison_5, dX1_isAboveUnison_6, dX1_isAboveUnison_9, dX1_isAboveUnison_10, dX1_isAboveUnison_13, dX1_isAboveUnison_16, dX1_isAboveUnison_17, dX1_isAboveUnison_20, dX1_isAboveUnison_21, xpX1_21, xki_0, xki_1, xkl_0, xkl_1, hf, xt_6_14, xtc_6_14, xt_13_7, xtc_13_7, xt_17_4, xtc_17_4]
  rw [lg_cmp_lt, m_lt, m_0]
  refine ⟨fun q => ?_, fun q => ?_⟩
  · rw [if_neg (by omega)] at hp
    exact hp
  · refine xg_callVi (Qp := fun r f' => r = (if sz x = 0 then 1 else 0) ∧ f' = f) O dX1_isAboveUnison_10 xl_X1_46 xk_X1_isUnison (c_isUnison _ hn ⟨_, rfl, ⟨rfl, rfl⟩, rfl⟩) hf rfl rfl rfl (Nat.le_of_ble_eq_true rfl) rfl (Nat.le_of_ble_eq_true rfl) (Nat.le_of_ble_eq_true rfl) (Nat.le_of_ble_eq_true rfl) (fun r f1 hq => ?_)
    obtain ⟨rfl, rfl⟩ := hq
    by_cases hz : sz x = 0
    · rw [if_pos hz]
      refine xgo O Rt xplX1_q xclX1_q [] 60 ?_
      simp (maxSteps := 10000000) (disch := omega) only [↓reduceIte, ↓xrun_s, ↓xck_e, xdo_e, xlg_0, xlg_c, xst1_0, xst1_1, xst1_c, xst2_0, xst2_1, xst2_c, xk2_n, xk2_i, xk2_a, xk2_l, xct_i, xct_a, xct_l, xf4_0, xf4_1, xf4_2, xf4_3, List.contains_cons, List.contains_nil, Bool.or_false, Bool.false_or, Bool.or_self, Bool.true_or, Bool.or_true, cond_true, cond_false, List.set_cons_zero, List.set_cons_succ, List.length_cons, List.length_nil, true_and, and_true, xu_s, xu_u, xeqs, Nat.le_refl, not_true_eq_false, xq_10, xq_01, Int32.reduceAdd, Int32.reduceMul, Int32.reduceSub, Int32.reduceLE, Int32.reduceLT, Int32.reduceToNatClampNeg, Nat.reduceAdd, Nat.reduceMul, Nat.reduceBEq, Nat.reduceLT, Nat.reduceLeDiff, Nat.reduceEqDiff, Nat.zero_add, Bool.false_eq_true, reduceCtorEq, if_false, if_true, not_false_eq_true, true_imp_iff, false_imp_iff, imp_self, ↓xil_e, ↓xll_e, ↓xal_e, ↓xs1i_e, ↓xs2i_e, ↓xs1l_e, ↓xs2l_e, ↓xsil_e, ↓xs1_e, ↓xs2_e, ↓xs1a_e, ↓xsia_e, ↓xsiia_e, ↓xslia_e, ↓xsaia_e, ↓xsva_e, ↓xse1i_e, ↓xse1l_e, ↓xse1a_e, ↓xse0_e, ↓xfv_0, ↓xfv_c, ↓xgf_e, ↓xpf_e, ↓xia_e, ↓xia_n, ↓xba_e, ↓xba_n, ↓xla_e, ↓xla_n, ↓xob_e, ↓xra_e, ↓xno_e, ↓xle_e, ↓xnr_i, ↓xnr_b0, ↓xnr_b1, ↓xnr_n, ↓xdo_e, ↓xkl_0, ↓xe_iconst, ↓xe_lconst, ↓xe_lcmp, ↓xe_aload_n, ↓xe_goto, ↓xe_getfield, ↓xe_ireturn, ↓xe_if_ne, ↓xe_if_lt, ↓xe_invokevirtual, dX1_isAboveUnison_0, dX1_isAboveUnison_1, dX1_isAboveUnison_4, dX1_isAboveUnison_5, dX1_isAboveUnison_6, dX1_isAboveUnison_9, dX1_isAboveUnison_10, dX1_isAboveUnison_13, dX1_isAboveUnison_16, dX1_isAboveUnison_17, dX1_isAboveUnison_20, dX1_isAboveUnison_21, xpX1_21, xki_0, xki_1, xkl_0, xkl_1, hf, xt_6_14, xtc_6_14, xt_13_7, xtc_13_7, xt_17_4, xtc_17_4]
      rw [if_neg (by omega)] at hp
      exact hp
    · rw [if_neg hz]
      refine xgo O Rt xplX1_q xclX1_q [] 60 ?_
      simp (maxSteps := 10000000) (disch := omega) only [↓reduceIte, ↓xrun_s, ↓xck_e, xdo_e, xlg_0, xlg_c, xst1_0, xst1_1, xst1_c, xst2_0, xst2_1, xst2_c, xk2_n, xk2_i, xk2_a, xk2_l, xct_i, xct_a, xct_l, xf4_0, xf4_1, xf4_2, xf4_3, List.contains_cons, List.contains_nil, Bool.or_false, Bool.false_or, Bool.or_self, Bool.true_or, Bool.or_true, cond_true, cond_false, List.set_cons_zero, List.set_cons_succ, List.length_cons, List.length_nil, true_and, and_true, xu_s, xu_u, xeqs, Nat.le_refl, not_true_eq_false, xq_10, xq_01, Int32.reduceAdd, Int32.reduceMul, Int32.reduceSub, Int32.reduceLE, Int32.reduceLT, Int32.reduceToNatClampNeg, Nat.reduceAdd, Nat.reduceMul, Nat.reduceBEq, Nat.reduceLT, Nat.reduceLeDiff, Nat.reduceEqDiff, Nat.zero_add, Bool.false_eq_true, reduceCtorEq, if_false, if_true, not_false_eq_true, true_imp_iff, false_imp_iff, imp_self, ↓xil_e, ↓xll_e, ↓xal_e, ↓xs1i_e, ↓xs2i_e, ↓xs1l_e, ↓xs2l_e, ↓xsil_e, ↓xs1_e, ↓xs2_e, ↓xs1a_e, ↓xsia_e, ↓xsiia_e, ↓xslia_e, ↓xsaia_e, ↓xsva_e, ↓xse1i_e, ↓xse1l_e, ↓xse1a_e, ↓xse0_e, ↓xfv_0, ↓xfv_c, ↓xgf_e, ↓xpf_e, ↓xia_e, ↓xia_n, ↓xba_e, ↓xba_n, ↓xla_e, ↓xla_n, ↓xob_e, ↓xra_e, ↓xno_e, ↓xle_e, ↓xnr_i, ↓xnr_b0, ↓xnr_b1, ↓xnr_n, ↓xdo_e, ↓xkl_0, ↓xe_iconst, ↓xe_lconst, ↓xe_lcmp, ↓xe_aload_n, ↓xe_goto, ↓xe_getfield, ↓xe_ireturn, ↓xe_if_ne, ↓xe_if_lt, ↓xe_invokevirtual, dX1_isAboveUnison_0, dX1_isAboveUnison_1, dX1_isAboveUnison_4, dX1_isAboveUnison_5, dX1_isAboveUnison_6, dX1_isAboveUnison_9, dX1_isAboveUnison_10, dX1_isAboveUnison_13, dX1_isAboveUnison_16, dX1_isAboveUnison_17, dX1_isAboveUnison_20, dX1_isAboveUnison_21, xpX1_21, xki_0, xki_1, xkl_0, xkl_1, hf, xt_6_14, xtc_6_14, xt_13_7, xtc_13_7, xt_17_4, xtc_17_4]
      rw [if_pos (by omega)] at hp
      exact hp
set_option maxRecDepth 100000 in
set_option maxHeartbeats 4000000 in
theorem c_clear (V : xV) {a b z : Nat} {f : xH} {x : xZ} {post : Option Value → xH → Nat → Prop} (hn : Nt f a b x) (hp : ∀ f', (∀ q, q ≠ a → q ≠ b → f' q = f q) → Nt f' a b (fun _ => 0) → post none f' z) :
    xMet V yX1_clear cX1_clear 1 none 2 0 0 [.ref a] f z post := by
  refine xMet_of false (by decide) (Nat.le_of_ble_eq_true rfl) (fun h => by cases h) (fun X hX O Rt => ?_)
  have O : xO X cX1_clear 1 RX1 2 0 0 false := O
  show xG X 0 [some (.ref a)] [] f (z, 0, 0)
  obtain ⟨h0, e, h, m, l, hf, hf2, h3, h4, h5, h6, h7, h8⟩ := hn
  refine xgo O Rt xplX1_q xclX1_q [] 60 ?_
  simp (maxSteps := 10000000) (disch := omega) only [↓reduceIte, ↓xrun_s, ↓xck_e, xdo_e, xlg_0, xlg_c, xst1_0, xst1_1, xst1_c, xst2_0, xst2_1, xst2_c, xk2_n, xk2_i, xk2_a, xk2_l, xct_i, xct_a, xct_l, xf4_0, xf4_1, xf4_2, xf4_3, List.contains_cons, List.contains_nil, Bool.or_false, Bool.false_or, Bool.or_self, Bool.true_or, Bool.or_true, cond_true, cond_false, List.set_cons_zero, List.set_cons_succ, List.length_cons, List.length_nil, true_and, and_true, xu_s, xu_u, xeqs, Nat.le_refl, not_true_eq_false, xq_10, xq_01, Int32.reduceAdd, Int32.reduceMul, Int32.reduceSub, Int32.reduceLE, Int32.reduceLT, Int32.reduceToNatClampNeg, Nat.reduceAdd, Nat.reduceMul, Nat.reduceBEq, Nat.reduceLT, Nat.reduceLeDiff, Nat.reduceEqDiff, Nat.zero_add, Bool.false_eq_true, reduceCtorEq, if_false, if_true, not_false_eq_true, true_imp_iff, false_imp_iff, imp_self, ↓xil_e, ↓xll_e, ↓xal_e, ↓xs1i_e, ↓xs2i_e, ↓xs1l_e, ↓xs2l_e, ↓xsil_e, ↓xs1_e, ↓xs2_e, ↓xs1a_e, ↓xsia_e, ↓xsiia_e, ↓xslia_e, ↓xsaia_e, ↓xsva_e, ↓xse1i_e, ↓xse1l_e, ↓xse1a_e, ↓xse0_e, ↓xfv_0, ↓xfv_c, ↓xgf_e, ↓xpf_e, ↓xia_e, ↓xia_n, ↓xba_e, ↓xba_n, ↓xla_e, ↓xla_n, ↓xob_e, ↓xra_e, ↓xno_e, ↓xle_e, ↓xnr_i, ↓xnr_b0, ↓xnr_b1, ↓xnr_n, ↓xdo_e, ↓xkl_0, ↓xe_iconst, ↓xe_lconst, ↓xe_aload_n, ↓xe_getfield, ↓xe_putfield, ↓xe_return_, ↓xe_invokestatic, dX1_clear_0, dX1_clear_1, dX1_clear_4, dX1_clear_5, dX1_clear_8, dX1_clear_9, dX1_clear_10, dX1_clear_13, dX1_clear_14, dX1_clear_15, dX1_clear_18, dX1_clear_19, dX1_clear_20, dX1_clear_23, xpX1_9, xpX1_21, xpX1_25, xpX1_28, xki_0, xkl_0, xkl_1, hf, xft_1_1, xft_1_2, xft_1_3]
  refine xg_callSv (Qp := fun f' => ∃ g', (∀ j, j < 6 → g' j = 0) ∧ f' = xu f b (xI 6 g')) O dX1_clear_5 xl_X1_15 xk_J7_fill_53178 (c_fill _ (n := 6) hf2 (by omega) (fun g' hg => ⟨rfl, ⟨g', hg, rfl⟩, rfl⟩)) rfl (Nat.le_of_ble_eq_true rfl) rfl (Nat.le_of_ble_eq_true rfl) (Nat.le_of_ble_eq_true rfl) (Nat.le_of_ble_eq_true rfl) (fun f1 hq => ?_)
  obtain ⟨g', hg, rfl⟩ := hq
  have hfa : xu f b (xI 6 g') a = some (xNt b h m l) := by rw [xu_n h0]; exact hf
  refine xgo O Rt xplX1_q xclX1_q [] 60 ?_
  simp (maxSteps := 10000000) (disch := omega) only [↓reduceIte, ↓xrun_s, ↓xck_e, xdo_e, xlg_0, xlg_c, xst1_0, xst1_1, xst1_c, xst2_0, xst2_1, xst2_c, xk2_n, xk2_i, xk2_a, xk2_l, xct_i, xct_a, xct_l, xf4_0, xf4_1, xf4_2, xf4_3, List.contains_cons, List.contains_nil, Bool.or_false, Bool.false_or, Bool.or_self, Bool.true_or, Bool.or_true, cond_true, cond_false, List.set_cons_zero, List.set_cons_succ, List.length_cons, List.length_nil, true_and, and_true, xu_s, xu_u, xeqs, Nat.le_refl, not_true_eq_false, xq_10, xq_01, Int32.reduceAdd, Int32.reduceMul, Int32.reduceSub, Int32.reduceLE, Int32.reduceLT, Int32.reduceToNatClampNeg, Nat.reduceAdd, Nat.reduceMul, Nat.reduceBEq, Nat.reduceLT, Nat.reduceLeDiff, Nat.reduceEqDiff, Nat.zero_add, Bool.false_eq_true, reduceCtorEq, if_false, if_true, not_false_eq_true, true_imp_iff, false_imp_iff, imp_self, ↓xil_e, ↓xll_e, ↓xal_e, ↓xs1i_e, ↓xs2i_e, ↓xs1l_e, ↓xs2l_e, ↓xsil_e, ↓xs1_e, ↓xs2_e, ↓xs1a_e, ↓xsia_e, ↓xsiia_e, ↓xslia_e, ↓xsaia_e, ↓xsva_e, ↓xse1i_e, ↓xse1l_e, ↓xse1a_e, ↓xse0_e, ↓xfv_0, ↓xfv_c, ↓xgf_e, ↓xpf_e, ↓xia_e, ↓xia_n, ↓xba_e, ↓xba_n, ↓xla_e, ↓xla_n, ↓xob_e, ↓xra_e, ↓xno_e, ↓xle_e, ↓xnr_i, ↓xnr_b0, ↓xnr_b1, ↓xnr_n, ↓xdo_e, ↓xkl_0, ↓xe_iconst, ↓xe_lconst, ↓xe_aload_n, ↓xe_getfield, ↓xe_putfield, ↓xe_return_, ↓xe_invokestatic, dX1_clear_0, dX1_clear_1, dX1_clear_4, dX1_clear_5, dX1_clear_8, dX1_clear_9, dX1_clear_10, dX1_clear_13, dX1_clear_14, dX1_clear_15, dX1_clear_18, dX1_clear_19, dX1_clear_20, dX1_clear_23, xpX1_9, xpX1_21, xpX1_25, xpX1_28, xki_0, xkl_0, xkl_1, hfa, xft_1_1, xft_1_2, xft_1_3]
  refine hp _ (fun q h1 h2 => by rw [xu_n h1, xu_n h2]) ⟨h0, g', 0, 0, 0, xu_s _ _ _, by rw [xu_n (Ne.symm h0), xu_s], fun k hk => by rw [hg k hk]; rfl, ?_⟩
  simp [sz]
set_option maxRecDepth 100000 in
set_option maxHeartbeats 4000000 in
theorem c_copyFrom (V : xV) {a b a' b' z : Nat} {f : xH} {x x' : xZ} {post : Option Value → xH → Nat → Prop} (hn : Nt f a b x) (hn' : Nt f a' b' x') (h1 : a' ≠ a) (h2 : a' ≠ b) (h3 : b' ≠ a) (hp : ∀ f', (∀ q, q ≠ a → q ≠ b → f' q = f q) → Nt f' a b x' → post none f' z) :
    xMet V yX1_copyFrom cX1_copyFrom 2 none 1 0 0 [.ref a, .ref a'] f z post := by
  refine xMet_of false (by decide) (Nat.le_of_ble_eq_true rfl) (fun h => by cases h) (fun X hX O Rt => ?_)
  have O : xO X cX1_copyFrom 2 RX1 1 0 0 false := O
  show xG X 0 [some (.ref a), some (.ref a')] [] f (z, 0, 0)
  obtain ⟨h0, e, h, m, l, hf, hf2, hn3, hn4, h5, h6, h7, h8⟩ := hn
  obtain ⟨g0, e', h', m', l', gf, gf2, g3, g4, g5, g6, g7, g8⟩ := hn'
  refine xgo O Rt xplX1_q xclX1_q [] 60 ?_
  simp (maxSteps := 10000000) (disch := omega) only [↓reduceIte, ↓xrun_s, ↓xck_e, xdo_e, xlg_0, xlg_c, xst1_0, xst1_1, xst1_c, xst2_0, xst2_1, xst2_c, xk2_n, xk2_i, xk2_a, xk2_l, xct_i, xct_a, xct_l, xf4_0, xf4_1, xf4_2, xf4_3, List.contains_cons, List.contains_nil, Bool.or_false, Bool.false_or, Bool.or_self, Bool.true_or, Bool.or_true, cond_true, cond_false, List.set_cons_zero, List.set_cons_succ, List.length_cons, List.length_nil, true_and, and_true, xu_s, xu_u, xeqs, Nat.le_refl, not_true_eq_false, xq_10, xq_01, Int32.reduceAdd, Int32.reduceMul, Int32.reduceSub, Int32.reduceLE, Int32.reduceLT, Int32.reduceToNatClampNeg, Nat.reduceAdd, Nat.reduceMul, Nat.reduceBEq, Nat.reduceLT, Nat.reduceLeDiff, Nat.reduceEqDiff, Nat.zero_add, Bool.false_eq_true, reduceCtorEq, if_false, if_true, not_false_eq_true, true_imp_iff, false_imp_iff, imp_self, ↓xil_e, ↓xll_e, ↓xal_e, ↓xs1i_e, ↓xs2i_e, ↓xs1l_e, ↓xs2l_e, ↓xsil_e, ↓xs1_e, ↓xs2_e, ↓xs1a_e, ↓xsia_e, ↓xsiia_e, ↓xslia_e, ↓xsaia_e, ↓xsva_e, ↓xse1i_e, ↓xse1l_e, ↓xse1a_e, ↓xse0_e, ↓xfv_0, ↓xfv_c, ↓xgf_e, ↓xpf_e, ↓xia_e, ↓xia_n, ↓xba_e, ↓xba_n, ↓xla_e, ↓xla_n, ↓xob_e, ↓xra_e, ↓xno_e, ↓xle_e, ↓xnr_i, ↓xnr_b0, ↓xnr_b1, ↓xnr_n, ↓xdo_e, ↓xkl_0, ↓xe_iconst, ↓xe_bipush, ↓xe_aload_n, ↓xe_getfield, ↓xe_putfield, ↓xe_return_, ↓xe_invokestatic, dX1_copyFrom_0, dX1_copyFrom_1, dX1_copyFrom_4, dX1_copyFrom_5, dX1_copyFrom_6, dX1_copyFrom_9, dX1_copyFrom_10, dX1_copyFrom_12, dX1_copyFrom_15, dX1_copyFrom_16, dX1_copyFrom_17, dX1_copyFrom_20, dX1_copyFrom_23, dX1_copyFrom_24, dX1_copyFrom_25, dX1_copyFrom_28, dX1_copyFrom_31, dX1_copyFrom_32, dX1_copyFrom_33, dX1_copyFrom_36, dX1_copyFrom_39, xpX1_9, xpX1_21, xpX1_25, xpX1_28, xkb_6, xki_0, hf, gf, xft_1_1, xft_1_2, xft_1_3]
  refine xg_arraycopy O dX1_copyFrom_12 xo_copylink gf2 hf2 (by decide) (by decide) (by decide) (by decide) (by decide) (Nat.le_of_ble_eq_true rfl) rfl (Nat.le_of_ble_eq_true rfl) ?_
  have ha : ∀ e2, xu f b e2 a = some (xNt b h m l) := fun e2 => by rw [xu_n h0]; exact hf
  have ha' : ∀ e2, xu f b e2 a' = some (xNt b' h' m' l') := fun e2 => by rw [xu_n h2]; exact gf
  have hu : ∀ e2 e3 (f2 : xH), xu (xu f2 b e2) a e3 a' = f2 a' := fun e2 e3 f2 => by rw [xu_n h1, xu_n h2]
  refine xgo O Rt xplX1_q xclX1_q [] 60 ?_
  simp (maxSteps := 10000000) (disch := omega) only [↓reduceIte, ↓xrun_s, ↓xck_e, xdo_e, xlg_0, xlg_c, xst1_0, xst1_1, xst1_c, xst2_0, xst2_1, xst2_c, xk2_n, xk2_i, xk2_a, xk2_l, xct_i, xct_a, xct_l, xf4_0, xf4_1, xf4_2, xf4_3, List.contains_cons, List.contains_nil, Bool.or_false, Bool.false_or, Bool.or_self, Bool.true_or, Bool.or_true, cond_true, cond_false, List.set_cons_zero, List.set_cons_succ, List.length_cons, List.length_nil, true_and, and_true, xu_s, xu_u, xeqs, Nat.le_refl, not_true_eq_false, xq_10, xq_01, Int32.reduceAdd, Int32.reduceMul, Int32.reduceSub, Int32.reduceLE, Int32.reduceLT, Int32.reduceToNatClampNeg, Nat.reduceAdd, Nat.reduceMul, Nat.reduceBEq, Nat.reduceLT, Nat.reduceLeDiff, Nat.reduceEqDiff, Nat.zero_add, Bool.false_eq_true, reduceCtorEq, if_false, if_true, not_false_eq_true, true_imp_iff, false_imp_iff, imp_self, ↓xil_e, ↓xll_e, ↓xal_e, ↓xs1i_e, ↓xs2i_e, ↓xs1l_e, ↓xs2l_e, ↓xsil_e, ↓xs1_e, ↓xs2_e, ↓xs1a_e, ↓xsia_e, ↓xsiia_e, ↓xslia_e, ↓xsaia_e, ↓xsva_e, ↓xse1i_e, ↓xse1l_e, ↓xse1a_e, ↓xse0_e, ↓xfv_0, ↓xfv_c, ↓xgf_e, ↓xpf_e, ↓xia_e, ↓xia_n, ↓xba_e, ↓xba_n, ↓xla_e, ↓xla_n, ↓xob_e, ↓xra_e, ↓xno_e, ↓xle_e, ↓xnr_i, ↓xnr_b0, ↓xnr_b1, ↓xnr_n, ↓xdo_e, ↓xkl_0, ↓xe_iconst, ↓xe_bipush, ↓xe_aload_n, ↓xe_getfield, ↓xe_putfield, ↓xe_return_, ↓xe_invokestatic, dX1_copyFrom_0, dX1_copyFrom_1, dX1_copyFrom_4, dX1_copyFrom_5, dX1_copyFrom_6, dX1_copyFrom_9, dX1_copyFrom_10, dX1_copyFrom_12, dX1_copyFrom_15, dX1_copyFrom_16, dX1_copyFrom_17, dX1_copyFrom_20, dX1_copyFrom_23, dX1_copyFrom_24, dX1_copyFrom_25, dX1_copyFrom_28, dX1_copyFrom_31, dX1_copyFrom_32, dX1_copyFrom_33, dX1_copyFrom_36, dX1_copyFrom_39, xpX1_9, xpX1_21, xpX1_25, xpX1_28, xkb_6, xki_0, ha, ha', hu, gf, xft_1_1, xft_1_2, xft_1_3]
  refine hp _ (fun q q1 q2 => by rw [xu_n q1, xu_n q2]) ⟨h0, _, h', m', l', xu_s _ _ _, by rw [xu_n (Ne.symm h0), xu_s], fun k hk => ?_, g4, g5, g6, g7, g8⟩
  rw [← g3 k hk]
  rw [pk_cpy_in (by omega) (by omega)]
  congr 2
  omega
