/-! ===== Scale.setNote, arrange ===== -/
theorem bd.mono {x : xZ} {A B : Int} (h : bd x A) (hAB : A ≤ B) : bd x B := fun k hk => ⟨by have := (h k hk).1; omega, by have := (h k hk).2; omega⟩
theorem dX3_setNote_0 : decode cX3_setNote 0 = .ok (.aload_n 0, 1) := by decide +kernel
theorem dX3_setNote_1 : decode cX3_setNote 1 = .ok (.invokevirtual 59, 3) := by decide +kernel
theorem dX3_setNote_4 : decode cX3_setNote 4 = .ok (.iconst 0, 1) := by decide +kernel
theorem dX3_setNote_5 : decode cX3_setNote 5 = .ok (.istore_n 3, 1) := by decide +kernel
theorem dX3_setNote_6 : decode cX3_setNote 6 = .ok (.iload_n 3, 1) := by decide +kernel
theorem dX3_setNote_7 : decode cX3_setNote 7 = .ok (.bipush 6, 2) := by decide +kernel
theorem dX3_setNote_9 : decode cX3_setNote 9 = .ok (.if_icmp .ge 19, 3) := by decide +kernel
theorem dX3_setNote_12 : decode cX3_setNote 12 = .ok (.aload_n 0, 1) := by decide +kernel
theorem dX3_setNote_13 : decode cX3_setNote 13 = .ok (.iload_n 3, 1) := by decide +kernel
theorem dX3_setNote_14 : decode cX3_setNote 14 = .ok (.aload_n 1, 1) := by decide +kernel
theorem dX3_setNote_15 : decode cX3_setNote 15 = .ok (.iload_n 2, 1) := by decide +kernel
theorem dX3_setNote_16 : decode cX3_setNote 16 = .ok (.iload_n 3, 1) := by decide +kernel
theorem dX3_setNote_17 : decode cX3_setNote 17 = .ok (.iadd, 1) := by decide +kernel
theorem dX3_setNote_18 : decode cX3_setNote 18 = .ok (.iaload, 1) := by decide +kernel
theorem dX3_setNote_19 : decode cX3_setNote 19 = .ok (.invokevirtual 42, 3) := by decide +kernel
theorem dX3_setNote_22 : decode cX3_setNote 22 = .ok (.iinc 3 1, 3) := by decide +kernel
theorem dX3_setNote_25 : decode cX3_setNote 25 = .ok (.goto (-19), 3) := by decide +kernel
theorem dX3_setNote_28 : decode cX3_setNote 28 = .ok (.return_, 1) := by decide +kernel
theorem dX3_arrange_0 : decode cX3_arrange 0 = .ok (.iconst 0, 1) := by decide +kernel
theorem dX3_arrange_1 : decode cX3_arrange 1 = .ok (.istore_n 1, 1) := by decide +kernel
theorem dX3_arrange_2 : decode cX3_arrange 2 = .ok (.iload_n 1, 1) := by decide +kernel
theorem dX3_arrange_3 : decode cX3_arrange 3 = .ok (.aload_n 0, 1) := by decide +kernel
theorem dX3_arrange_4 : decode cX3_arrange 4 = .ok (.getfield 38, 3) := by decide +kernel
theorem dX3_arrange_7 : decode cX3_arrange 7 = .ok (.if_icmp .ge 75, 3) := by decide +kernel
theorem dX3_arrange_10 : decode cX3_arrange 10 = .ok (.aload_n 0, 1) := by decide +kernel
theorem dX3_arrange_11 : decode cX3_arrange 11 = .ok (.getfield 20, 3) := by decide +kernel
theorem dX3_arrange_14 : decode cX3_arrange 14 = .ok (.iload_n 1, 1) := by decide +kernel
theorem dX3_arrange_15 : decode cX3_arrange 15 = .ok (.aload_n 0, 1) := by decide +kernel
theorem dX3_arrange_16 : decode cX3_arrange 16 = .ok (.getfield 11, 3) := by decide +kernel
theorem dX3_arrange_19 : decode cX3_arrange 19 = .ok (.iload_n 1, 1) := by decide +kernel
theorem dX3_arrange_20 : decode cX3_arrange 20 = .ok (.aaload, 1) := by decide +kernel
theorem dX3_arrange_21 : decode cX3_arrange 21 = .ok (.aload_n 0, 1) := by decide +kernel
theorem dX3_arrange_22 : decode cX3_arrange 22 = .ok (.getfield 28, 3) := by decide +kernel
theorem dX3_arrange_25 : decode cX3_arrange 25 = .ok (.invokevirtual 62, 3) := by decide +kernel
theorem dX3_arrange_28 : decode cX3_arrange 28 = .ok (.iastore, 1) := by decide +kernel
theorem dX3_arrange_29 : decode cX3_arrange 29 = .ok (.aload_n 0, 1) := by decide +kernel
theorem dX3_arrange_30 : decode cX3_arrange 30 = .ok (.getfield 17, 3) := by decide +kernel
theorem dX3_arrange_33 : decode cX3_arrange 33 = .ok (.iload_n 1, 1) := by decide +kernel
theorem dX3_arrange_34 : decode cX3_arrange 34 = .ok (.aaload, 1) := by decide +kernel
theorem dX3_arrange_35 : decode cX3_arrange 35 = .ok (.aload_n 0, 1) := by decide +kernel
theorem dX3_arrange_36 : decode cX3_arrange 36 = .ok (.getfield 11, 3) := by decide +kernel
theorem dX3_arrange_39 : decode cX3_arrange 39 = .ok (.iload_n 1, 1) := by decide +kernel
theorem dX3_arrange_40 : decode cX3_arrange 40 = .ok (.aaload, 1) := by decide +kernel
theorem dX3_arrange_41 : decode cX3_arrange 41 = .ok (.invokevirtual 70, 3) := by decide +kernel
theorem dX3_arrange_44 : decode cX3_arrange 44 = .ok (.aload_n 0, 1) := by decide +kernel
theorem dX3_arrange_45 : decode cX3_arrange 45 = .ok (.getfield 17, 3) := by decide +kernel
theorem dX3_arrange_48 : decode cX3_arrange 48 = .ok (.iload_n 1, 1) := by decide +kernel
theorem dX3_arrange_49 : decode cX3_arrange 49 = .ok (.aaload, 1) := by decide +kernel
theorem dX3_arrange_50 : decode cX3_arrange 50 = .ok (.aload_n 0, 1) := by decide +kernel
theorem dX3_arrange_51 : decode cX3_arrange 51 = .ok (.getfield 28, 3) := by decide +kernel
theorem dX3_arrange_54 : decode cX3_arrange 54 = .ok (.aload_n 0, 1) := by decide +kernel
theorem dX3_arrange_55 : decode cX3_arrange 55 = .ok (.getfield 20, 3) := by decide +kernel
theorem dX3_arrange_58 : decode cX3_arrange 58 = .ok (.iload_n 1, 1) := by decide +kernel
theorem dX3_arrange_59 : decode cX3_arrange 59 = .ok (.iaload, 1) := by decide +kernel
theorem dX3_arrange_60 : decode cX3_arrange 60 = .ok (.ineg, 1) := by decide +kernel
theorem dX3_arrange_61 : decode cX3_arrange 61 = .ok (.invokevirtual 66, 3) := by decide +kernel
theorem dX3_arrange_64 : decode cX3_arrange 64 = .ok (.aload_n 0, 1) := by decide +kernel
theorem dX3_arrange_65 : decode cX3_arrange 65 = .ok (.getfield 24, 3) := by decide +kernel
theorem dX3_arrange_68 : decode cX3_arrange 68 = .ok (.iload_n 1, 1) := by decide +kernel
theorem dX3_arrange_69 : decode cX3_arrange 69 = .ok (.iload_n 1, 1) := by decide +kernel
theorem dX3_arrange_70 : decode cX3_arrange 70 = .ok (.iastore, 1) := by decide +kernel
theorem dX3_arrange_71 : decode cX3_arrange 71 = .ok (.aload_n 0, 1) := by decide +kernel
theorem dX3_arrange_72 : decode cX3_arrange 72 = .ok (.iload_n 1, 1) := by decide +kernel
theorem dX3_arrange_73 : decode cX3_arrange 73 = .ok (.invokevirtual 82, 3) := by decide +kernel
theorem dX3_arrange_76 : decode cX3_arrange 76 = .ok (.iinc 1 1, 3) := by decide +kernel
theorem dX3_arrange_79 : decode cX3_arrange 79 = .ok (.goto (-77), 3) := by decide +kernel
theorem dX3_arrange_82 : decode cX3_arrange 82 = .ok (.return_, 1) := by decide +kernel
set_option maxRecDepth 100000 in
set_option maxHeartbeats 4000000 in
theorem c_setNote (V : xV) {a b pa z r0 np : Nat} {f : xH} {x : xZ} {g : Nat → Int32} {post : Option Value → xH → Nat → Prop} (hn : Nt f a b x) (hg : f pa = some (xI np g)) (n1 : pa ≠ a) (n2 : pa ≠ b) (hr : r0 + 6 ≤ np) (hnp : np < 2147483648) (hb : ∀ k, k < 6 → -1000 ≤ (g (r0 + k)).toInt ∧ (g (r0 + k)).toInt ≤ 1000)
    (hp : ∀ f', (∀ q, q ≠ a → q ≠ b → f' q = f q) → Nt f' a b (fun k => (g (r0 + k)).toInt) → post none f' z) :
    xMet V yX3_setNote cX3_setNote 4 none 3 0 0 [.ref a, .ref pa, .int (nI r0)] f z post := by
  refine xMet_of false (by decide) (Nat.le_of_ble_eq_true rfl) (fun h => by cases h) (fun X hX O Rt => ?_)
  have O : xO X cX3_setNote 4 RX3 3 0 0 false := O
  show xG X 0 [some (.ref a), some (.ref pa), some (.int (nI r0)), none] [] f (z, 0, 0)
  obtain ⟨-, _, _, _, _, hfa, -⟩ := id hn
  have six : (6 : Int32).toInt = 6 := rfl
  have loop : ∀ k i : Nat, i + k = 6 → ∀ f', (∀ q, q ≠ a → q ≠ b → f' q = f q) → Nt f' a b (fun k => if k < i then (g (r0 + k)).toInt else 0) → xG X 6 [some (.ref a), some (.ref pa), some (.int (nI r0)), some (.int (nI i))] [] f' (z, 0, 0) := by
    intro k
    induction k with
    | zero =>
      intro i hi f' k1 h1
      have hti : (nI i).toInt = 6 := by rw [nI_toInt (by omega)]; omega
      refine xgo O Rt xplX3_q xclX3_q [6] 30 ?_
      simp (maxSteps := 10000000) (disch := omega) only [↓reduceIte, ↓xrun_s, ↓xck_e, xdo_e, xlg_0, xlg_c, xst1_0, xst1_1, xst1_c, xst2_0, xst2_1, xst2_c, xk2_n, xk2_i, xk2_a, xk2_l, xct_i, xct_a, xct_l, xf4_0, xf4_1, xf4_2, xf4_3, List.contains_cons, List.contains_nil, Bool.or_false, Bool.false_or, Bool.or_self, Bool.true_or, Bool.or_true, cond_true, cond_false, List.set_cons_zero, List.set_cons_succ, List.length_cons, List.length_nil, true_and, and_true, xu_s, xu_u, xeqs, Nat.le_refl, not_true_eq_false, xq_10, xq_01, Int32.reduceAdd, Int32.reduceMul, Int32.reduceSub, Int32.reduceLE, Int32.reduceLT, Int32.reduceToNatClampNeg, Nat.reduceAdd, Nat.reduceMul, Nat.reduceBEq, Nat.reduceLT, Nat.reduceLeDiff, Nat.reduceEqDiff, Nat.zero_add, Bool.false_eq_true, reduceCtorEq, if_false, if_true, not_false_eq_true, true_imp_iff, false_imp_iff, imp_self, ↓xil_e, ↓xll_e, ↓xal_e, ↓xs1i_e, ↓xs2i_e, ↓xs1l_e, ↓xs2l_e, ↓xsil_e, ↓xs1_e, ↓xs2_e, ↓xs1a_e, ↓xsia_e, ↓xsiia_e, ↓xslia_e, ↓xsaia_e, ↓xsva_e, ↓xse1i_e, ↓xse1l_e, ↓xse1a_e, ↓xse0_e, ↓xfv_0, ↓xfv_c, ↓xgf_e, ↓xpf_e, ↓xia_e, ↓xia_n, ↓xba_e, ↓xba_n, ↓xla_e, ↓xla_n, ↓xob_e, ↓xra_e, ↓xno_e, ↓xle_e, ↓xnr_i, ↓xnr_b0, ↓xnr_b1, ↓xnr_n, ↓xdo_e, ↓xkl_0, ↓xe_iconst, ↓xe_bipush, ↓xe_iadd, ↓xe_iload_n, ↓xe_aload_n, ↓xe_istore_n, ↓xe_iinc, ↓xe_goto, ↓xe_iaload, ↓xe_return_, ↓xe_icmp_ge, ↓xe_invokevirtual, dX3_setNote_0, dX3_setNote_1, dX3_setNote_4, dX3_setNote_5, dX3_setNote_6, dX3_setNote_7, dX3_setNote_9, dX3_setNote_12, dX3_setNote_13, dX3_setNote_14, dX3_setNote_15, dX3_setNote_16, dX3_setNote_17, dX3_setNote_18, dX3_setNote_19, dX3_setNote_22, dX3_setNote_25, dX3_setNote_28, xkb_6, xki_0, xki_1, n_le, six, hti, xt_9_19, xtc_9_19, xt_25_m19, xtc_25_m19]
      exact ⟨fun _ => hp f' k1 (h1.ext (fun k hk => by rw [if_pos (by omega)])), fun q => absurd (by omega) q⟩
    | succ k ih =>
      intro i hi f' k1 h1
      have hti : (nI i).toInt = (i : Int) := nI_toInt (by omega)
      have ni : nI i + 1 = nI (i + 1) := nI_1 i
      have nr : nI r0 + nI i = nI (r0 + i) := nI_add _ _
      have v0 : vp_in (nI (r0 + i)) np := vp_in_nI (by omega) (by omega)
      have v1 : (nI (r0 + i)).toNatClampNeg = r0 + i := nI_clamp (by omega)
      have hg' : f' pa = some (xI np g) := by rw [k1 _ n1 n2]; exact hg
      obtain ⟨-, _, _, _, _, hfa', -⟩ := id h1
      have hbi := hb i (by omega)
      have hb0 : bd (fun k => if k < i then (g (r0 + k)).toInt else 0) 1000 := fun k hk => by
        have := hb k hk
        by_cases e : k < i
        · simp only [if_pos e]; omega
        · simp only [if_neg e]; omega
      have hsz := sz_bd hb0
      refine xgo O Rt xplX3_q xclX3_q [6] 30 ?_
      simp (maxSteps := 10000000) (disch := omega) only [↓reduceIte, ↓xrun_s, ↓xck_e, xdo_e, xlg_0, xlg_c, xst1_0, xst1_1, xst1_c, xst2_0, xst2_1, xst2_c, xk2_n, xk2_i, xk2_a, xk2_l, xct_i, xct_a, xct_l, xf4_0, xf4_1, xf4_2, xf4_3, List.contains_cons, List.contains_nil, Bool.or_false, Bool.false_or, Bool.or_self, Bool.true_or, Bool.or_true, cond_true, cond_false, List.set_cons_zero, List.set_cons_succ, List.length_cons, List.length_nil, true_and, and_true, xu_s, xu_u, xeqs, Nat.le_refl, not_true_eq_false, xq_10, xq_01, Int32.reduceAdd, Int32.reduceMul, Int32.reduceSub, Int32.reduceLE, Int32.reduceLT, Int32.reduceToNatClampNeg, Nat.reduceAdd, Nat.reduceMul, Nat.reduceBEq, Nat.reduceLT, Nat.reduceLeDiff, Nat.reduceEqDiff, Nat.zero_add, Bool.false_eq_true, reduceCtorEq, if_false, if_true, not_false_eq_true, true_imp_iff, false_imp_iff, imp_self, ↓xil_e, ↓xll_e, ↓xal_e, ↓xs1i_e, ↓xs2i_e, ↓xs1l_e, ↓xs2l_e, ↓xsil_e, ↓xs1_e, ↓xs2_e, ↓xs1a_e, ↓xsia_e, ↓xsiia_e, ↓xslia_e, ↓xsaia_e, ↓xsva_e, ↓xse1i_e, ↓xse1l_e, ↓xse1a_e, ↓xse0_e, ↓xfv_0, ↓xfv_c, ↓xgf_e, ↓xpf_e, ↓xia_e, ↓xia_n, ↓xba_e, ↓xba_n, ↓xla_e, ↓xla_n, ↓xob_e, ↓xra_e, ↓xno_e, ↓xle_e, ↓xnr_i, ↓xnr_b0, ↓xnr_b1, ↓xnr_n, ↓xdo_e, ↓xkl_0, ↓xe_iconst, ↓xe_bipush, ↓xe_iadd, ↓xe_iload_n, ↓xe_aload_n, ↓xe_istore_n, ↓xe_iinc, ↓xe_goto, ↓xe_iaload, ↓xe_return_, ↓xe_icmp_ge, ↓xe_invokevirtual, dX3_setNote_0, dX3_setNote_1, dX3_setNote_4, dX3_setNote_5, dX3_setNote_6, dX3_setNote_7, dX3_setNote_9, dX3_setNote_12, dX3_setNote_13, dX3_setNote_14, dX3_setNote_15, dX3_setNote_16, dX3_setNote_17, dX3_setNote_18, dX3_setNote_19, dX3_setNote_22, dX3_setNote_25, dX3_setNote_28, xkb_6, xki_0, xki_1, n_le, six, hti, nr, v0, v1, hg', xt_9_19, xtc_9_19, xt_25_m19, xtc_25_m19]
      refine ⟨fun q => absurd q (by omega), fun _ => ?_⟩
      refine xg_callVv (Qp := fun f2 => (∀ q, q ≠ a → q ≠ b → f2 q = f' q) ∧ Nt f2 a b (zone (fun k => if k < i then (g (r0 + k)).toInt else 0) i (g (r0 + i)).toInt)) O dX3_setNote_19 xl_X3_42 xk_X1_addPrime (c_addPrime _ h1 (by omega) (by omega) (by omega) (hb0.mono (by omega)) (fun f2 q1 q2 => ⟨rfl, ⟨q1, q2⟩, rfl⟩)) hfa' rfl rfl rfl (Nat.le_of_ble_eq_true rfl) rfl (Nat.le_of_ble_eq_true rfl) (Nat.le_of_ble_eq_true rfl) (Nat.le_of_ble_eq_true rfl) (fun f2 hq => ?_)
      obtain ⟨k2, h2⟩ := hq
      refine xgo O Rt xplX3_q xclX3_q [6] 30 ?_
      simp (maxSteps := 10000000) (disch := omega) only [↓reduceIte, ↓xrun_s, ↓xck_e, xdo_e, xlg_0, xlg_c, xst1_0, xst1_1, xst1_c, xst2_0, xst2_1, xst2_c, xk2_n, xk2_i, xk2_a, xk2_l, xct_i, xct_a, xct_l, xf4_0, xf4_1, xf4_2, xf4_3, List.contains_cons, List.contains_nil, Bool.or_false, Bool.false_or, Bool.or_self, Bool.true_or, Bool.or_true, cond_true, cond_false, List.set_cons_zero, List.set_cons_succ, List.length_cons, List.length_nil, true_and, and_true, xu_s, xu_u, xeqs, Nat.le_refl, not_true_eq_false, xq_10, xq_01, Int32.reduceAdd, Int32.reduceMul, Int32.reduceSub, Int32.reduceLE, Int32.reduceLT, Int32.reduceToNatClampNeg, Nat.reduceAdd, Nat.reduceMul, Nat.reduceBEq, Nat.reduceLT, Nat.reduceLeDiff, Nat.reduceEqDiff, Nat.zero_add, Bool.false_eq_true, reduceCtorEq, if_false, if_true, not_false_eq_true, true_imp_iff, false_imp_iff, imp_self, ↓xil_e, ↓xll_e, ↓xal_e, ↓xs1i_e, ↓xs2i_e, ↓xs1l_e, ↓xs2l_e, ↓xsil_e, ↓xs1_e, ↓xs2_e, ↓xs1a_e, ↓xsia_e, ↓xsiia_e, ↓xslia_e, ↓xsaia_e, ↓xsva_e, ↓xse1i_e, ↓xse1l_e, ↓xse1a_e, ↓xse0_e, ↓xfv_0, ↓xfv_c, ↓xgf_e, ↓xpf_e, ↓xia_e, ↓xia_n, ↓xba_e, ↓xba_n, ↓xla_e, ↓xla_n, ↓xob_e, ↓xra_e, ↓xno_e, ↓xle_e, ↓xnr_i, ↓xnr_b0, ↓xnr_b1, ↓xnr_n, ↓xdo_e, ↓xkl_0, ↓xe_iconst, ↓xe_bipush, ↓xe_iadd, ↓xe_iload_n, ↓xe_aload_n, ↓xe_istore_n, ↓xe_iinc, ↓xe_goto, ↓xe_iaload, ↓xe_return_, ↓xe_icmp_ge, ↓xe_invokevirtual, dX3_setNote_0, dX3_setNote_1, dX3_setNote_4, dX3_setNote_5, dX3_setNote_6, dX3_setNote_7, dX3_setNote_9, dX3_setNote_12, dX3_setNote_13, dX3_setNote_14, dX3_setNote_15, dX3_setNote_16, dX3_setNote_17, dX3_setNote_18, dX3_setNote_19, dX3_setNote_22, dX3_setNote_25, dX3_setNote_28, xkb_6, xki_0, xki_1, ni, xt_9_19, xtc_9_19, xt_25_m19, xtc_25_m19]
      refine ih (i + 1) (by omega) f2 (fun q q1 q2 => (k2 q q1 q2).trans (k1 q q1 q2)) (h2.ext (fun k hk => ?_))
      simp only [zone]
      by_cases e : k = i
      · rw [if_pos e, if_neg (by omega), if_pos (by omega), e]; omega
      · rw [if_neg e]
        by_cases e2 : k < i
        · rw [if_pos e2, if_pos (by omega)]
        · rw [if_neg e2, if_neg (by omega)]
  refine xgo O Rt xplX3_q xclX3_q [6] 30 ?_
  simp (maxSteps := 10000000) (disch := omega) only [↓reduceIte, ↓xrun_s, ↓xck_e, xdo_e, xlg_0, xlg_c, xst1_0, xst1_1, xst1_c, xst2_0, xst2_1, xst2_c, xk2_n, xk2_i, xk2_a, xk2_l, xct_i, xct_a, xct_l, xf4_0, xf4_1, xf4_2, xf4_3, List.contains_cons, List.contains_nil, Bool.or_false, Bool.false_or, Bool.or_self, Bool.true_or, Bool.or_true, cond_true, cond_false, List.set_cons_zero, List.set_cons_succ, List.length_cons, List.length_nil, true_and, and_true, xu_s, xu_u, xeqs, Nat.le_refl, not_true_eq_false, xq_10, xq_01, Int32.reduceAdd, Int32.reduceMul, Int32.reduceSub, Int32.reduceLE, Int32.reduceLT, Int32.reduceToNatClampNeg, Nat.reduceAdd, Nat.reduceMul, Nat.reduceBEq, Nat.reduceLT, Nat.reduceLeDiff, Nat.reduceEqDiff, Nat.zero_add, Bool.false_eq_true, reduceCtorEq, if_false, if_true, not_false_eq_true, true_imp_iff, false_imp_iff, imp_self, ↓xil_e, ↓xll_e, ↓xal_e, ↓xs1i_e, ↓xs2i_e, ↓xs1l_e, ↓xs2l_e, ↓xsil_e, ↓xs1_e, ↓xs2_e, ↓xs1a_e, ↓xsia_e, ↓xsiia_e, ↓xslia_e, ↓xsaia_e, ↓xsva_e, ↓xse1i_e, ↓xse1l_e, ↓xse1a_e, ↓xse0_e, ↓xfv_0, ↓xfv_c, ↓xgf_e, ↓xpf_e, ↓xia_e, ↓xia_n, ↓xba_e, ↓xba_n, ↓xla_e, ↓xla_n, ↓xob_e, ↓xra_e, ↓xno_e, ↓xle_e, ↓xnr_i, ↓xnr_b0, ↓xnr_b1, ↓xnr_n, ↓xdo_e, ↓xkl_0, ↓xe_iconst, ↓xe_bipush, ↓xe_iadd, ↓xe_iload_n, ↓xe_aload_n, ↓xe_istore_n, ↓xe_iinc, ↓xe_goto, ↓xe_iaload, ↓xe_return_, ↓xe_icmp_ge, ↓xe_invokevirtual, dX3_setNote_0, dX3_setNote_1, dX3_setNote_4, dX3_setNote_5, dX3_setNote_6, dX3_setNote_7, dX3_setNote_9, dX3_setNote_12, dX3_setNote_13, dX3_setNote_14, dX3_setNote_15, dX3_setNote_16, dX3_setNote_17, dX3_setNote_18, dX3_setNote_19, dX3_setNote_22, dX3_setNote_25, dX3_setNote_28, xkb_6, xki_0, xki_1, xt_9_19, xtc_9_19, xt_25_m19, xtc_25_m19]
  refine xg_callVv (Qp := fun f2 => (∀ q, q ≠ a → q ≠ b → f2 q = f q) ∧ Nt f2 a b (fun _ => 0)) O dX3_setNote_1 xl_X3_59 xk_X1_clear (c_clear _ hn (fun f2 q1 q2 => ⟨rfl, ⟨q1, q2⟩, rfl⟩)) hfa rfl rfl rfl (Nat.le_of_ble_eq_true rfl) rfl (Nat.le_of_ble_eq_true rfl) (Nat.le_of_ble_eq_true rfl) (Nat.le_of_ble_eq_true rfl) (fun f2 hq => ?_)
  obtain ⟨k2, h2⟩ := hq
  refine xgo O Rt xplX3_q xclX3_q [6] 30 ?_
  simp (maxSteps := 10000000) (disch := omega) only [↓reduceIte, ↓xrun_s, ↓xck_e, xdo_e, xlg_0, xlg_c, xst1_0, xst1_1, xst1_c, xst2_0, xst2_1, xst2_c, xk2_n, xk2_i, xk2_a, xk2_l, xct_i, xct_a, xct_l, xf4_0, xf4_1, xf4_2, xf4_3, List.contains_cons, List.contains_nil, Bool.or_false, Bool.false_or, Bool.or_self, Bool.true_or, Bool.or_true, cond_true, cond_false, List.set_cons_zero, List.set_cons_succ, List.length_cons, List.length_nil, true_and, and_true, xu_s, xu_u, xeqs, Nat.le_refl, not_true_eq_false, xq_10, xq_01, Int32.reduceAdd, Int32.reduceMul, Int32.reduceSub, Int32.reduceLE, Int32.reduceLT, Int32.reduceToNatClampNeg, Nat.reduceAdd, Nat.reduceMul, Nat.reduceBEq, Nat.reduceLT, Nat.reduceLeDiff, Nat.reduceEqDiff, Nat.zero_add, Bool.false_eq_true, reduceCtorEq, if_false, if_true, not_false_eq_true, true_imp_iff, false_imp_iff, imp_self, ↓xil_e, ↓xll_e, ↓xal_e, ↓xs1i_e, ↓xs2i_e, ↓xs1l_e, ↓xs2l_e, ↓xsil_e, ↓xs1_e, ↓xs2_e, ↓xs1a_e, ↓xsia_e, ↓xsiia_e, ↓xslia_e, ↓xsaia_e, ↓xsva_e, ↓xse1i_e, ↓xse1l_e, ↓xse1a_e, ↓xse0_e, ↓xfv_0, ↓xfv_c, ↓xgf_e, ↓xpf_e, ↓xia_e, ↓xia_n, ↓xba_e, ↓xba_n, ↓xla_e, ↓xla_n, ↓xob_e, ↓xra_e, ↓xno_e, ↓xle_e, ↓xnr_i, ↓xnr_b0, ↓xnr_b1, ↓xnr_n, ↓xdo_e, ↓xkl_0, ↓xe_iconst, ↓xe_bipush, ↓xe_iadd, ↓xe_iload_n, ↓xe_aload_n, ↓xe_istore_n, ↓xe_iinc, ↓xe_goto, ↓xe_iaload, ↓xe_return_, ↓xe_icmp_ge, ↓xe_invokevirtual, dX3_setNote_0, dX3_setNote_1, dX3_setNote_4, dX3_setNote_5, dX3_setNote_6, dX3_setNote_7, dX3_setNote_9, dX3_setNote_12, dX3_setNote_13, dX3_setNote_14, dX3_setNote_15, dX3_setNote_16, dX3_setNote_17, dX3_setNote_18, dX3_setNote_19, dX3_setNote_22, dX3_setNote_25, dX3_setNote_28, xkb_6, xki_0, xki_1, xt_9_19, xtc_9_19, xt_25_m19, xtc_25_m19]
  exact loop 6 0 (by omega) f2 k2 (h2.ext (fun k hk => by rw [if_neg (by omega)]))
/-- how many periods a note has; the note reduced -/
def qd (x P : xZ) : Int := sz x / sz P
def rdc (x P : xZ) : xZ := zadd x P (-(qd x P))
theorem qd_bd {x P : xZ} (hP : Per P) (hx : Stp' x) : -22 ≤ qd x P ∧ qd x P ≤ 22 ∧ tq (sz x) (sz P) = qd x P := by
  obtain ⟨-, p1, p2⟩ := hP
  obtain ⟨-, x1, x2⟩ := hx
  have d1 : -22 ≤ sz x / sz P := (Int.le_ediv_iff_mul_le (by omega)).mpr (by omega)
  have d2 : sz x / sz P < 23 := (Int.ediv_lt_iff_lt_mul (by omega)).mpr (by omega)
  refine ⟨d1, by unfold qd; omega, ?_⟩
  unfold tq
  rw [if_neg (by omega)]
  rfl
theorem rdc_sz {x P : xZ} (hP : 0 < sz P) : sz (rdc x P) = sz x - qd x P * sz P ∧ 0 ≤ sz (rdc x P) ∧ sz (rdc x P) < sz P := by
  have e : sz (rdc x P) = sz x - qd x P * sz P := by unfold rdc; rw [sz_zadd, Int.neg_mul]; omega
  have h1 := Int.ediv_mul_le (sz x) (show sz P ≠ 0 by omega)
  have h2 := Int.lt_ediv_add_one_mul_self (sz x) hP
  unfold qd at *
  rw [Int.add_mul, Int.one_mul] at h2
  exact ⟨e, by omega, by omega⟩
theorem rdc_bd {x P : xZ} (hP : Per P) (hx : Stp' x) : bd (rdc x P) 1066 := by
  intro k hk
  have h1 := hx.1 k hk
  have h2 := hP.1 k hk
  have h3 := qd_bd hP hx
  have h4 := mulb (a := -(qd x P)) (b := P k) (A := 22) (B := 3) (by omega) (by omega) (by omega) (by omega)
  simp only [rdc, zadd]
  omega
set_option maxRecDepth 100000 in
set_option maxHeartbeats 8000000 in
theorem c_arrange (V : xV) {w z n : Nat} {f : xH} {ps : Nat → Nat} {xs rs : Nat → xZ} {tk so : Nat → Int32} {P : xZ} {post : Option Value → xH → Nat → Prop} (hW : ScW f w n ps xs rs tk so P) (hn : n ≤ 24) (hper : Per P) (hst : ∀ i, i < n → Stp' (xs i))
    (hp : ∀ f' rs' tk' so' s, (∀ q, q < w + 4 ∨ w + 111 ≤ q → f' q = f q) → ScW f' w n ps xs rs' tk' so' P → (∀ j, j < n → (tk' j).toInt = qd (xs j) P) → (∀ j, j < n → rs' j = rdc (xs j) P) → Srt s n (fun j => sz (rdc (xs j) P)) → (∀ j, j < n → so' j = nI (s j)) → post none f' z) :
    xMet V yX3_arrange cX3_arrange 2 none 4 0 0 [.ref (w + 4)] f z post := by
  refine xMet_of false (by decide) (Nat.le_of_ble_eq_true rfl) (fun h => by cases h) (fun X hX O Rt => ?_)
  have O : xO X cX3_arrange 2 RX3 4 0 0 false := O
  show xG X 0 [some (.ref (w + 4)), none] [] f (z, 0, 0)
  obtain ⟨hbP, p1, p2⟩ := id hper
  have loop : ∀ k i : Nat, i + k = n → ∀ f' rs' tk' so' s, (∀ q, q < w + 4 ∨ w + 111 ≤ q → f' q = f q) → ScW f' w n ps xs rs' tk' so' P → (∀ j, j < i → (tk' j).toInt = qd (xs j) P) → (∀ j, j < i → rs' j = rdc (xs j) P) → Srt s i (fun j => sz (rdc (xs j) P)) → (∀ j, j < i → so' j = nI (s j)) →
      xG X 2 [some (.ref (w + 4)), some (.int (nI i))] [] f' (z, 0, 0) := by
    intro k
    induction k with
    | zero =>
      intro i hi f' rs' tk' so' s k1 hW' a1 a2 a3 a4
      have hin : i = n := by omega
      have h1 : f' (w + 4) = some (xSc w n) := hW'.1
      have hcc : (nI n ≤ nI i) = True := eq_true ((nI_leI (by omega) (by omega)).mpr (by omega))
      refine xgo O Rt xplX3_q xclX3_q [2] 30 ?_
      simp (maxSteps := 10000000) (disch := omega) only [↓reduceIte, ↓xrun_s, ↓xck_e, xdo_e, xlg_0, xlg_c, xst1_0, xst1_1, xst1_c, xst2_0, xst2_1, xst2_c, xk2_n, xk2_i, xk2_a, xk2_l, xct_i, xct_a, xct_l, xf4_0, xf4_1, xf4_2, xf4_3, List.contains_cons, List.contains_nil, Bool.or_false, Bool.false_or, Bool.or_self, Bool.true_or, Bool.or_true, cond_true, cond_false, List.set_cons_zero, List.set_cons_succ, List.length_cons, List.length_nil, true_and, and_true, xu_s, xu_u, xeqs, Nat.le_refl, not_true_eq_false, xq_10, xq_01, Int32.reduceAdd, Int32.reduceMul, Int32.reduceSub, Int32.reduceLE, Int32.reduceLT, Int32.reduceToNatClampNeg, Nat.reduceAdd, Nat.reduceMul, Nat.reduceBEq, Nat.reduceLT, Nat.reduceLeDiff, Nat.reduceEqDiff, Nat.zero_add, Bool.false_eq_true, reduceCtorEq, if_false, if_true, not_false_eq_true, true_imp_iff, false_imp_iff, imp_self, ↓xil_e, ↓xll_e, ↓xal_e, ↓xs1i_e, ↓xs2i_e, ↓xs1l_e, ↓xs2l_e, ↓xsil_e, ↓xs1_e, ↓xs2_e, ↓xs1a_e, ↓xsia_e, ↓xsiia_e, ↓xslia_e, ↓xsaia_e, ↓xsva_e, ↓xse1i_e, ↓xse1l_e, ↓xse1a_e, ↓xse0_e, ↓xfv_0, ↓xfv_c, ↓xgf_e, ↓xpf_e, ↓xia_e, ↓xia_n, ↓xba_e, ↓xba_n, ↓xla_e, ↓xla_n, ↓xob_e, ↓xra_e, ↓xno_e, ↓xle_e, ↓xnr_i, ↓xnr_b0, ↓xnr_b1, ↓xnr_n, ↓xdo_e, ↓xkl_0, ↓xe_iconst, ↓xe_ineg, ↓xe_iload_n, ↓xe_aload_n, ↓xe_istore_n, ↓xe_iinc, ↓xe_goto, ↓xe_getfield, ↓xe_iaload, ↓xe_aaload, ↓xe_iastore, ↓xe_return_, ↓xe_icmp_ge, ↓xe_invokevirtual, dX3_arrange_0, dX3_arrange_1, dX3_arrange_2, dX3_arrange_3, dX3_arrange_4, dX3_arrange_7, dX3_arrange_10, dX3_arrange_11, dX3_arrange_14, dX3_arrange_15, dX3_arrange_16, dX3_arrange_19, dX3_arrange_20, dX3_arrange_21, dX3_arrange_22, dX3_arrange_25, dX3_arrange_28, dX3_arrange_29, dX3_arrange_30, dX3_arrange_33, dX3_arrange_34, dX3_arrange_35, dX3_arrange_36, dX3_arrange_39, dX3_arrange_40, dX3_arrange_41, dX3_arrange_44, dX3_arrange_45, dX3_arrange_48, dX3_arrange_49, dX3_arrange_50, dX3_arrange_51, dX3_arrange_54, dX3_arrange_55, dX3_arrange_58, dX3_arrange_59, dX3_arrange_60, dX3_arrange_61, dX3_arrange_64, dX3_arrange_65, dX3_arrange_68, dX3_arrange_69, dX3_arrange_70, dX3_arrange_71, dX3_arrange_72, dX3_arrange_73, dX3_arrange_76, dX3_arrange_79, dX3_arrange_82, xpX3_11, xpX3_17, xpX3_20, xpX3_24, xpX3_28, xpX3_38, xki_0, xki_1, h1, hcc, xt_7_75, xtc_7_75, xt_79_m77, xtc_79_m77]
      rw [hin] at a1 a2 a3 a4
      exact hp f' rs' tk' so' s k1 hW' a1 a2 a3 a4
    | succ k ih =>
      intro i hi f' rs' tk' so' s k1 hW' a1 a2 a3 a4
      have hin : i < n := by omega
      have hi24 : i < 24 := by omega
      obtain ⟨h1, ⟨st, h2, h2'⟩, ⟨rd, h3, h3'⟩, h4, h5, h6, h7, h8, h9, h10, -⟩ := id hW'
      have hcc : (nI n ≤ nI i) = False := eq_false (fun q => by have := (nI_leI (by omega) (by omega)).mp q; omega)
      have ni : nI i + 1 = nI (i + 1) := nI_1 i
      have v0 : vp_in (nI i) 24 := vp_in_nI (by omega) (by omega)
      have v1 : (nI i).toNatClampNeg = i := nI_clamp (by omega)
      have b1 : st i = some (ps i) := h2' i hi24
      have b2 : rd i = some (w + 17 + 4 * i) := h3' i hi24
      obtain ⟨ji, hji, eji⟩ := h6 i hi24
      obtain ⟨hbx, x1, x2⟩ := id (hst i hin)
      have hqd := qd_bd hper (hst i hin)
      obtain ⟨-, _, _, _, _, hfp, -⟩ := id (h8 i hi24)
      refine xgo O Rt xplX3_q xclX3_q [2] 60 ?_
      simp (maxSteps := 10000000) (disch := omega) only [↓reduceIte, ↓xrun_s, ↓xck_e, xdo_e, xlg_0, xlg_c, xst1_0, xst1_1, xst1_c, xst2_0, xst2_1, xst2_c, xk2_n, xk2_i, xk2_a, xk2_l, xct_i, xct_a, xct_l, xf4_0, xf4_1, xf4_2, xf4_3, List.contains_cons, List.contains_nil, Bool.or_false, Bool.false_or, Bool.or_self, Bool.true_or, Bool.or_true, cond_true, cond_false, List.set_cons_zero, List.set_cons_succ, List.length_cons, List.length_nil, true_and, and_true, xu_s, xu_u, xeqs, Nat.le_refl, not_true_eq_false, xq_10, xq_01, Int32.reduceAdd, Int32.reduceMul, Int32.reduceSub, Int32.reduceLE, Int32.reduceLT, Int32.reduceToNatClampNeg, Nat.reduceAdd, Nat.reduceMul, Nat.reduceBEq, Nat.reduceLT, Nat.reduceLeDiff, Nat.reduceEqDiff, Nat.zero_add, Bool.false_eq_true, reduceCtorEq, if_false, if_true, not_false_eq_true, true_imp_iff, false_imp_iff, imp_self, ↓xil_e, ↓xll_e, ↓xal_e, ↓xs1i_e, ↓xs2i_e, ↓xs1l_e, ↓xs2l_e, ↓xsil_e, ↓xs1_e, ↓xs2_e, ↓xs1a_e, ↓xsia_e, ↓xsiia_e, ↓xslia_e, ↓xsaia_e, ↓xsva_e, ↓xse1i_e, ↓xse1l_e, ↓xse1a_e, ↓xse0_e, ↓xfv_0, ↓xfv_c, ↓xgf_e, ↓xpf_e, ↓xia_e, ↓xia_n, ↓xba_e, ↓xba_n, ↓xla_e, ↓xla_n, ↓xob_e, ↓xra_e, ↓xno_e, ↓xle_e, ↓xnr_i, ↓xnr_b0, ↓xnr_b1, ↓xnr_n, ↓xdo_e, ↓xkl_0, ↓xe_iconst, ↓xe_ineg, ↓xe_iload_n, ↓xe_aload_n, ↓xe_istore_n, ↓xe_iinc, ↓xe_goto, ↓xe_getfield, ↓xe_iaload, ↓xe_aaload, ↓xe_iastore, ↓xe_return_, ↓xe_icmp_ge, ↓xe_invokevirtual, dX3_arrange_0, dX3_arrange_1, dX3_arrange_2, dX3_arrange_3, dX3_arrange_4, dX3_arrange_7, dX3_arrange_10, dX3_arrange_11, dX3_arrange_14, dX3_arrange_15, dX3_arrange_16, dX3_arrange_19, dX3_arrange_20, dX3_arrange_21, dX3_arrange_22, dX3_arrange_25, dX3_arrange_28, dX3_arrange_29, dX3_arrange_30, dX3_arrange_33, dX3_arrange_34, dX3_arrange_35, dX3_arrange_36, dX3_arrange_39, dX3_arrange_40, dX3_arrange_41, dX3_arrange_44, dX3_arrange_45, dX3_arrange_48, dX3_arrange_49, dX3_arrange_50, dX3_arrange_51, dX3_arrange_54, dX3_arrange_55, dX3_arrange_58, dX3_arrange_59, dX3_arrange_60, dX3_arrange_61, dX3_arrange_64, dX3_arrange_65, dX3_arrange_68, dX3_arrange_69, dX3_arrange_70, dX3_arrange_71, dX3_arrange_72, dX3_arrange_73, dX3_arrange_76, dX3_arrange_79, dX3_arrange_82, xpX3_11, xpX3_17, xpX3_20, xpX3_24, xpX3_28, xpX3_38, xki_0, xki_1, h1, h2, h3, h4, h5, hcc, v0, v1, b1, b2, xt_7_75, xtc_7_75, xt_79_m77, xtc_79_m77]
      refine xg_callVi (Qp := fun r f2 => r.toInt = tq (sz (xs i)) (sz P) ∧ f2 = f') O dX3_arrange_25 xl_X3_62 xk_X1_timesOf (c_timesOf _ (h8 i hi24) h10 (by omega) (by omega) (by omega) (fun r q => ⟨r, rfl, ⟨q, rfl⟩, rfl⟩)) hfp rfl rfl rfl (Nat.le_of_ble_eq_true rfl) rfl (Nat.le_of_ble_eq_true rfl) (Nat.le_of_ble_eq_true rfl) (Nat.le_of_ble_eq_true rfl) (fun r f1 hq => ?_)
      obtain ⟨hr, rfl⟩ := hq
      have hr : r.toInt = qd (xs i) P := by rw [hr]; exact hqd.2.2
      have hW1 := hW'.tk' (upd tk' i r)
      obtain ⟨e1, ⟨st1, e2, e2'⟩, ⟨rd1, e3, e3'⟩, e4, e5, -, -, e8, e9, e10, -⟩ := id hW1
      have c1 : st1 i = some (ps i) := e2' i hi24
      have c2 : rd1 i = some (w + 17 + 4 * i) := e3' i hi24
      obtain ⟨-, _, _, _, _, efr, -⟩ := id (e9 i hi24)
      refine xgo O Rt xplX3_q xclX3_q [2] 60 ?_
      simp (maxSteps := 10000000) (disch := omega) only [↓reduceIte, ↓xrun_s, ↓xck_e, xdo_e, xlg_0, xlg_c, xst1_0, xst1_1, xst1_c, xst2_0, xst2_1, xst2_c, xk2_n, xk2_i, xk2_a, xk2_l, xct_i, xct_a, xct_l, xf4_0, xf4_1, xf4_2, xf4_3, List.contains_cons, List.contains_nil, Bool.or_false, Bool.false_or, Bool.or_self, Bool.true_or, Bool.or_true, cond_true, cond_false, List.set_cons_zero, List.set_cons_succ, List.length_cons, List.length_nil, true_and, and_true, xu_s, xu_u, xeqs, Nat.le_refl, not_true_eq_false, xq_10, xq_01, Int32.reduceAdd, Int32.reduceMul, Int32.reduceSub, Int32.reduceLE, Int32.reduceLT, Int32.reduceToNatClampNeg, Nat.reduceAdd, Nat.reduceMul, Nat.reduceBEq, Nat.reduceLT, Nat.reduceLeDiff, Nat.reduceEqDiff, Nat.zero_add, Bool.false_eq_true, reduceCtorEq, if_false, if_true, not_false_eq_true, true_imp_iff, false_imp_iff, imp_self, ↓xil_e, ↓xll_e, ↓xal_e, ↓xs1i_e, ↓xs2i_e, ↓xs1l_e, ↓xs2l_e, ↓xsil_e, ↓xs1_e, ↓xs2_e, ↓xs1a_e, ↓xsia_e, ↓xsiia_e, ↓xslia_e, ↓xsaia_e, ↓xsva_e, ↓xse1i_e, ↓xse1l_e, ↓xse1a_e, ↓xse0_e, ↓xfv_0, ↓xfv_c, ↓xgf_e, ↓xpf_e, ↓xia_e, ↓xia_n, ↓xba_e, ↓xba_n, ↓xla_e, ↓xla_n, ↓xob_e, ↓xra_e, ↓xno_e, ↓xle_e, ↓xnr_i, ↓xnr_b0, ↓xnr_b1, ↓xnr_n, ↓xdo_e, ↓xkl_0, ↓xe_iconst, ↓xe_ineg, ↓xe_iload_n, ↓xe_aload_n, ↓xe_istore_n, ↓xe_iinc, ↓xe_goto, ↓xe_getfield, ↓xe_iaload, ↓xe_aaload, ↓xe_iastore, ↓xe_return_, ↓xe_icmp_ge, ↓xe_invokevirtual, dX3_arrange_0, dX3_arrange_1, dX3_arrange_2, dX3_arrange_3, dX3_arrange_4, dX3_arrange_7, dX3_arrange_10, dX3_arrange_11, dX3_arrange_14, dX3_arrange_15, dX3_arrange_16, dX3_arrange_19, dX3_arrange_20, dX3_arrange_21, dX3_arrange_22, dX3_arrange_25, dX3_arrange_28, dX3_arrange_29, dX3_arrange_30, dX3_arrange_33, dX3_arrange_34, dX3_arrange_35, dX3_arrange_36, dX3_arrange_39, dX3_arrange_40, dX3_arrange_41, dX3_arrange_44, dX3_arrange_45, dX3_arrange_48, dX3_arrange_49, dX3_arrange_50, dX3_arrange_51, dX3_arrange_54, dX3_arrange_55, dX3_arrange_58, dX3_arrange_59, dX3_arrange_60, dX3_arrange_61, dX3_arrange_64, dX3_arrange_65, dX3_arrange_68, dX3_arrange_69, dX3_arrange_70, dX3_arrange_71, dX3_arrange_72, dX3_arrange_73, dX3_arrange_76, dX3_arrange_79, dX3_arrange_82, xpX3_11, xpX3_17, xpX3_20, xpX3_24, xpX3_28, xpX3_38, xki_0, xki_1, h4, e1, e2, e3, e4, e5, v0, v1, c1, c2, xt_7_75, xtc_7_75, xt_79_m77, xtc_79_m77]
      refine xg_callVv (Qp := fun f2 => (∀ q, q ≠ w + 17 + 4 * i → q ≠ w + 18 + 4 * i → f2 q = xu f1 (w + 7) (xI 24 (upd tk' i r)) q) ∧ Nt f2 (w + 17 + 4 * i) (w + 18 + 4 * i) (xs i)) O dX3_arrange_41 xl_X3_70 xk_X1_copyFrom (c_copyFrom _ (e9 i hi24) (e8 i hi24) (by omega) (by omega) (by omega) (fun f2 q1 q2 => ⟨rfl, ⟨q1, q2⟩, rfl⟩)) efr rfl rfl rfl (Nat.le_of_ble_eq_true rfl) rfl (Nat.le_of_ble_eq_true rfl) (Nat.le_of_ble_eq_true rfl) (Nat.le_of_ble_eq_true rfl) (fun f2 hq => ?_)
      obtain ⟨k2, n2⟩ := hq
      have hW2 := hW1.red' hi24 k2 n2
      obtain ⟨g1, ⟨st2, g2, g2'⟩, ⟨rd2, g3, g3'⟩, g4, g5, -, -, g8, g9, g10, -⟩ := id hW2
      have d2 : rd2 i = some (w + 17 + 4 * i) := g3' i hi24
      obtain ⟨-, _, _, _, _, gfr, -⟩ := id n2
      have ut : upd tk' i r i = r := by simp [upd]
      have hneg : (-r).toInt = -(qd (xs i) P) := by rw [n_neg (by omega), hr]
      obtain ⟨t, et⟩ : ∃ t : Int32, t = -r := ⟨_, rfl⟩
      have ht : t.toInt = -(qd (xs i) P) := by rw [et]; exact hneg
      have hmb := mulb (a := t.toInt) (b := sz P) (A := 22) (B := sz P) (by omega) (by omega) (by omega) (by omega)
      refine xgo O Rt xplX3_q xclX3_q [2] 60 ?_
      simp (maxSteps := 10000000) (disch := omega) only [↓reduceIte, ↓xrun_s, ↓xck_e, xdo_e, xlg_0, xlg_c, xst1_0, xst1_1, xst1_c, xst2_0, xst2_1, xst2_c, xk2_n, xk2_i, xk2_a, xk2_l, xct_i, xct_a, xct_l, xf4_0, xf4_1, xf4_2, xf4_3, List.contains_cons, List.contains_nil, Bool.or_false, Bool.false_or, Bool.or_self, Bool.true_or, Bool.or_true, cond_true, cond_false, List.set_cons_zero, List.set_cons_succ, List.length_cons, List.length_nil, true_and, and_true, xu_s, xu_u, xeqs, Nat.le_refl, not_true_eq_false, xq_10, xq_01, Int32.reduceAdd, Int32.reduceMul, Int32.reduceSub, Int32.reduceLE, Int32.reduceLT, Int32.reduceToNatClampNeg, Nat.reduceAdd, Nat.reduceMul, Nat.reduceBEq, Nat.reduceLT, Nat.reduceLeDiff, Nat.reduceEqDiff, Nat.zero_add, Bool.false_eq_true, reduceCtorEq, if_false, if_true, not_false_eq_true, true_imp_iff, false_imp_iff, imp_self, ↓xil_e, ↓xll_e, ↓xal_e, ↓xs1i_e, ↓xs2i_e, ↓xs1l_e, ↓xs2l_e, ↓xsil_e, ↓xs1_e, ↓xs2_e, ↓xs1a_e, ↓xsia_e, ↓xsiia_e, ↓xslia_e, ↓xsaia_e, ↓xsva_e, ↓xse1i_e, ↓xse1l_e, ↓xse1a_e, ↓xse0_e, ↓xfv_0, ↓xfv_c, ↓xgf_e, ↓xpf_e, ↓xia_e, ↓xia_n, ↓xba_e, ↓xba_n, ↓xla_e, ↓xla_n, ↓xob_e, ↓xra_e, ↓xno_e, ↓xle_e, ↓xnr_i, ↓xnr_b0, ↓xnr_b1, ↓xnr_n, ↓xdo_e, ↓xkl_0, ↓xe_iconst, ↓xe_ineg, ↓xe_iload_n, ↓xe_aload_n, ↓xe_istore_n, ↓xe_iinc, ↓xe_goto, ↓xe_getfield, ↓xe_iaload, ↓xe_aaload, ↓xe_iastore, ↓xe_return_, ↓xe_icmp_ge, ↓xe_invokevirtual, dX3_arrange_0, dX3_arrange_1, dX3_arrange_2, dX3_arrange_3, dX3_arrange_4, dX3_arrange_7, dX3_arrange_10, dX3_arrange_11, dX3_arrange_14, dX3_arrange_15, dX3_arrange_16, dX3_arrange_19, dX3_arrange_20, dX3_arrange_21, dX3_arrange_22, dX3_arrange_25, dX3_arrange_28, dX3_arrange_29, dX3_arrange_30, dX3_arrange_33, dX3_arrange_34, dX3_arrange_35, dX3_arrange_36, dX3_arrange_39, dX3_arrange_40, dX3_arrange_41, dX3_arrange_44, dX3_arrange_45, dX3_arrange_48, dX3_arrange_49, dX3_arrange_50, dX3_arrange_51, dX3_arrange_54, dX3_arrange_55, dX3_arrange_58, dX3_arrange_59, dX3_arrange_60, dX3_arrange_61, dX3_arrange_64, dX3_arrange_65, dX3_arrange_68, dX3_arrange_69, dX3_arrange_70, dX3_arrange_71, dX3_arrange_72, dX3_arrange_73, dX3_arrange_76, dX3_arrange_79, dX3_arrange_82, xpX3_11, xpX3_17, xpX3_20, xpX3_24, xpX3_28, xpX3_38, xki_0, xki_1, g1, g2, g3, g4, g5, v0, v1, d2, ut, xt_7_75, xtc_7_75, xt_79_m77, xtc_79_m77]
      rw [← et]
      refine xg_callVv (Qp := fun f3 => (∀ q, q ≠ w + 17 + 4 * i → q ≠ w + 18 + 4 * i → f3 q = f2 q) ∧ Nt f3 (w + 17 + 4 * i) (w + 18 + 4 * i) (zadd (xs i) P t.toInt)) O dX3_arrange_61 xl_X3_66 xk_X1_addTimes (c_addTimes _ n2 g10 (by omega) (by omega) (by omega) (by omega) (by omega) (by omega) (by omega) (hbx.mono (by omega)) (hbP.mono (by omega)) (fun f3 q1 q2 => ⟨rfl, ⟨q1, q2⟩, rfl⟩)) gfr rfl rfl rfl (Nat.le_of_ble_eq_true rfl) rfl (Nat.le_of_ble_eq_true rfl) (Nat.le_of_ble_eq_true rfl) (Nat.le_of_ble_eq_true rfl) (fun f3 hq => ?_)
      obtain ⟨k3, n3⟩ := hq
      rw [ht] at n3
      have n3 : Nt f3 (w + 17 + 4 * i) (w + 18 + 4 * i) (rdc (xs i) P) := n3
      have hW3 := (hW1.red' hi24 (fun q q1 q2 => (k3 q q1 q2).trans (k2 q q1 q2)) n3).so' (upd so' i (nI i))
      obtain ⟨m1, -, -, -, m5, -⟩ := id (hW1.red' hi24 (fun q q1 q2 => (k3 q q1 q2).trans (k2 q q1 q2)) n3)
      refine xgo O Rt xplX3_q xclX3_q [2] 60 ?_
      simp (maxSteps := 10000000) (disch := omega) only [↓reduceIte, ↓xrun_s, ↓xck_e, xdo_e, xlg_0, xlg_c, xst1_0, xst1_1, xst1_c, xst2_0, xst2_1, xst2_c, xk2_n, xk2_i, xk2_a, xk2_l, xct_i, xct_a, xct_l, xf4_0, xf4_1, xf4_2, xf4_3, List.contains_cons, List.contains_nil, Bool.or_false, Bool.false_or, Bool.or_self, Bool.true_or, Bool.or_true, cond_true, cond_false, List.set_cons_zero, List.set_cons_succ, List.length_cons, List.length_nil, true_and, and_true, xu_s, xu_u, xeqs, Nat.le_refl, not_true_eq_false, xq_10, xq_01, Int32.reduceAdd, Int32.reduceMul, Int32.reduceSub, Int32.reduceLE, Int32.reduceLT, Int32.reduceToNatClampNeg, Nat.reduceAdd, Nat.reduceMul, Nat.reduceBEq, Nat.reduceLT, Nat.reduceLeDiff, Nat.reduceEqDiff, Nat.zero_add, Bool.false_eq_true, reduceCtorEq, if_false, if_true, not_false_eq_true, true_imp_iff, false_imp_iff, imp_self, ↓xil_e, ↓xll_e, ↓xal_e, ↓xs1i_e, ↓xs2i_e, ↓xs1l_e, ↓xs2l_e, ↓xsil_e, ↓xs1_e, ↓xs2_e, ↓xs1a_e, ↓xsia_e, ↓xsiia_e, ↓xslia_e, ↓xsaia_e, ↓xsva_e, ↓xse1i_e, ↓xse1l_e, ↓xse1a_e, ↓xse0_e, ↓xfv_0, ↓xfv_c, ↓xgf_e, ↓xpf_e, ↓xia_e, ↓xia_n, ↓xba_e, ↓xba_n, ↓xla_e, ↓xla_n, ↓xob_e, ↓xra_e, ↓xno_e, ↓xle_e, ↓xnr_i, ↓xnr_b0, ↓xnr_b1, ↓xnr_n, ↓xdo_e, ↓xkl_0, ↓xe_iconst, ↓xe_ineg, ↓xe_iload_n, ↓xe_aload_n, ↓xe_istore_n, ↓xe_iinc, ↓xe_goto, ↓xe_getfield, ↓xe_iaload, ↓xe_aaload, ↓xe_iastore, ↓xe_return_, ↓xe_icmp_ge, ↓xe_invokevirtual, dX3_arrange_0, dX3_arrange_1, dX3_arrange_2, dX3_arrange_3, dX3_arrange_4, dX3_arrange_7, dX3_arrange_10, dX3_arrange_11, dX3_arrange_14, dX3_arrange_15, dX3_arrange_16, dX3_arrange_19, dX3_arrange_20, dX3_arrange_21, dX3_arrange_22, dX3_arrange_25, dX3_arrange_28, dX3_arrange_29, dX3_arrange_30, dX3_arrange_33, dX3_arrange_34, dX3_arrange_35, dX3_arrange_36, dX3_arrange_39, dX3_arrange_40, dX3_arrange_41, dX3_arrange_44, dX3_arrange_45, dX3_arrange_48, dX3_arrange_49, dX3_arrange_50, dX3_arrange_51, dX3_arrange_54, dX3_arrange_55, dX3_arrange_58, dX3_arrange_59, dX3_arrange_60, dX3_arrange_61, dX3_arrange_64, dX3_arrange_65, dX3_arrange_68, dX3_arrange_69, dX3_arrange_70, dX3_arrange_71, dX3_arrange_72, dX3_arrange_73, dX3_arrange_76, dX3_arrange_79, dX3_arrange_82, xpX3_11, xpX3_17, xpX3_20, xpX3_24, xpX3_28, xpX3_38, xki_0, xki_1, m1, m5, v0, v1, xt_7_75, xtc_7_75, xt_79_m77, xtc_79_m77]
      have ss : ∀ j, j ≤ i → (fun j => if j = i then i else s j) j < 24 ∧ upd so' i (nI i) j = nI ((fun j => if j = i then i else s j) j) := by
        intro j hj
        by_cases e : j = i
        · simp only [upd, if_pos e]; exact ⟨hi24, trivial⟩
        · simp only [upd, if_neg e]
          have := a3.1 j (by omega)
          exact ⟨by omega, a4 j (by omega)⟩
      have rse : ∀ j, j ≤ i → va_up rs' i (rdc (xs i) P) j = rdc (xs j) P := by
        intro j hj
        by_cases e : j = i
        · rw [e]; simp only [va_up, if_true]
        · simp only [va_up, if_neg e]; exact a2 j (by omega)
      have sle : ∀ j, j ≤ i → (fun j => if j = i then i else s j) j ≤ i := by
        intro j hj
        by_cases e : j = i
        · simp only [if_pos e]; omega
        · simp only [if_neg e]; have := a3.1 j (by omega); omega
      have n1' : xu f3 (w + 8) (xI 24 (upd so' i (nI i))) (w + 4) = some (xSc w n) := hW3.1
      refine xg_callVv (Qp := fun f4 => ∃ p so2, p ≤ i ∧ (p = 0 ∨ sz (rdc (xs ((fun j => if j = i then i else s j) (p - 1))) P) ≤ sz (rdc (xs i) P)) ∧ (∀ j, p ≤ j → j < i → sz (rdc (xs i) P) < sz (rdc (xs ((fun j => if j = i then i else s j) j)) P)) ∧ (∀ j, j ≤ i → so2 j = nI (ins (fun j => if j = i then i else s j) i p j)) ∧ f4 = xu (xu f3 (w + 8) (xI 24 (upd so' i (nI i)))) (w + 8) (xI 24 so2)) O dX3_arrange_73 xl_X3_82 xk_X3_sinkSorted (c_sinkSorted _ hW3 hi24 ss (fun j hj => ?_) (fun p so2 q1 q2 q3 q4 q5 => ⟨rfl, ⟨p, so2, q1, ?_, ?_, q4, rfl⟩, rfl⟩)) n1' rfl rfl rfl (Nat.le_of_ble_eq_true rfl) rfl (Nat.le_of_ble_eq_true rfl) (Nat.le_of_ble_eq_true rfl) (Nat.le_of_ble_eq_true rfl) (fun f4 hq => ?_)
      · rw [rse _ (sle j hj)]
        have h0 := rdc_sz (x := xs ((fun j => if j = i then i else s j) j)) (P := P) (by omega)
        omega
      · have e0 : (if i = i then i else s i) = i := if_pos rfl
        have q2 : p = 0 ∨ sz (va_up rs' i (rdc (xs i) P) (if p - 1 = i then i else s (p - 1))) ≤ sz (va_up rs' i (rdc (xs i) P) (if i = i then i else s i)) := q2
        rw [e0, rse i (by omega)] at q2
        rcases q2 with q2 | q2
        · exact Or.inl q2
        · by_cases hp0 : p = 0
          · exact Or.inl hp0
          · rw [rse (if p - 1 = i then i else s (p - 1)) (sle (p - 1) (by omega))] at q2
            exact Or.inr q2
      · intro j e1 e2
        have e0 : (if i = i then i else s i) = i := if_pos rfl
        have q9 : sz (va_up rs' i (rdc (xs i) P) (if i = i then i else s i)) < sz (va_up rs' i (rdc (xs i) P) (if j = i then i else s j)) := q3 j e1 e2
        rw [rse (if j = i then i else s j) (sle j (by omega)), e0, rse i (by omega)] at q9
        exact q9
      · obtain ⟨p, so2, q1, q2, q3, q4, rfl⟩ := hq
        rw [xu_u]
        refine xgo O Rt xplX3_q xclX3_q [2] 60 ?_
        simp (maxSteps := 10000000) (disch := omega) only [↓reduceIte, ↓xrun_s, ↓xck_e, xdo_e, xlg_0, xlg_c, xst1_0, xst1_1, xst1_c, xst2_0, xst2_1, xst2_c, xk2_n, xk2_i, xk2_a, xk2_l, xct_i, xct_a, xct_l, xf4_0, xf4_1, xf4_2, xf4_3, List.contains_cons, List.contains_nil, Bool.or_false, Bool.false_or, Bool.or_self, Bool.true_or, Bool.or_true, cond_true, cond_false, List.set_cons_zero, List.set_cons_succ, List.length_cons, List.length_nil, true_and, and_true, xu_s, xu_u, xeqs, Nat.le_refl, not_true_eq_false, xq_10, xq_01, Int32.reduceAdd, Int32.reduceMul, Int32.reduceSub, Int32.reduceLE, Int32.reduceLT, Int32.reduceToNatClampNeg, Nat.reduceAdd, Nat.reduceMul, Nat.reduceBEq, Nat.reduceLT, Nat.reduceLeDiff, Nat.reduceEqDiff, Nat.zero_add, Bool.false_eq_true, reduceCtorEq, if_false, if_true, not_false_eq_true, true_imp_iff, false_imp_iff, imp_self, ↓xil_e, ↓xll_e, ↓xal_e, ↓xs1i_e, ↓xs2i_e, ↓xs1l_e, ↓xs2l_e, ↓xsil_e, ↓xs1_e, ↓xs2_e, ↓xs1a_e, ↓xsia_e, ↓xsiia_e, ↓xslia_e, ↓xsaia_e, ↓xsva_e, ↓xse1i_e, ↓xse1l_e, ↓xse1a_e, ↓xse0_e, ↓xfv_0, ↓xfv_c, ↓xgf_e, ↓xpf_e, ↓xia_e, ↓xia_n, ↓xba_e, ↓xba_n, ↓xla_e, ↓xla_n, ↓xob_e, ↓xra_e, ↓xno_e, ↓xle_e, ↓xnr_i, ↓xnr_b0, ↓xnr_b1, ↓xnr_n, ↓xdo_e, ↓xkl_0, ↓xe_iconst, ↓xe_ineg, ↓xe_iload_n, ↓xe_aload_n, ↓xe_istore_n, ↓xe_iinc, ↓xe_goto, ↓xe_getfield, ↓xe_iaload, ↓xe_aaload, ↓xe_iastore, ↓xe_return_, ↓xe_icmp_ge, ↓xe_invokevirtual, dX3_arrange_0, dX3_arrange_1, dX3_arrange_2, dX3_arrange_3, dX3_arrange_4, dX3_arrange_7, dX3_arrange_10, dX3_arrange_11, dX3_arrange_14, dX3_arrange_15, dX3_arrange_16, dX3_arrange_19, dX3_arrange_20, dX3_arrange_21, dX3_arrange_22, dX3_arrange_25, dX3_arrange_28, dX3_arrange_29, dX3_arrange_30, dX3_arrange_33, dX3_arrange_34, dX3_arrange_35, dX3_arrange_36, dX3_arrange_39, dX3_arrange_40, dX3_arrange_41, dX3_arrange_44, dX3_arrange_45, dX3_arrange_48, dX3_arrange_49, dX3_arrange_50, dX3_arrange_51, dX3_arrange_54, dX3_arrange_55, dX3_arrange_58, dX3_arrange_59, dX3_arrange_60, dX3_arrange_61, dX3_arrange_64, dX3_arrange_65, dX3_arrange_68, dX3_arrange_69, dX3_arrange_70, dX3_arrange_71, dX3_arrange_72, dX3_arrange_73, dX3_arrange_76, dX3_arrange_79, dX3_arrange_82, xpX3_11, xpX3_17, xpX3_20, xpX3_24, xpX3_28, xpX3_38, xki_0, xki_1, ni, xt_7_75, xtc_7_75, xt_79_m77, xtc_79_m77]
        refine ih (i + 1) (by omega) _ _ _ so2 (ins (fun j => if j = i then i else s j) i p) (fun q hq => ?_) ((hW1.red' hi24 (fun q q1 q2 => (k3 q q1 q2).trans (k2 q q1 q2)) n3).so' so2) (fun j hj => ?_) (fun j hj => rse j (by omega)) ?_ (fun j hj => q4 j (by omega))
        · rw [xu_n (by omega), k3 q (by omega) (by omega), k2 q (by omega) (by omega), xu_n (by omega)]
          exact k1 q hq
        · by_cases e : j = i
          · rw [e, ut]; exact hr
          · simp only [upd, if_neg e]; exact a1 j (by omega)
        · refine Srt_ins (a3.ext (fun j hj => by simp only [if_neg (show ¬ j = i by omega)]) (fun j hj => rfl)) (by simp) q1 ?_ (fun j e1 e2 => ?_)
          · exact q2
          · exact q3 j e1 e2
  refine xgo O Rt xplX3_q xclX3_q [2] 30 ?_
  simp (maxSteps := 10000000) (disch := omega) only [↓reduceIte, ↓xrun_s, ↓xck_e, xdo_e, xlg_0, xlg_c, xst1_0, xst1_1, xst1_c, xst2_0, xst2_1, xst2_c, xk2_n, xk2_i, xk2_a, xk2_l, xct_i, xct_a, xct_l, xf4_0, xf4_1, xf4_2, xf4_3, List.contains_cons, List.contains_nil, Bool.or_false, Bool.false_or, Bool.or_self, Bool.true_or, Bool.or_true, cond_true, cond_false, List.set_cons_zero, List.set_cons_succ, List.length_cons, List.length_nil, true_and, and_true, xu_s, xu_u, xeqs, Nat.le_refl, not_true_eq_false, xq_10, xq_01, Int32.reduceAdd, Int32.reduceMul, Int32.reduceSub, Int32.reduceLE, Int32.reduceLT, Int32.reduceToNatClampNeg, Nat.reduceAdd, Nat.reduceMul, Nat.reduceBEq, Nat.reduceLT, Nat.reduceLeDiff, Nat.reduceEqDiff, Nat.zero_add, Bool.false_eq_true, reduceCtorEq, if_false, if_true, not_false_eq_true, true_imp_iff, false_imp_iff, imp_self, ↓xil_e, ↓xll_e, ↓xal_e, ↓xs1i_e, ↓xs2i_e, ↓xs1l_e, ↓xs2l_e, ↓xsil_e, ↓xs1_e, ↓xs2_e, ↓xs1a_e, ↓xsia_e, ↓xsiia_e, ↓xslia_e, ↓xsaia_e, ↓xsva_e, ↓xse1i_e, ↓xse1l_e, ↓xse1a_e, ↓xse0_e, ↓xfv_0, ↓xfv_c, ↓xgf_e, ↓xpf_e, ↓xia_e, ↓xia_n, ↓xba_e, ↓xba_n, ↓xla_e, ↓xla_n, ↓xob_e, ↓xra_e, ↓xno_e, ↓xle_e, ↓xnr_i, ↓xnr_b0, ↓xnr_b1, ↓xnr_n, ↓xdo_e, ↓xkl_0, ↓xe_iconst, ↓xe_ineg, ↓xe_iload_n, ↓xe_aload_n, ↓xe_istore_n, ↓xe_iinc, ↓xe_goto, ↓xe_getfield, ↓xe_iaload, ↓xe_aaload, ↓xe_iastore, ↓xe_return_, ↓xe_icmp_ge, ↓xe_invokevirtual, dX3_arrange_0, dX3_arrange_1, dX3_arrange_2, dX3_arrange_3, dX3_arrange_4, dX3_arrange_7, dX3_arrange_10, dX3_arrange_11, dX3_arrange_14, dX3_arrange_15, dX3_arrange_16, dX3_arrange_19, dX3_arrange_20, dX3_arrange_21, dX3_arrange_22, dX3_arrange_25, dX3_arrange_28, dX3_arrange_29, dX3_arrange_30, dX3_arrange_33, dX3_arrange_34, dX3_arrange_35, dX3_arrange_36, dX3_arrange_39, dX3_arrange_40, dX3_arrange_41, dX3_arrange_44, dX3_arrange_45, dX3_arrange_48, dX3_arrange_49, dX3_arrange_50, dX3_arrange_51, dX3_arrange_54, dX3_arrange_55, dX3_arrange_58, dX3_arrange_59, dX3_arrange_60, dX3_arrange_61, dX3_arrange_64, dX3_arrange_65, dX3_arrange_68, dX3_arrange_69, dX3_arrange_70, dX3_arrange_71, dX3_arrange_72, dX3_arrange_73, dX3_arrange_76, dX3_arrange_79, dX3_arrange_82, xpX3_11, xpX3_17, xpX3_20, xpX3_24, xpX3_28, xpX3_38, xki_0, xki_1, xt_7_75, xtc_7_75, xt_79_m77, xtc_79_m77]
  exact loop n 0 (by omega) f rs tk so (fun j => j) (fun _ _ => rfl) hW (fun j hj => absurd hj (by omega)) (fun j hj => absurd hj (by omega)) ⟨fun i hi => absurd hi (by omega), fun i j _ hj => absurd hj (by omega)⟩ (fun j hj => absurd hj (by omega))
