/-! ===== TuningTables$Note ===== -/
theorem dX1_carry_0 : decode cX1_carry 0 = .ok (.aload_n 0, 1) := by decide +kernel
theorem dX1_carry_1 : decode cX1_carry 1 = .ok (.dup, 1) := by decide +kernel
theorem dX1_carry_2 : decode cX1_carry 2 = .ok (.getfield 25, 3) := by decide +kernel
theorem dX1_carry_5 : decode cX1_carry 5 = .ok (.aload_n 0, 1) := by decide +kernel
theorem dX1_carry_6 : decode cX1_carry 6 = .ok (.getfield 28, 3) := by decide +kernel
theorem dX1_carry_9 : decode cX1_carry 9 = .ok (.bipush 40, 2) := by decide +kernel
theorem dX1_carry_11 : decode cX1_carry 11 = .ok (.lshr, 1) := by decide +kernel
theorem dX1_carry_12 : decode cX1_carry 12 = .ok (.ladd, 1) := by decide +kernel
theorem dX1_carry_13 : decode cX1_carry 13 = .ok (.putfield 25, 3) := by decide +kernel
theorem dX1_carry_16 : decode cX1_carry 16 = .ok (.aload_n 0, 1) := by decide +kernel
theorem dX1_carry_17 : decode cX1_carry 17 = .ok (.dup, 1) := by decide +kernel
theorem dX1_carry_18 : decode cX1_carry 18 = .ok (.getfield 28, 3) := by decide +kernel
theorem dX1_carry_21 : decode cX1_carry 21 = .ok (.ldc2_w 44, 3) := by decide +kernel
theorem dX1_carry_24 : decode cX1_carry 24 = .ok (.land, 1) := by decide +kernel
theorem dX1_carry_25 : decode cX1_carry 25 = .ok (.putfield 28, 3) := by decide +kernel
theorem dX1_carry_28 : decode cX1_carry 28 = .ok (.aload_n 0, 1) := by decide +kernel
theorem dX1_carry_29 : decode cX1_carry 29 = .ok (.dup, 1) := by decide +kernel
theorem dX1_carry_30 : decode cX1_carry 30 = .ok (.getfield 21, 3) := by decide +kernel
theorem dX1_carry_33 : decode cX1_carry 33 = .ok (.aload_n 0, 1) := by decide +kernel
theorem dX1_carry_34 : decode cX1_carry 34 = .ok (.getfield 25, 3) := by decide +kernel
theorem dX1_carry_37 : decode cX1_carry 37 = .ok (.bipush 40, 2) := by decide +kernel
theorem dX1_carry_39 : decode cX1_carry 39 = .ok (.lshr, 1) := by decide +kernel
theorem dX1_carry_40 : decode cX1_carry 40 = .ok (.ladd, 1) := by decide +kernel
theorem dX1_carry_41 : decode cX1_carry 41 = .ok (.putfield 21, 3) := by decide +kernel
theorem dX1_carry_44 : decode cX1_carry 44 = .ok (.aload_n 0, 1) := by decide +kernel
theorem dX1_carry_45 : decode cX1_carry 45 = .ok (.dup, 1) := by decide +kernel
theorem dX1_carry_46 : decode cX1_carry 46 = .ok (.getfield 25, 3) := by decide +kernel
theorem dX1_carry_49 : decode cX1_carry 49 = .ok (.ldc2_w 44, 3) := by decide +kernel
theorem dX1_carry_52 : decode cX1_carry 52 = .ok (.land, 1) := by decide +kernel
theorem dX1_carry_53 : decode cX1_carry 53 = .ok (.putfield 25, 3) := by decide +kernel
theorem dX1_carry_56 : decode cX1_carry 56 = .ok (.return_, 1) := by decide +kernel
theorem dX1_isUnison_0 : decode cX1_isUnison 0 = .ok (.aload_n 0, 1) := by decide +kernel
theorem dX1_isUnison_1 : decode cX1_isUnison 1 = .ok (.getfield 21, 3) := by decide +kernel
theorem dX1_isUnison_4 : decode cX1_isUnison 4 = .ok (.aload_n 0, 1) := by decide +kernel
theorem dX1_isUnison_5 : decode cX1_isUnison 5 = .ok (.getfield 25, 3) := by decide +kernel
theorem dX1_isUnison_8 : decode cX1_isUnison 8 = .ok (.lor, 1) := by decide +kernel
theorem dX1_isUnison_9 : decode cX1_isUnison 9 = .ok (.aload_n 0, 1) := by decide +kernel
theorem dX1_isUnison_10 : decode cX1_isUnison 10 = .ok (.getfield 28, 3) := by decide +kernel
theorem dX1_isUnison_13 : decode cX1_isUnison 13 = .ok (.lor, 1) := by decide +kernel
theorem dX1_isUnison_14 : decode cX1_isUnison 14 = .ok (.lconst 0, 1) := by decide +kernel
theorem dX1_isUnison_15 : decode cX1_isUnison 15 = .ok (.lcmp, 1) := by decide +kernel
theorem dX1_isUnison_16 : decode cX1_isUnison 16 = .ok (.ifCond .ne 7, 3) := by decide +kernel
theorem dX1_isUnison_19 : decode cX1_isUnison 19 = .ok (.iconst 1, 1) := by decide +kernel
theorem dX1_isUnison_20 : decode cX1_isUnison 20 = .ok (.goto 4, 3) := by decide +kernel
theorem dX1_isUnison_23 : decode cX1_isUnison 23 = .ok (.iconst 0, 1) := by decide +kernel
theorem dX1_isUnison_24 : decode cX1_isUnison 24 = .ok (.ireturn, 1) := by decide +kernel
theorem dX1_isAboveUnison_0 : decode cX1_isAboveUnison 0 = .ok (.aload_n 0, 1) := by decide +kernel
theorem dX1_isAboveUnison_1 : decode cX1_isAboveUnison 1 = .ok (.getfield 21, 3) := by decide +kernel
theorem dX1_isAboveUnison_4 : decode cX1_isAboveUnison 4 = .ok (.lconst 0, 1) := by decide +kernel
theorem dX1_isAboveUnison_5 : decode cX1_isAboveUnison 5 = .ok (.lcmp, 1) := by decide +kernel
theorem dX1_isAboveUnison_6 : decode cX1_isAboveUnison 6 = .ok (.ifCond .lt 14, 3) := by decide +kernel
theorem dX1_isAboveUnison_9 : decode cX1_isAboveUnison 9 = .ok (.aload_n 0, 1) := by decide +kernel
theorem dX1_isAboveUnison_10 : decode cX1_isAboveUnison 10 = .ok (.invokevirtual 46, 3) := by decide +kernel
theorem dX1_isAboveUnison_13 : decode cX1_isAboveUnison 13 = .ok (.ifCond .ne 7, 3) := by decide +kernel
theorem dX1_isAboveUnison_16 : decode cX1_isAboveUnison 16 = .ok (.iconst 1, 1) := by decide +kernel
theorem dX1_isAboveUnison_17 : decode cX1_isAboveUnison 17 = .ok (.goto 4, 3) := by decide +kernel
theorem dX1_isAboveUnison_20 : decode cX1_isAboveUnison 20 = .ok (.iconst 0, 1) := by decide +kernel
theorem dX1_isAboveUnison_21 : decode cX1_isAboveUnison 21 = .ok (.ireturn, 1) := by decide +kernel
theorem dX1_isBelow_0 : decode cX1_isBelow 0 = .ok (.aload_n 0, 1) := by decide +kernel
theorem dX1_isBelow_1 : decode cX1_isBelow 1 = .ok (.getfield 28, 3) := by decide +kernel
theorem dX1_isBelow_4 : decode cX1_isBelow 4 = .ok (.iload_n 2, 1) := by decide +kernel
theorem dX1_isBelow_5 : decode cX1_isBelow 5 = .ok (.i2l, 1) := by decide +kernel
theorem dX1_isBelow_6 : decode cX1_isBelow 6 = .ok (.aload_n 1, 1) := by decide +kernel
theorem dX1_isBelow_7 : decode cX1_isBelow 7 = .ok (.getfield 28, 3) := by decide +kernel
theorem dX1_isBelow_10 : decode cX1_isBelow 10 = .ok (.lmul, 1) := by decide +kernel
theorem dX1_isBelow_11 : decode cX1_isBelow 11 = .ok (.lsub, 1) := by decide +kernel
theorem dX1_isBelow_12 : decode cX1_isBelow 12 = .ok (.lstore_n 3, 1) := by decide +kernel
theorem dX1_isBelow_13 : decode cX1_isBelow 13 = .ok (.aload_n 0, 1) := by decide +kernel
theorem dX1_isBelow_14 : decode cX1_isBelow 14 = .ok (.getfield 25, 3) := by decide +kernel
theorem dX1_isBelow_17 : decode cX1_isBelow 17 = .ok (.iload_n 2, 1) := by decide +kernel
theorem dX1_isBelow_18 : decode cX1_isBelow 18 = .ok (.i2l, 1) := by decide +kernel
theorem dX1_isBelow_19 : decode cX1_isBelow 19 = .ok (.aload_n 1, 1) := by decide +kernel
theorem dX1_isBelow_20 : decode cX1_isBelow 20 = .ok (.getfield 25, 3) := by decide +kernel
theorem dX1_isBelow_23 : decode cX1_isBelow 23 = .ok (.lmul, 1) := by decide +kernel
theorem dX1_isBelow_24 : decode cX1_isBelow 24 = .ok (.lsub, 1) := by decide +kernel
theorem dX1_isBelow_25 : decode cX1_isBelow 25 = .ok (.lload_n 3, 1) := by decide +kernel
theorem dX1_isBelow_26 : decode cX1_isBelow 26 = .ok (.bipush 40, 2) := by decide +kernel
theorem dX1_isBelow_28 : decode cX1_isBelow 28 = .ok (.lshr, 1) := by decide +kernel
theorem dX1_isBelow_29 : decode cX1_isBelow 29 = .ok (.ladd, 1) := by decide +kernel
theorem dX1_isBelow_30 : decode cX1_isBelow 30 = .ok (.lstore 5, 2) := by decide +kernel
theorem dX1_isBelow_32 : decode cX1_isBelow 32 = .ok (.aload_n 0, 1) := by decide +kernel
theorem dX1_isBelow_33 : decode cX1_isBelow 33 = .ok (.getfield 21, 3) := by decide +kernel
theorem dX1_isBelow_36 : decode cX1_isBelow 36 = .ok (.iload_n 2, 1) := by decide +kernel
theorem dX1_isBelow_37 : decode cX1_isBelow 37 = .ok (.i2l, 1) := by decide +kernel
theorem dX1_isBelow_38 : decode cX1_isBelow 38 = .ok (.aload_n 1, 1) := by decide +kernel
theorem dX1_isBelow_39 : decode cX1_isBelow 39 = .ok (.getfield 21, 3) := by decide +kernel
theorem dX1_isBelow_42 : decode cX1_isBelow 42 = .ok (.lmul, 1) := by decide +kernel
theorem dX1_isBelow_43 : decode cX1_isBelow 43 = .ok (.lsub, 1) := by decide +kernel
theorem dX1_isBelow_44 : decode cX1_isBelow 44 = .ok (.lload 5, 2) := by decide +kernel
theorem dX1_isBelow_46 : decode cX1_isBelow 46 = .ok (.bipush 40, 2) := by decide +kernel
theorem dX1_isBelow_48 : decode cX1_isBelow 48 = .ok (.lshr, 1) := by decide +kernel
theorem dX1_isBelow_49 : decode cX1_isBelow 49 = .ok (.ladd, 1) := by decide +kernel
theorem dX1_isBelow_50 : decode cX1_isBelow 50 = .ok (.lconst 0, 1) := by decide +kernel
theorem dX1_isBelow_51 : decode cX1_isBelow 51 = .ok (.lcmp, 1) := by decide +kernel
theorem dX1_isBelow_52 : decode cX1_isBelow 52 = .ok (.ifCond .ge 7, 3) := by decide +kernel
theorem dX1_isBelow_55 : decode cX1_isBelow 55 = .ok (.iconst 1, 1) := by decide +kernel
theorem dX1_isBelow_56 : decode cX1_isBelow 56 = .ok (.goto 4, 3) := by decide +kernel
theorem dX1_isBelow_59 : decode cX1_isBelow 59 = .ok (.iconst 0, 1) := by decide +kernel
theorem dX1_isBelow_60 : decode cX1_isBelow 60 = .ok (.ireturn, 1) := by decide +kernel
set_option maxRecDepth 100000 in
set_option maxHeartbeats 4000000 in
theorem c_carry (V : xV) {a b z : Nat} {f : xH} {h m l : Int64} {post : Option Value → xH → Nat → Prop} (hf : f a = some (xNt b h m l))
    (hp : post none (xu f a (xNt b (h + ((m + (l >>> ((40 : Int32).toInt64 &&& 63))) >>> ((40 : Int32).toInt64 &&& 63))) ((m + (l >>> ((40 : Int32).toInt64 &&& 63))) &&& 1099511627775) (l &&& 1099511627775))) z) :
    xMet V yX1_carry cX1_carry 1 none 1 0 0 [.ref a] f z post := by
  refine xMet_of false (by decide) (Nat.le_of_ble_eq_true rfl) (fun h => by cases h) (fun X hX O Rt => ?_)
  have O : xO X cX1_carry 1 RX1 1 0 0 false := O
  show xG X 0 [some (.ref a)] [] f (z, 0, 0)
  refine xgo O Rt xplX1_q xclX1_q [] 60 ?_
  simp (maxSteps := 10000000) (disch := omega) only [↓reduceIte, ↓xrun_s, ↓xck_e, xdo_e, xlg_0, xlg_c, xst1_0, xst1_1, xst1_c, xst2_0, xst2_1, xst2_c, xk2_n, xk2_i, xk2_a, xk2_l, xct_i, xct_a, xct_l, xf4_0, xf4_1, xf4_2, xf4_3, List.contains_cons, List.contains_nil, Bool.or_false, Bool.false_or, Bool.or_self, Bool.true_or, Bool.or_true, cond_true, cond_false, List.set_cons_zero, List.set_cons_succ, List.length_cons, List.length_nil, true_and, and_true, xu_s, xu_u, xeqs, Nat.le_refl, not_true_eq_false, xq_10, xq_01, Int32.reduceAdd, Int32.reduceMul, Int32.reduceSub, Int32.reduceLE, Int32.reduceLT, Int32.reduceToNatClampNeg, Nat.reduceAdd, Nat.reduceMul, Nat.reduceBEq, Nat.reduceLT, Nat.reduceLeDiff, Nat.reduceEqDiff, Nat.zero_add, Bool.false_eq_true, reduceCtorEq, if_false, if_true, not_false_eq_true, true_imp_iff, false_imp_iff, imp_self, ↓xil_e, ↓xll_e, ↓xal_e, ↓xs1i_e, ↓xs2i_e, ↓xs1l_e, ↓xs2l_e, ↓xsil_e, ↓xs1_e, ↓xs2_e, ↓xs1a_e, ↓xsia_e, ↓xsiia_e, ↓xslia_e, ↓xsaia_e, ↓xsva_e, ↓xse1i_e, ↓xse1l_e, ↓xse1a_e, ↓xse0_e, ↓xfv_0, ↓xfv_c, ↓xgf_e, ↓xpf_e, ↓xia_e, ↓xia_n, ↓xba_e, ↓xba_n, ↓xla_e, ↓xla_n, ↓xob_e, ↓xra_e, ↓xno_e, ↓xle_e, ↓xnr_i, ↓xnr_b0, ↓xnr_b1, ↓xnr_n, ↓xdo_e, ↓xkl_0, ↓xe_bipush, ↓xe_ladd, ↓xe_land, ↓xe_lshr, ↓xe_dup, ↓xe_aload_n, ↓xe_ldc2_w, ↓xe_getfield, ↓xe_putfield, ↓xe_return_, dX1_carry_0, dX1_carry_1, dX1_carry_2, dX1_carry_5, dX1_carry_6, dX1_carry_9, dX1_carry_11, dX1_carry_12, dX1_carry_13, dX1_carry_16, dX1_carry_17, dX1_carry_18, dX1_carry_21, dX1_carry_24, dX1_carry_25, dX1_carry_28, dX1_carry_29, dX1_carry_30, dX1_carry_33, dX1_carry_34, dX1_carry_37, dX1_carry_39, dX1_carry_40, dX1_carry_41, dX1_carry_44, dX1_carry_45, dX1_carry_46, dX1_carry_49, dX1_carry_52, dX1_carry_53, dX1_carry_56, xpX1_21, xpX1_25, xpX1_28, xcX1_44, xkb_40, hf, xft_1_1, xft_1_2, xft_1_3]
  exact hp
set_option maxRecDepth 100000 in
set_option maxHeartbeats 4000000 in
theorem c_isUnison (V : xV) {a b z : Nat} {f : xH} {x : xZ} {post : Option Value → xH → Nat → Prop} (hn : Nt f a b x) (hp : post (some (.int (if sz x = 0 then 1 else 0))) f z) :
    xMet V yX1_isUnison cX1_isUnison 1 (some .boolean) 1 0 0 [.ref a] f z post := by
  refine xMet_of false (by decide) (Nat.le_of_ble_eq_true rfl) (fun h => by cases h) (fun X hX O Rt => ?_)
  have O : xO X cX1_isUnison 1 RX1 1 0 0 false := O
  show xG X 0 [some (.ref a)] [] f (z, 0, 0)
  obtain ⟨h0, e, h, m, l, hf, hf2, h3, h4, h5, h6, h7, h8⟩ := hn
  refine xgo O Rt xplX1_q xclX1_q [] 60 ?_
  simp (maxSteps := 10000000) (disch := omega) only [↓reduceIte, ↓xrun_s, ↓xck_e, xdo_e, xlg_0, xlg_c, xst1_0, xst1_1, xst1_c, xst2_0, xst2_1, xst2_c, xk2_n, xk2_i, xk2_a, xk2_l, xct_i, xct_a, xct_l, xf4_0, xf4_1, xf4_2, xf4_3, List.contains_cons, List.contains_nil, Bool.or_false, Bool.false_or, Bool.or_self, Bool.true_or, Bool.or_true, cond_true, cond_false, List.set_cons_zero, List.set_cons_succ, List.length_cons, List.length_nil, true_and, and_true, xu_s, xu_u, xeqs, Nat.le_refl, not_true_eq_false, xq_10, xq_01, Int32.reduceAdd, Int32.reduceMul, Int32.reduceSub, Int32.reduceLE, Int32.reduceLT, Int32.reduceToNatClampNeg, Nat.reduceAdd, Nat.reduceMul, Nat.reduceBEq, Nat.reduceLT, Nat.reduceLeDiff, Nat.reduceEqDiff, Nat.zero_add, Bool.false_eq_true, reduceCtorEq, if_false, if_true, not_false_eq_true, true_imp_iff, false_imp_iff, imp_self, ↓xil_e, ↓xll_e, ↓xal_e, ↓xs1i_e, ↓xs2i_e, ↓xs1l_e, ↓xs2l_e, ↓xsil_e, ↓xs1_e, ↓xs2_e, ↓xs1a_e, ↓xsia_e, ↓xsiia_e, ↓xslia_e, ↓xsaia_e, ↓xsva_e, ↓xse1i_e, ↓xse1l_e, ↓xse1a_e, ↓xse0_e, ↓xfv_0, ↓xfv_c, ↓xgf_e, ↓xpf_e, ↓xia_e, ↓xia_n, ↓xba_e, ↓xba_n, ↓xla_e, ↓xla_n, ↓xob_e, ↓xra_e, ↓xno_e, ↓xle_e, ↓xnr_i, ↓xnr_b0, ↓xnr_b1, ↓xnr_n, ↓xdo_e, ↓xkl_0, ↓xe_iconst, ↓xe_lconst, ↓xe_lor, ↓xe_lcmp, ↓xe_aload_n, ↓xe_goto, ↓xe_getfield, ↓xe_ireturn, ↓xe_if_ne, dX1_isUnison_0, dX1_isUnison_1, dX1_isUnison_4, dX1_isUnison_5, dX1_isUnison_8, dX1_isUnison_9, dX1_isUnison_10, dX1_isUnison_13, dX1_isUnison_14, dX1_isUnison_15, dX1_isUnison_16, dX1_isUnison_19, dX1_isUnison_20, dX1_isUnison_23, dX1_isUnison_24, xpX1_21, xpX1_25, xpX1_28, xki_0, xki_1, xkl_0, xkl_1, hf, xt_16_7, xtc_16_7, xt_20_4, xtc_20_4]
  have hz : (h ||| m ||| l = 0) ↔ sz x = 0 := by
    rw [or64_0, or64_0, m_eq, m_eq, m_eq, m_0]
    omega
  rcases lg_cases (h ||| m ||| l) 0 with ⟨q1, q2⟩ | ⟨q1, q2⟩ | ⟨q1, q2⟩
  · rw [if_neg (fun q => by rw [hz.mpr q] at q2; omega)] at hp
    exact ⟨fun q => by rw [q1] at q; exact absurd q (by decide), fun _ => hp⟩
  · rw [if_pos (hz.mp q2)] at hp
    exact ⟨fun _ => hp, fun q => absurd q1 q⟩
  · rw [if_neg (fun q => by rw [hz.mpr q] at q2; omega)] at hp
    exact ⟨fun q => by rw [q1] at q; exact absurd q (by decide), fun _ => hp⟩
set_option maxRecDepth 100000 in
set_option maxHeartbeats 4000000 in
theorem c_isBelow (V : xV) {a b a' b' z : Nat} {f : xH} {x x' : xZ} {t : Int32} {post : Option Value → xH → Nat → Prop} (hn : Nt f a b x) (hn' : Nt f a' b' x') (ht : -1100 ≤ t.toInt ∧ t.toInt ≤ 1100)
    (hS : -1393796574908163946345982392040522594123776 ≤ sz x ∧ sz x ≤ 1393796574908163946345982392040522594123776) (hS' : -8362779449448983678075894352243135564742656 ≤ t.toInt * sz x' ∧ t.toInt * sz x' ≤ 8362779449448983678075894352243135564742656)
    (hp : post (some (.int (if sz x < t.toInt * sz x' then 1 else 0))) f z) :
    xMet V yX1_isBelow cX1_isBelow 7 (some .boolean) 1 0 0 [.ref a, .ref a', .int t] f z post := by
  refine xMet_of false (by decide) (Nat.le_of_ble_eq_true rfl) (fun h => by cases h) (fun X hX O Rt => ?_)
  have O : xO X cX1_isBelow 7 RX1 1 0 0 false := O
  show xG X 0 [some (.ref a), some (.ref a'), some (.int t), none, none, none, none] [] f (z, 0, 0)
  obtain ⟨h0, e, h, m, l, hf, hf2, h3, h4, h5, h6, h7, h8⟩ := hn
  obtain ⟨g0, e', h', m', l', gf, gf2, g3, g4, g5, g6, g7, g8⟩ := hn'
  refine xgo O Rt xplX1_q xclX1_q [] 60 ?_
  simp (maxSteps := 10000000) (disch := omega) only [↓reduceIte, ↓xrun_s, ↓xck_e, xdo_e, xlg_0, xlg_c, xst1_0, xst1_1, xst1_c, xst2_0, xst2_1, xst2_c, xk2_n, xk2_i, xk2_a, xk2_l, xct_i, xct_a, xct_l, xf4_0, xf4_1, xf4_2, xf4_3, List.contains_cons, List.contains_nil, Bool.or_false, Bool.false_or, Bool.or_self, Bool.true_or, Bool.or_true, cond_true, cond_false, List.set_cons_zero, List.set_cons_succ, List.length_cons, List.length_nil, true_and, and_true, xu_s, xu_u, xeqs, Nat.le_refl, not_true_eq_false, xq_10, xq_01, Int32.reduceAdd, Int32.reduceMul, Int32.reduceSub, Int32.reduceLE, Int32.reduceLT, Int32.reduceToNatClampNeg, Nat.reduceAdd, Nat.reduceMul, Nat.reduceBEq, Nat.reduceLT, Nat.reduceLeDiff, Nat.reduceEqDiff, Nat.zero_add, Bool.false_eq_true, reduceCtorEq, if_false, if_true, not_false_eq_true, true_imp_iff, false_imp_iff, imp_self, ↓xil_e, ↓xll_e, ↓xal_e, ↓xs1i_e, ↓xs2i_e, ↓xs1l_e, ↓xs2l_e, ↓xsil_e, ↓xs1_e, ↓xs2_e, ↓xs1a_e, ↓xsia_e, ↓xsiia_e, ↓xslia_e, ↓xsaia_e, ↓xsva_e, ↓xse1i_e, ↓xse1l_e, ↓xse1a_e, ↓xse0_e, ↓xfv_0, ↓xfv_c, ↓xgf_e, ↓xpf_e, ↓xia_e, ↓xia_n, ↓xba_e, ↓xba_n, ↓xla_e, ↓xla_n, ↓xob_e, ↓xra_e, ↓xno_e, ↓xle_e, ↓xnr_i, ↓xnr_b0, ↓xnr_b1, ↓xnr_n, ↓xdo_e, ↓xkl_0, ↓xe_iconst, ↓xe_bipush, ↓xe_lconst, ↓xe_ladd, ↓xe_lsub, ↓xe_lmul, ↓xe_lcmp, ↓xe_lshr, ↓xe_i2l, ↓xe_iload_n, ↓xe_lload, ↓xe_lload_n, ↓xe_aload_n, ↓xe_lstore, ↓xe_lstore_n, ↓xe_goto, ↓xe_getfield, ↓xe_ireturn, ↓xe_if_ge, dX1_isBelow_0, dX1_isBelow_1, dX1_isBelow_4, dX1_isBelow_5, dX1_isBelow_6, dX1_isBelow_7, dX1_isBelow_10, dX1_isBelow_11, dX1_isBelow_12, dX1_isBelow_13, dX1_isBelow_14, dX1_isBelow_17, dX1_isBelow_18, dX1_isBelow_19, dX1_isBelow_20, dX1_isBelow_23, dX1_isBelow_24, dX1_isBelow_25, dX1_isBelow_26, dX1_isBelow_28, dX1_isBelow_29, dX1_isBelow_30, dX1_isBelow_32, dX1_isBelow_33, dX1_isBelow_36, dX1_isBelow_37, dX1_isBelow_38, dX1_isBelow_39, dX1_isBelow_42, dX1_isBelow_43, dX1_isBelow_44, dX1_isBelow_46, dX1_isBelow_48, dX1_isBelow_49, dX1_isBelow_50, dX1_isBelow_51, dX1_isBelow_52, dX1_isBelow_55, dX1_isBelow_56, dX1_isBelow_59, dX1_isBelow_60, xpX1_21, xpX1_25, xpX1_28, xkb_40, xki_0, xki_1, xkl_0, xkl_1, hf, gf, xt_52_7, xtc_52_7, xt_56_4, xtc_56_4]
  have key := below_eq (t := t) h4 g4 ⟨h5, h6, h7, h8⟩ ⟨g5, g6, g7, g8⟩ ht hS hS'
  rw [lg_cmp_ge, m_le, key, m_0]
  refine ⟨fun q => ?_, fun q => ?_⟩
  · rw [if_neg (by omega)] at hp
    exact hp
  · rw [if_pos (by omega)] at hp
    exact hp
