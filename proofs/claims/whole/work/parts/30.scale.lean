/-! ===== TuningTables$Scale: its world, reading ===== -/
theorem dX3_noteAt_0 : decode cX3_noteAt 0 = .ok (.iload_n 1, 1) := by decide +kernel
theorem dX3_noteAt_1 : decode cX3_noteAt 1 = .ok (.aload_n 0, 1) := by decide +kernel
theorem dX3_noteAt_2 : decode cX3_noteAt 2 = .ok (.getfield 38, 3) := by decide +kernel
theorem dX3_noteAt_5 : decode cX3_noteAt 5 = .ok (.if_icmp .ne 10, 3) := by decide +kernel
theorem dX3_noteAt_8 : decode cX3_noteAt 8 = .ok (.aload_n 0, 1) := by decide +kernel
theorem dX3_noteAt_9 : decode cX3_noteAt 9 = .ok (.getfield 28, 3) := by decide +kernel
theorem dX3_noteAt_12 : decode cX3_noteAt 12 = .ok (.goto 9, 3) := by decide +kernel
theorem dX3_noteAt_15 : decode cX3_noteAt 15 = .ok (.aload_n 0, 1) := by decide +kernel
theorem dX3_noteAt_16 : decode cX3_noteAt 16 = .ok (.getfield 11, 3) := by decide +kernel
theorem dX3_noteAt_19 : decode cX3_noteAt 19 = .ok (.iload_n 1, 1) := by decide +kernel
theorem dX3_noteAt_20 : decode cX3_noteAt 20 = .ok (.aaload, 1) := by decide +kernel
theorem dX3_noteAt_21 : decode cX3_noteAt 21 = .ok (.areturn, 1) := by decide +kernel
theorem dX3_gapExponent_0 : decode cX3_gapExponent 0 = .ok (.iload_n 1, 1) := by decide +kernel
theorem dX3_gapExponent_1 : decode cX3_gapExponent 1 = .ok (.iconst 1, 1) := by decide +kernel
theorem dX3_gapExponent_2 : decode cX3_gapExponent 2 = .ok (.iadd, 1) := by decide +kernel
theorem dX3_gapExponent_3 : decode cX3_gapExponent 3 = .ok (.aload_n 0, 1) := by decide +kernel
theorem dX3_gapExponent_4 : decode cX3_gapExponent 4 = .ok (.getfield 38, 3) := by decide +kernel
theorem dX3_gapExponent_7 : decode cX3_gapExponent 7 = .ok (.if_icmp .ge 19, 3) := by decide +kernel
theorem dX3_gapExponent_10 : decode cX3_gapExponent 10 = .ok (.aload_n 0, 1) := by decide +kernel
theorem dX3_gapExponent_11 : decode cX3_gapExponent 11 = .ok (.getfield 17, 3) := by decide +kernel
theorem dX3_gapExponent_14 : decode cX3_gapExponent 14 = .ok (.aload_n 0, 1) := by decide +kernel
theorem dX3_gapExponent_15 : decode cX3_gapExponent 15 = .ok (.getfield 24, 3) := by decide +kernel
theorem dX3_gapExponent_18 : decode cX3_gapExponent 18 = .ok (.iload_n 1, 1) := by decide +kernel
theorem dX3_gapExponent_19 : decode cX3_gapExponent 19 = .ok (.iconst 1, 1) := by decide +kernel
theorem dX3_gapExponent_20 : decode cX3_gapExponent 20 = .ok (.iadd, 1) := by decide +kernel
theorem dX3_gapExponent_21 : decode cX3_gapExponent 21 = .ok (.iaload, 1) := by decide +kernel
theorem dX3_gapExponent_22 : decode cX3_gapExponent 22 = .ok (.aaload, 1) := by decide +kernel
theorem dX3_gapExponent_23 : decode cX3_gapExponent 23 = .ok (.goto 7, 3) := by decide +kernel
theorem dX3_gapExponent_26 : decode cX3_gapExponent 26 = .ok (.aload_n 0, 1) := by decide +kernel
theorem dX3_gapExponent_27 : decode cX3_gapExponent 27 = .ok (.getfield 28, 3) := by decide +kernel
theorem dX3_gapExponent_30 : decode cX3_gapExponent 30 = .ok (.astore_n 3, 1) := by decide +kernel
theorem dX3_gapExponent_31 : decode cX3_gapExponent 31 = .ok (.aload_n 3, 1) := by decide +kernel
theorem dX3_gapExponent_32 : decode cX3_gapExponent 32 = .ok (.getfield 85, 3) := by decide +kernel
theorem dX3_gapExponent_35 : decode cX3_gapExponent 35 = .ok (.iload_n 2, 1) := by decide +kernel
theorem dX3_gapExponent_36 : decode cX3_gapExponent 36 = .ok (.iaload, 1) := by decide +kernel
theorem dX3_gapExponent_37 : decode cX3_gapExponent 37 = .ok (.aload_n 0, 1) := by decide +kernel
theorem dX3_gapExponent_38 : decode cX3_gapExponent 38 = .ok (.getfield 17, 3) := by decide +kernel
theorem dX3_gapExponent_41 : decode cX3_gapExponent 41 = .ok (.aload_n 0, 1) := by decide +kernel
theorem dX3_gapExponent_42 : decode cX3_gapExponent 42 = .ok (.getfield 24, 3) := by decide +kernel
theorem dX3_gapExponent_45 : decode cX3_gapExponent 45 = .ok (.iload_n 1, 1) := by decide +kernel
theorem dX3_gapExponent_46 : decode cX3_gapExponent 46 = .ok (.iaload, 1) := by decide +kernel
theorem dX3_gapExponent_47 : decode cX3_gapExponent 47 = .ok (.aaload, 1) := by decide +kernel
theorem dX3_gapExponent_48 : decode cX3_gapExponent 48 = .ok (.getfield 85, 3) := by decide +kernel
theorem dX3_gapExponent_51 : decode cX3_gapExponent 51 = .ok (.iload_n 2, 1) := by decide +kernel
theorem dX3_gapExponent_52 : decode cX3_gapExponent 52 = .ok (.iaload, 1) := by decide +kernel
theorem dX3_gapExponent_53 : decode cX3_gapExponent 53 = .ok (.isub, 1) := by decide +kernel
theorem dX3_gapExponent_54 : decode cX3_gapExponent 54 = .ok (.ireturn, 1) := by decide +kernel
theorem dX3_areSameGaps_0 : decode cX3_areSameGaps 0 = .ok (.iconst 0, 1) := by decide +kernel
theorem dX3_areSameGaps_1 : decode cX3_areSameGaps 1 = .ok (.istore_n 3, 1) := by decide +kernel
theorem dX3_areSameGaps_2 : decode cX3_areSameGaps 2 = .ok (.iload_n 3, 1) := by decide +kernel
theorem dX3_areSameGaps_3 : decode cX3_areSameGaps 3 = .ok (.bipush 6, 2) := by decide +kernel
theorem dX3_areSameGaps_5 : decode cX3_areSameGaps 5 = .ok (.if_icmp .ge 26, 3) := by decide +kernel
theorem dX3_areSameGaps_8 : decode cX3_areSameGaps 8 = .ok (.aload_n 0, 1) := by decide +kernel
theorem dX3_areSameGaps_9 : decode cX3_areSameGaps 9 = .ok (.iload_n 1, 1) := by decide +kernel
theorem dX3_areSameGaps_10 : decode cX3_areSameGaps 10 = .ok (.iload_n 3, 1) := by decide +kernel
theorem dX3_areSameGaps_11 : decode cX3_areSameGaps 11 = .ok (.invokevirtual 96, 3) := by decide +kernel
theorem dX3_areSameGaps_14 : decode cX3_areSameGaps 14 = .ok (.aload_n 0, 1) := by decide +kernel
theorem dX3_areSameGaps_15 : decode cX3_areSameGaps 15 = .ok (.iload_n 2, 1) := by decide +kernel
theorem dX3_areSameGaps_16 : decode cX3_areSameGaps 16 = .ok (.iload_n 3, 1) := by decide +kernel
theorem dX3_areSameGaps_17 : decode cX3_areSameGaps 17 = .ok (.invokevirtual 96, 3) := by decide +kernel
theorem dX3_areSameGaps_20 : decode cX3_areSameGaps 20 = .ok (.if_icmp .eq 5, 3) := by decide +kernel
theorem dX3_areSameGaps_23 : decode cX3_areSameGaps 23 = .ok (.iconst 0, 1) := by decide +kernel
theorem dX3_areSameGaps_24 : decode cX3_areSameGaps 24 = .ok (.ireturn, 1) := by decide +kernel
theorem dX3_areSameGaps_25 : decode cX3_areSameGaps 25 = .ok (.iinc 3 1, 3) := by decide +kernel
theorem dX3_areSameGaps_28 : decode cX3_areSameGaps 28 = .ok (.goto (-26), 3) := by decide +kernel
theorem dX3_areSameGaps_31 : decode cX3_areSameGaps 31 = .ok (.iconst 1, 1) := by decide +kernel
theorem dX3_areSameGaps_32 : decode cX3_areSameGaps 32 = .ok (.ireturn, 1) := by decide +kernel
theorem dX3_isGapBefore_0 : decode cX3_isGapBefore 0 = .ok (.iconst 0, 1) := by decide +kernel
theorem dX3_isGapBefore_1 : decode cX3_isGapBefore 1 = .ok (.istore_n 2, 1) := by decide +kernel
theorem dX3_isGapBefore_2 : decode cX3_isGapBefore 2 = .ok (.iload_n 2, 1) := by decide +kernel
theorem dX3_isGapBefore_3 : decode cX3_isGapBefore 3 = .ok (.iload_n 1, 1) := by decide +kernel
theorem dX3_isGapBefore_4 : decode cX3_isGapBefore 4 = .ok (.if_icmp .ge 20, 3) := by decide +kernel
theorem dX3_isGapBefore_7 : decode cX3_isGapBefore 7 = .ok (.aload_n 0, 1) := by decide +kernel
theorem dX3_isGapBefore_8 : decode cX3_isGapBefore 8 = .ok (.iload_n 2, 1) := by decide +kernel
theorem dX3_isGapBefore_9 : decode cX3_isGapBefore 9 = .ok (.iload_n 1, 1) := by decide +kernel
theorem dX3_isGapBefore_10 : decode cX3_isGapBefore 10 = .ok (.invokevirtual 92, 3) := by decide +kernel
theorem dX3_isGapBefore_13 : decode cX3_isGapBefore 13 = .ok (.ifCond .eq 5, 3) := by decide +kernel
theorem dX3_isGapBefore_16 : decode cX3_isGapBefore 16 = .ok (.iconst 1, 1) := by decide +kernel
theorem dX3_isGapBefore_17 : decode cX3_isGapBefore 17 = .ok (.ireturn, 1) := by decide +kernel
theorem dX3_isGapBefore_18 : decode cX3_isGapBefore 18 = .ok (.iinc 2 1, 3) := by decide +kernel
theorem dX3_isGapBefore_21 : decode cX3_isGapBefore 21 = .ok (.goto (-19), 3) := by decide +kernel
theorem dX3_isGapBefore_24 : decode cX3_isGapBefore 24 = .ok (.iconst 0, 1) := by decide +kernel
theorem dX3_isGapBefore_25 : decode cX3_isGapBefore 25 = .ok (.ireturn, 1) := by decide +kernel
theorem dX3_differentGaps_0 : decode cX3_differentGaps 0 = .ok (.iconst 0, 1) := by decide +kernel
theorem dX3_differentGaps_1 : decode cX3_differentGaps 1 = .ok (.istore_n 1, 1) := by decide +kernel
theorem dX3_differentGaps_2 : decode cX3_differentGaps 2 = .ok (.iconst 0, 1) := by decide +kernel
theorem dX3_differentGaps_3 : decode cX3_differentGaps 3 = .ok (.istore_n 2, 1) := by decide +kernel
theorem dX3_differentGaps_4 : decode cX3_differentGaps 4 = .ok (.iload_n 2, 1) := by decide +kernel
theorem dX3_differentGaps_5 : decode cX3_differentGaps 5 = .ok (.aload_n 0, 1) := by decide +kernel
theorem dX3_differentGaps_6 : decode cX3_differentGaps 6 = .ok (.getfield 38, 3) := by decide +kernel
theorem dX3_differentGaps_9 : decode cX3_differentGaps 9 = .ok (.if_icmp .ge 20, 3) := by decide +kernel
theorem dX3_differentGaps_12 : decode cX3_differentGaps 12 = .ok (.aload_n 0, 1) := by decide +kernel
theorem dX3_differentGaps_13 : decode cX3_differentGaps 13 = .ok (.iload_n 2, 1) := by decide +kernel
theorem dX3_differentGaps_14 : decode cX3_differentGaps 14 = .ok (.invokevirtual 88, 3) := by decide +kernel
theorem dX3_differentGaps_17 : decode cX3_differentGaps 17 = .ok (.ifCond .ne 6, 3) := by decide +kernel
theorem dX3_differentGaps_20 : decode cX3_differentGaps 20 = .ok (.iinc 1 1, 3) := by decide +kernel
theorem dX3_differentGaps_23 : decode cX3_differentGaps 23 = .ok (.iinc 2 1, 3) := by decide +kernel
theorem dX3_differentGaps_26 : decode cX3_differentGaps 26 = .ok (.goto (-22), 3) := by decide +kernel
theorem dX3_differentGaps_29 : decode cX3_differentGaps 29 = .ok (.iload_n 1, 1) := by decide +kernel
theorem dX3_differentGaps_30 : decode cX3_differentGaps 30 = .ok (.ireturn, 1) := by decide +kernel
abbrev xSc (w n : Nat) : xE := xOb 3 [.ref (w + 5), .ref (w + 6), .ref (w + 7), .ref (w + 8), .ref (w + 9), .ref (w + 11), .ref (w + 13), .int (nI n)]
/-- the scale's cells: count n, steps at ps with exponents xs, the reduced ones rs, taken tk, sorted so, period P -/
def ScW (f : xH) (w n : Nat) (ps : Nat → Nat) (xs rs : Nat → xZ) (tk so : Nat → Int32) (P : xZ) : Prop :=
  f (w + 4) = some (xSc w n) ∧ (∃ st, f (w + 5) = some (xR 24 st) ∧ ∀ i, i < 24 → st i = some (ps i)) ∧ (∃ rd, f (w + 6) = some (xR 24 rd) ∧ ∀ i, i < 24 → rd i = some (w + 17 + 4 * i)) ∧ f (w + 7) = some (xI 24 tk) ∧ f (w + 8) = some (xI 24 so) ∧
  (∀ i, i < 24 → ∃ j, j < 24 ∧ ps i = w + 15 + 4 * j) ∧ (∀ i j, i < 24 → j < 24 → ps i = ps j → i = j) ∧ (∀ i, i < 24 → Nt f (ps i) (ps i + 1) (xs i)) ∧ (∀ i, i < 24 → Nt f (w + 17 + 4 * i) (w + 18 + 4 * i) (rs i)) ∧ Nt f (w + 9) (w + 10) P ∧ (∃ lk, Nt f (w + 11) (w + 12) lk) ∧ ∃ sm, Nt f (w + 13) (w + 14) sm
theorem ScW.kept {f f' : xH} {w n : Nat} {ps : Nat → Nat} {xs rs : Nat → xZ} {tk so : Nat → Int32} {P : xZ} (h : ScW f w n ps xs rs tk so P) (k : ∀ q, w + 4 ≤ q → q < w + 111 → f' q = f q) : ScW f' w n ps xs rs tk so P := by
  obtain ⟨h1, ⟨st, h2, h2'⟩, ⟨rd, h3, h3'⟩, h4, h5, h6, h7, h8, h9, h10, ⟨lk, h11⟩, sm, h12⟩ := h
  refine ⟨(k _ (by omega) (by omega)).trans h1, ⟨st, (k _ (by omega) (by omega)).trans h2, h2'⟩, ⟨rd, (k _ (by omega) (by omega)).trans h3, h3'⟩, (k _ (by omega) (by omega)).trans h4, (k _ (by omega) (by omega)).trans h5, h6, h7, fun i hi => ?_, fun i hi => (h9 i hi).kept (k _ (by omega) (by omega)) (k _ (by omega) (by omega)), h10.kept (k _ (by omega) (by omega)) (k _ (by omega) (by omega)), ⟨lk, h11.kept (k _ (by omega) (by omega)) (k _ (by omega) (by omega))⟩, sm, h12.kept (k _ (by omega) (by omega)) (k _ (by omega) (by omega))⟩
  obtain ⟨j, hj, e⟩ := h6 i hi
  exact (h8 i hi).kept (k _ (by omega) (by omega)) (k _ (by omega) (by omega))
set_option maxRecDepth 100000 in
set_option maxHeartbeats 4000000 in
theorem c_noteAt (V : xV) {w z n s : Nat} {f : xH} {ps : Nat → Nat} {xs rs : Nat → xZ} {tk so : Nat → Int32} {P : xZ} {post : Option Value → xH → Nat → Prop} (hW : ScW f w n ps xs rs tk so P) (hn : n ≤ 24) (hs : s ≤ n)
    (hp : post (some (.ref (if s = n then w + 9 else ps s))) f z) : xMet V yX3_noteAt cX3_noteAt 2 (some (.object "TuningTables$Note")) 1 0 0 [.ref (w + 4), .int (nI s)] f z post := by
  refine xMet_of false (by decide) (Nat.le_of_ble_eq_true rfl) (fun h => by cases h) (fun X hX O Rt => ?_)
  have O : xO X cX3_noteAt 2 RX3 1 0 0 false := O
  have Rt : xRt X (some (.object RX1)) 0 0 post := Rt
  show xG X 0 [some (.ref (w + 4)), some (.int (nI s))] [] f (z, 0, 0)
  obtain ⟨h1, ⟨st, h2, h2'⟩, -⟩ := hW
  by_cases hsn : s = n
  · subst hsn
    rw [if_pos rfl] at hp
    refine xgo O Rt xplX3_q xclX3_q [] 30 ?_
    simp (maxSteps := 10000000) (disch := omega) only [↓reduceIte, ↓xrun_s, ↓xck_e, xdo_e, xlg_0, xlg_c, xst1_0, xst1_1, xst1_c, xst2_0, xst2_1, xst2_c, xk2_n, xk2_i, xk2_a, xk2_l, xct_i, xct_a, xct_l, xf4_0, xf4_1, xf4_2, xf4_3, List.contains_cons, List.contains_nil, Bool.or_false, Bool.false_or, Bool.or_self, Bool.true_or, Bool.or_true, cond_true, cond_false, List.set_cons_zero, List.set_cons_succ, List.length_cons, List.length_nil, true_and, and_true, xu_s, xu_u, xeqs, Nat.le_refl, not_true_eq_false, xq_10, xq_01, Int32.reduceAdd, Int32.reduceMul, Int32.reduceSub, Int32.reduceLE, Int32.reduceLT, Int32.reduceToNatClampNeg, Nat.reduceAdd, Nat.reduceMul, Nat.reduceBEq, Nat.reduceLT, Nat.reduceLeDiff, Nat.reduceEqDiff, Nat.zero_add, Bool.false_eq_true, reduceCtorEq, if_false, if_true, not_false_eq_true, true_imp_iff, false_imp_iff, imp_self, ↓xil_e, ↓xll_e, ↓xal_e, ↓xs1i_e, ↓xs2i_e, ↓xs1l_e, ↓xs2l_e, ↓xsil_e, ↓xs1_e, ↓xs2_e, ↓xs1a_e, ↓xsia_e, ↓xsiia_e, ↓xslia_e, ↓xsaia_e, ↓xsva_e, ↓xse1i_e, ↓xse1l_e, ↓xse1a_e, ↓xse0_e, ↓xfv_0, ↓xfv_c, ↓xgf_e, ↓xpf_e, ↓xia_e, ↓xia_n, ↓xba_e, ↓xba_n, ↓xla_e, ↓xla_n, ↓xob_e, ↓xra_e, ↓xno_e, ↓xle_e, ↓xnr_i, ↓xnr_b0, ↓xnr_b1, ↓xnr_n, ↓xdo_e, ↓xkl_0, ↓xe_iload_n, ↓xe_aload_n, ↓xe_goto, ↓xe_getfield, ↓xe_aaload, ↓xe_areturn, ↓xe_icmp_ne, dX3_noteAt_0, dX3_noteAt_1, dX3_noteAt_2, dX3_noteAt_5, dX3_noteAt_8, dX3_noteAt_9, dX3_noteAt_12, dX3_noteAt_15, dX3_noteAt_16, dX3_noteAt_19, dX3_noteAt_20, dX3_noteAt_21, xpX3_11, xpX3_28, xpX3_38, h1, xt_5_10, xtc_5_10, xt_12_9, xtc_12_9]
    exact hp
  · rw [if_neg hsn] at hp
    have v1 : vp_in (nI s) 24 := vp_in_nI (by omega) (by omega)
    have v2 : st (nI s).toNatClampNeg = some (ps s) := by rw [nI_clamp (by omega)]; exact h2' s (by omega)
    have hne : (nI s = nI n) = False := eq_false (fun q => hsn ((nI_eq (by omega) (by omega)).mp q))
    refine xgo O Rt xplX3_q xclX3_q [] 30 ?_
    simp (maxSteps := 10000000) (disch := omega) only [↓reduceIte, ↓xrun_s, ↓xck_e, xdo_e, xlg_0, xlg_c, xst1_0, xst1_1, xst1_c, xst2_0, xst2_1, xst2_c, xk2_n, xk2_i, xk2_a, xk2_l, xct_i, xct_a, xct_l, xf4_0, xf4_1, xf4_2, xf4_3, List.contains_cons, List.contains_nil, Bool.or_false, Bool.false_or, Bool.or_self, Bool.true_or, Bool.or_true, cond_true, cond_false, List.set_cons_zero, List.set_cons_succ, List.length_cons, List.length_nil, true_and, and_true, xu_s, xu_u, xeqs, Nat.le_refl, not_true_eq_false, xq_10, xq_01, Int32.reduceAdd, Int32.reduceMul, Int32.reduceSub, Int32.reduceLE, Int32.reduceLT, Int32.reduceToNatClampNeg, Nat.reduceAdd, Nat.reduceMul, Nat.reduceBEq, Nat.reduceLT, Nat.reduceLeDiff, Nat.reduceEqDiff, Nat.zero_add, Bool.false_eq_true, reduceCtorEq, if_false, if_true, not_false_eq_true, true_imp_iff, false_imp_iff, imp_self, ↓xil_e, ↓xll_e, ↓xal_e, ↓xs1i_e, ↓xs2i_e, ↓xs1l_e, ↓xs2l_e, ↓xsil_e, ↓xs1_e, ↓xs2_e, ↓xs1a_e, ↓xsia_e, ↓xsiia_e, ↓xslia_e, ↓xsaia_e, ↓xsva_e, ↓xse1i_e, ↓xse1l_e, ↓xse1a_e, ↓xse0_e, ↓xfv_0, ↓xfv_c, ↓xgf_e, ↓xpf_e, ↓xia_e, ↓xia_n, ↓xba_e, ↓xba_n, ↓xla_e, ↓xla_n, ↓xob_e, ↓xra_e, ↓xno_e, ↓xle_e, ↓xnr_i, ↓xnr_b0, ↓xnr_b1, ↓xnr_n, ↓xdo_e, ↓xkl_0, ↓xe_iload_n, ↓xe_aload_n, ↓xe_goto, ↓xe_getfield, ↓xe_aaload, ↓xe_areturn, ↓xe_icmp_ne, dX3_noteAt_0, dX3_noteAt_1, dX3_noteAt_2, dX3_noteAt_5, dX3_noteAt_8, dX3_noteAt_9, dX3_noteAt_12, dX3_noteAt_15, dX3_noteAt_16, dX3_noteAt_19, dX3_noteAt_20, dX3_noteAt_21, xpX3_11, xpX3_28, xpX3_38, h1, h2, v1, v2, hne, xt_5_10, xtc_5_10, xt_12_9, xtc_12_9]
    exact hp
/-- an exponent of a gap -/
def gpv (n : Nat) (rs : Nat → xZ) (s : Nat → Nat) (P : xZ) (i p : Nat) : Int := (if i + 1 < n then rs (s (i + 1)) p else P p) - rs (s i) p
set_option maxRecDepth 100000 in
set_option maxHeartbeats 4000000 in
theorem c_gapExponent (V : xV) {w z n i p : Nat} {f : xH} {ps s : Nat → Nat} {xs rs : Nat → xZ} {tk so : Nat → Int32} {P : xZ} {post : Option Value → xH → Nat → Prop} (hW : ScW f w n ps xs rs tk so P) (hn : n ≤ 24) (hi : i < n) (hp6 : p < 6) (hs : ∀ j, j < n → s j < n ∧ so j = nI (s j)) (hbr : ∀ j, j < n → bd (rs j) 1000) (hbP : bd P 3)
    (hp : ∀ r : Int32, r.toInt = gpv n rs s P i p → post (some (.int r)) f z) : xMet V yX3_gapExponent cX3_gapExponent 4 (some .int) 1 0 0 [.ref (w + 4), .int (nI i), .int (nI p)] f z post := by
  refine xMet_of false (by decide) (Nat.le_of_ble_eq_true rfl) (fun h => by cases h) (fun X hX O Rt => ?_)
  have O : xO X cX3_gapExponent 4 RX3 1 0 0 false := O
  show xG X 0 [some (.ref (w + 4)), some (.int (nI i)), some (.int (nI p)), none] [] f (z, 0, 0)
  obtain ⟨h1, -, ⟨rd, h3, h3'⟩, h4, h5, h6, h7, h8, h9, h10, -⟩ := hW
  have ni : nI i + 1 = nI (i + 1) := nI_1 i
  have v0 : vp_in (nI i) 24 := vp_in_nI (by omega) (by omega)
  have v1 : (nI i).toNatClampNeg = i := nI_clamp (by omega)
  obtain ⟨s1, s2⟩ := hs i hi
  have v2 : vp_in (nI (s i)) 24 := vp_in_nI (by omega) (by omega)
  have v3 : rd (nI (s i)).toNatClampNeg = some (w + 17 + 4 * s i) := by rw [nI_clamp (by omega)]; exact h3' _ (by omega)
  have v4 : vp_in (nI p) 6 := vp_in_nI hp6 (by omega)
  have v5 : (nI p).toNatClampNeg = p := nI_clamp (by omega)
  obtain ⟨-, e1, a1, a2, a3, a4, a5, a6, -⟩ := h9 (s i) (by omega)
  have hb1 := hbr (s i) s1 p hp6
  have he1 := a6 p hp6
  by_cases hc : i + 1 < n
  · obtain ⟨t1, t2⟩ := hs (i + 1) hc
    have u0 : vp_in (nI (i + 1)) 24 := vp_in_nI (by omega) (by omega)
    have u1 : (nI (i + 1)).toNatClampNeg = i + 1 := nI_clamp (by omega)
    have u2 : vp_in (nI (s (i + 1))) 24 := vp_in_nI (by omega) (by omega)
    have u3 : rd (nI (s (i + 1))).toNatClampNeg = some (w + 17 + 4 * s (i + 1)) := by rw [nI_clamp (by omega)]; exact h3' _ (by omega)
    obtain ⟨-, e2, b1, b2, b3, b4, b5, b6, -⟩ := h9 (s (i + 1)) (by omega)
    have hb2 := hbr (s (i + 1)) t1 p hp6
    have he2 := b6 p hp6
    have hcc : (nI n ≤ nI (i + 1)) = False := eq_false (fun q => by have := (nI_leI (by omega) (by omega)).mp q; omega)
    refine xgo O Rt xplX3_q xclX3_q [] 60 ?_
    simp (maxSteps := 10000000) (disch := omega) only [↓reduceIte, ↓xrun_s, ↓xck_e, xdo_e, xlg_0, xlg_c, xst1_0, xst1_1, xst1_c, xst2_0, xst2_1, xst2_c, xk2_n, xk2_i, xk2_a, xk2_l, xct_i, xct_a, xct_l, xf4_0, xf4_1, xf4_2, xf4_3, List.contains_cons, List.contains_nil, Bool.or_false, Bool.false_or, Bool.or_self, Bool.true_or, Bool.or_true, cond_true, cond_false, List.set_cons_zero, List.set_cons_succ, List.length_cons, List.length_nil, true_and, and_true, xu_s, xu_u, xeqs, Nat.le_refl, not_true_eq_false, xq_10, xq_01, Int32.reduceAdd, Int32.reduceMul, Int32.reduceSub, Int32.reduceLE, Int32.reduceLT, Int32.reduceToNatClampNeg, Nat.reduceAdd, Nat.reduceMul, Nat.reduceBEq, Nat.reduceLT, Nat.reduceLeDiff, Nat.reduceEqDiff, Nat.zero_add, Bool.false_eq_true, reduceCtorEq, if_false, if_true, not_false_eq_true, true_imp_iff, false_imp_iff, imp_self, ↓xil_e, ↓xll_e, ↓xal_e, ↓xs1i_e, ↓xs2i_e, ↓xs1l_e, ↓xs2l_e, ↓xsil_e, ↓xs1_e, ↓xs2_e, ↓xs1a_e, ↓xsia_e, ↓xsiia_e, ↓xslia_e, ↓xsaia_e, ↓xsva_e, ↓xse1i_e, ↓xse1l_e, ↓xse1a_e, ↓xse0_e, ↓xfv_0, ↓xfv_c, ↓xgf_e, ↓xpf_e, ↓xia_e, ↓xia_n, ↓xba_e, ↓xba_n, ↓xla_e, ↓xla_n, ↓xob_e, ↓xra_e, ↓xno_e, ↓xle_e, ↓xnr_i, ↓xnr_b0, ↓xnr_b1, ↓xnr_n, ↓xdo_e, ↓xkl_0, ↓xe_iconst, ↓xe_iadd, ↓xe_isub, ↓xe_iload_n, ↓xe_aload_n, ↓xe_astore_n, ↓xe_goto, ↓xe_getfield, ↓xe_iaload, ↓xe_aaload, ↓xe_ireturn, ↓xe_icmp_ge, dX3_gapExponent_0, dX3_gapExponent_1, dX3_gapExponent_2, dX3_gapExponent_3, dX3_gapExponent_4, dX3_gapExponent_7, dX3_gapExponent_10, dX3_gapExponent_11, dX3_gapExponent_14, dX3_gapExponent_15, dX3_gapExponent_18, dX3_gapExponent_19, dX3_gapExponent_20, dX3_gapExponent_21, dX3_gapExponent_22, dX3_gapExponent_23, dX3_gapExponent_26, dX3_gapExponent_27, dX3_gapExponent_30, dX3_gapExponent_31, dX3_gapExponent_32, dX3_gapExponent_35, dX3_gapExponent_36, dX3_gapExponent_37, dX3_gapExponent_38, dX3_gapExponent_41, dX3_gapExponent_42, dX3_gapExponent_45, dX3_gapExponent_46, dX3_gapExponent_47, dX3_gapExponent_48, dX3_gapExponent_51, dX3_gapExponent_52, dX3_gapExponent_53, dX3_gapExponent_54, xpX3_17, xpX3_24, xpX3_28, xpX3_38, xpX3_85, xki_1, h1, h3, h5, ni, hcc, v0, v1, s2, v2, v3, v4, v5, a4, a5, u0, u1, u2, u3, t2, b4, b5, xt_7_19, xtc_7_19, xt_23_7, xtc_23_7]
    refine hp _ ?_
    rw [n_sub (by rw [he1, he2]; omega) (by rw [he1, he2]; omega), he1, he2]
    simp only [gpv, if_pos hc]
  · obtain ⟨-, e2, b1, b2, b3, b4, b5, b6, -⟩ := h10
    have hb2 := hbP p hp6
    have he2 := b6 p hp6
    have hcc : (nI n ≤ nI (i + 1)) = True := eq_true ((nI_leI (by omega) (by omega)).mpr (by omega))
    refine xgo O Rt xplX3_q xclX3_q [] 60 ?_
    simp (maxSteps := 10000000) (disch := omega) only [↓reduceIte, ↓xrun_s, ↓xck_e, xdo_e, xlg_0, xlg_c, xst1_0, xst1_1, xst1_c, xst2_0, xst2_1, xst2_c, xk2_n, xk2_i, xk2_a, xk2_l, xct_i, xct_a, xct_l, xf4_0, xf4_1, xf4_2, xf4_3, List.contains_cons, List.contains_nil, Bool.or_false, Bool.false_or, Bool.or_self, Bool.true_or, Bool.or_true, cond_true, cond_false, List.set_cons_zero, List.set_cons_succ, List.length_cons, List.length_nil, true_and, and_true, xu_s, xu_u, xeqs, Nat.le_refl, not_true_eq_false, xq_10, xq_01, Int32.reduceAdd, Int32.reduceMul, Int32.reduceSub, Int32.reduceLE, Int32.reduceLT, Int32.reduceToNatClampNeg, Nat.reduceAdd, Nat.reduceMul, Nat.reduceBEq, Nat.reduceLT, Nat.reduceLeDiff, Nat.reduceEqDiff, Nat.zero_add, Bool.false_eq_true, reduceCtorEq, if_false, if_true, not_false_eq_true, true_imp_iff, false_imp_iff, imp_self, ↓xil_e, ↓xll_e, ↓xal_e, ↓xs1i_e, ↓xs2i_e, ↓xs1l_e, ↓xs2l_e, ↓xsil_e, ↓xs1_e, ↓xs2_e, ↓xs1a_e, ↓xsia_e, ↓xsiia_e, ↓xslia_e, ↓xsaia_e, ↓xsva_e, ↓xse1i_e, ↓xse1l_e, ↓xse1a_e, ↓xse0_e, ↓xfv_0, ↓xfv_c, ↓xgf_e, ↓xpf_e, ↓xia_e, ↓xia_n, ↓xba_e, ↓xba_n, ↓xla_e, ↓xla_n, ↓xob_e, ↓xra_e, ↓xno_e, ↓xle_e, ↓xnr_i, ↓xnr_b0, ↓xnr_b1, ↓xnr_n, ↓xdo_e, ↓xkl_0, ↓xe_iconst, ↓xe_iadd, ↓xe_isub, ↓xe_iload_n, ↓xe_aload_n, ↓xe_astore_n, ↓xe_goto, ↓xe_getfield, ↓xe_iaload, ↓xe_aaload, ↓xe_ireturn, ↓xe_icmp_ge, dX3_gapExponent_0, dX3_gapExponent_1, dX3_gapExponent_2, dX3_gapExponent_3, dX3_gapExponent_4, dX3_gapExponent_7, dX3_gapExponent_10, dX3_gapExponent_11, dX3_gapExponent_14, dX3_gapExponent_15, dX3_gapExponent_18, dX3_gapExponent_19, dX3_gapExponent_20, dX3_gapExponent_21, dX3_gapExponent_22, dX3_gapExponent_23, dX3_gapExponent_26, dX3_gapExponent_27, dX3_gapExponent_30, dX3_gapExponent_31, dX3_gapExponent_32, dX3_gapExponent_35, dX3_gapExponent_36, dX3_gapExponent_37, dX3_gapExponent_38, dX3_gapExponent_41, dX3_gapExponent_42, dX3_gapExponent_45, dX3_gapExponent_46, dX3_gapExponent_47, dX3_gapExponent_48, dX3_gapExponent_51, dX3_gapExponent_52, dX3_gapExponent_53, dX3_gapExponent_54, xpX3_17, xpX3_24, xpX3_28, xpX3_38, xpX3_85, xki_1, h1, h3, h5, ni, hcc, v0, v1, s2, v2, v3, v4, v5, a4, a5, b4, b5, xt_7_19, xtc_7_19, xt_23_7, xtc_23_7]
    refine hp _ ?_
    rw [n_sub (by rw [he1, he2]; omega) (by rw [he1, he2]; omega), he1, he2]
    simp only [gpv, if_neg hc]
def sameg (n : Nat) (rs : Nat → xZ) (s : Nat → Nat) (P : xZ) (i j : Nat) : Prop := ∀ p, p < 6 → gpv n rs s P i p = gpv n rs s P j p
set_option maxRecDepth 100000 in
set_option maxHeartbeats 4000000 in
theorem c_areSameGaps (V : xV) {w z n i j : Nat} {f : xH} {ps s : Nat → Nat} {xs rs : Nat → xZ} {tk so : Nat → Int32} {P : xZ} {post : Option Value → xH → Nat → Prop} (hW : ScW f w n ps xs rs tk so P) (hn : n ≤ 24) (hi : i < n) (hj : j < n) (hs : ∀ j, j < n → s j < n ∧ so j = nI (s j)) (hbr : ∀ j, j < n → bd (rs j) 1000) (hbP : bd P 3)
    (hp1 : sameg n rs s P i j → post (some (.int 1)) f z) (hp0 : ¬ sameg n rs s P i j → post (some (.int 0)) f z) : xMet V yX3_areSameGaps cX3_areSameGaps 4 (some .boolean) 2 0 0 [.ref (w + 4), .int (nI i), .int (nI j)] f z post := by
  refine xMet_of false (by decide) (Nat.le_of_ble_eq_true rfl) (fun h => by cases h) (fun X hX O Rt => ?_)
  have O : xO X cX3_areSameGaps 4 RX3 2 0 0 false := O
  show xG X 0 [some (.ref (w + 4)), some (.int (nI i)), some (.int (nI j)), none] [] f (z, 0, 0)
  have h1 : f (w + 4) = some (xSc w n) := hW.1
  have six : (6 : Int32).toInt = 6 := rfl
  have loop : ∀ k p : Nat, p + k = 6 → (∀ q, q < p → gpv n rs s P i q = gpv n rs s P j q) → xG X 2 [some (.ref (w + 4)), some (.int (nI i)), some (.int (nI j)), some (.int (nI p))] [] f (z, 0, 0) := by
    intro k
    induction k with
    | zero =>
      intro p hpk hall
      have hti : (nI p).toInt = 6 := by rw [nI_toInt (by omega)]; omega
      refine xgo O Rt xplX3_q xclX3_q [2] 30 ?_
      simp (maxSteps := 10000000) (disch := omega) only [↓reduceIte, ↓xrun_s, ↓xck_e, xdo_e, xlg_0, xlg_c, xst1_0, xst1_1, xst1_c, xst2_0, xst2_1, xst2_c, xk2_n, xk2_i, xk2_a, xk2_l, xct_i, xct_a, xct_l, xf4_0, xf4_1, xf4_2, xf4_3, List.contains_cons, List.contains_nil, Bool.or_false, Bool.false_or, Bool.or_self, Bool.true_or, Bool.or_true, cond_true, cond_false, List.set_cons_zero, List.set_cons_succ, List.length_cons, List.length_nil, true_and, and_true, xu_s, xu_u, xeqs, Nat.le_refl, not_true_eq_false, xq_10, xq_01, Int32.reduceAdd, Int32.reduceMul, Int32.reduceSub, Int32.reduceLE, Int32.reduceLT, Int32.reduceToNatClampNeg, Nat.reduceAdd, Nat.reduceMul, Nat.reduceBEq, Nat.reduceLT, Nat.reduceLeDiff, Nat.reduceEqDiff, Nat.zero_add, Bool.false_eq_true, reduceCtorEq, if_false, if_true, not_false_eq_true, true_imp_iff, false_imp_iff, imp_self, ↓xil_e, ↓xll_e, ↓xal_e, ↓xs1i_e, ↓xs2i_e, ↓xs1l_e, ↓xs2l_e, ↓xsil_e, ↓xs1_e, ↓xs2_e, ↓xs1a_e, ↓xsia_e, ↓xsiia_e, ↓xslia_e, ↓xsaia_e, ↓xsva_e, ↓xse1i_e, ↓xse1l_e, ↓xse1a_e, ↓xse0_e, ↓xfv_0, ↓xfv_c, ↓xgf_e, ↓xpf_e, ↓xia_e, ↓xia_n, ↓xba_e, ↓xba_n, ↓xla_e, ↓xla_n, ↓xob_e, ↓xra_e, ↓xno_e, ↓xle_e, ↓xnr_i, ↓xnr_b0, ↓xnr_b1, ↓xnr_n, ↓xdo_e, ↓xkl_0, ↓xe_iconst, ↓xe_bipush, ↓xe_iload_n, ↓xe_aload_n, ↓xe_istore_n, ↓xe_iinc, ↓xe_goto, ↓xe_ireturn, ↓xe_icmp_eq, ↓xe_icmp_ge, ↓xe_invokevirtual, dX3_areSameGaps_0, dX3_areSameGaps_1, dX3_areSameGaps_2, dX3_areSameGaps_3, dX3_areSameGaps_5, dX3_areSameGaps_8, dX3_areSameGaps_9, dX3_areSameGaps_10, dX3_areSameGaps_11, dX3_areSameGaps_14, dX3_areSameGaps_15, dX3_areSameGaps_16, dX3_areSameGaps_17, dX3_areSameGaps_20, dX3_areSameGaps_23, dX3_areSameGaps_24, dX3_areSameGaps_25, dX3_areSameGaps_28, dX3_areSameGaps_31, dX3_areSameGaps_32, xkb_6, xki_0, xki_1, n_le, six, hti, xt_5_26, xtc_5_26, xt_20_5, xtc_20_5, xt_28_m26, xtc_28_m26]
      exact ⟨fun _ => hp1 (fun q hq => hall q (by omega)), fun q => absurd (by omega) q⟩
    | succ k ih =>
      intro p hpk hall
      have hti : (nI p).toInt = (p : Int) := nI_toInt (by omega)
      have np : nI p + 1 = nI (p + 1) := nI_1 p
      refine xgo O Rt xplX3_q xclX3_q [2] 30 ?_
      simp (maxSteps := 10000000) (disch := omega) only [↓reduceIte, ↓xrun_s, ↓xck_e, xdo_e, xlg_0, xlg_c, xst1_0, xst1_1, xst1_c, xst2_0, xst2_1, xst2_c, xk2_n, xk2_i, xk2_a, xk2_l, xct_i, xct_a, xct_l, xf4_0, xf4_1, xf4_2, xf4_3, List.contains_cons, List.contains_nil, Bool.or_false, Bool.false_or, Bool.or_self, Bool.true_or, Bool.or_true, cond_true, cond_false, List.set_cons_zero, List.set_cons_succ, List.length_cons, List.length_nil, true_and, and_true, xu_s, xu_u, xeqs, Nat.le_refl, not_true_eq_false, xq_10, xq_01, Int32.reduceAdd, Int32.reduceMul, Int32.reduceSub, Int32.reduceLE, Int32.reduceLT, Int32.reduceToNatClampNeg, Nat.reduceAdd, Nat.reduceMul, Nat.reduceBEq, Nat.reduceLT, Nat.reduceLeDiff, Nat.reduceEqDiff, Nat.zero_add, Bool.false_eq_true, reduceCtorEq, if_false, if_true, not_false_eq_true, true_imp_iff, false_imp_iff, imp_self, ↓xil_e, ↓xll_e, ↓xal_e, ↓xs1i_e, ↓xs2i_e, ↓xs1l_e, ↓xs2l_e, ↓xsil_e, ↓xs1_e, ↓xs2_e, ↓xs1a_e, ↓xsia_e, ↓xsiia_e, ↓xslia_e, ↓xsaia_e, ↓xsva_e, ↓xse1i_e, ↓xse1l_e, ↓xse1a_e, ↓xse0_e, ↓xfv_0, ↓xfv_c, ↓xgf_e, ↓xpf_e, ↓xia_e, ↓xia_n, ↓xba_e, ↓xba_n, ↓xla_e, ↓xla_n, ↓xob_e, ↓xra_e, ↓xno_e, ↓xle_e, ↓xnr_i, ↓xnr_b0, ↓xnr_b1, ↓xnr_n, ↓xdo_e, ↓xkl_0, ↓xe_iconst, ↓xe_bipush, ↓xe_iload_n, ↓xe_aload_n, ↓xe_istore_n, ↓xe_iinc, ↓xe_goto, ↓xe_ireturn, ↓xe_icmp_eq, ↓xe_icmp_ge, ↓xe_invokevirtual, dX3_areSameGaps_0, dX3_areSameGaps_1, dX3_areSameGaps_2, dX3_areSameGaps_3, dX3_areSameGaps_5, dX3_areSameGaps_8, dX3_areSameGaps_9, dX3_areSameGaps_10, dX3_areSameGaps_11, dX3_areSameGaps_14, dX3_areSameGaps_15, dX3_areSameGaps_16, dX3_areSameGaps_17, dX3_areSameGaps_20, dX3_areSameGaps_23, dX3_areSameGaps_24, dX3_areSameGaps_25, dX3_areSameGaps_28, dX3_areSameGaps_31, dX3_areSameGaps_32, xkb_6, xki_0, xki_1, n_le, six, hti, xt_5_26, xtc_5_26, xt_20_5, xtc_20_5, xt_28_m26, xtc_28_m26]
      refine ⟨fun q => absurd q (by omega), fun _ => ?_⟩
      refine xg_callVi (Qp := fun r f' => r.toInt = gpv n rs s P i p ∧ f' = f) O dX3_areSameGaps_11 xl_X3_96 xk_X3_gapExponent (c_gapExponent _ hW hn hi (by omega) hs hbr hbP (fun r q => ⟨r, rfl, ⟨q, rfl⟩, rfl⟩)) h1 rfl rfl rfl (Nat.le_of_ble_eq_true rfl) rfl (Nat.le_of_ble_eq_true rfl) (Nat.le_of_ble_eq_true rfl) (Nat.le_of_ble_eq_true rfl) (fun r f1 hq => ?_)
      obtain ⟨hr1, rfl⟩ := hq
      rename_i r1
      refine xgo O Rt xplX3_q xclX3_q [2] 30 ?_
      simp (maxSteps := 10000000) (disch := omega) only [↓reduceIte, ↓xrun_s, ↓xck_e, xdo_e, xlg_0, xlg_c, xst1_0, xst1_1, xst1_c, xst2_0, xst2_1, xst2_c, xk2_n, xk2_i, xk2_a, xk2_l, xct_i, xct_a, xct_l, xf4_0, xf4_1, xf4_2, xf4_3, List.contains_cons, List.contains_nil, Bool.or_false, Bool.false_or, Bool.or_self, Bool.true_or, Bool.or_true, cond_true, cond_false, List.set_cons_zero, List.set_cons_succ, List.length_cons, List.length_nil, true_and, and_true, xu_s, xu_u, xeqs, Nat.le_refl, not_true_eq_false, xq_10, xq_01, Int32.reduceAdd, Int32.reduceMul, Int32.reduceSub, Int32.reduceLE, Int32.reduceLT, Int32.reduceToNatClampNeg, Nat.reduceAdd, Nat.reduceMul, Nat.reduceBEq, Nat.reduceLT, Nat.reduceLeDiff, Nat.reduceEqDiff, Nat.zero_add, Bool.false_eq_true, reduceCtorEq, if_false, if_true, not_false_eq_true, true_imp_iff, false_imp_iff, imp_self, ↓xil_e, ↓xll_e, ↓xal_e, ↓xs1i_e, ↓xs2i_e, ↓xs1l_e, ↓xs2l_e, ↓xsil_e, ↓xs1_e, ↓xs2_e, ↓xs1a_e, ↓xsia_e, ↓xsiia_e, ↓xslia_e, ↓xsaia_e, ↓xsva_e, ↓xse1i_e, ↓xse1l_e, ↓xse1a_e, ↓xse0_e, ↓xfv_0, ↓xfv_c, ↓xgf_e, ↓xpf_e, ↓xia_e, ↓xia_n, ↓xba_e, ↓xba_n, ↓xla_e, ↓xla_n, ↓xob_e, ↓xra_e, ↓xno_e, ↓xle_e, ↓xnr_i, ↓xnr_b0, ↓xnr_b1, ↓xnr_n, ↓xdo_e, ↓xkl_0, ↓xe_iconst, ↓xe_bipush, ↓xe_iload_n, ↓xe_aload_n, ↓xe_istore_n, ↓xe_iinc, ↓xe_goto, ↓xe_ireturn, ↓xe_icmp_eq, ↓xe_icmp_ge, ↓xe_invokevirtual, dX3_areSameGaps_0, dX3_areSameGaps_1, dX3_areSameGaps_2, dX3_areSameGaps_3, dX3_areSameGaps_5, dX3_areSameGaps_8, dX3_areSameGaps_9, dX3_areSameGaps_10, dX3_areSameGaps_11, dX3_areSameGaps_14, dX3_areSameGaps_15, dX3_areSameGaps_16, dX3_areSameGaps_17, dX3_areSameGaps_20, dX3_areSameGaps_23, dX3_areSameGaps_24, dX3_areSameGaps_25, dX3_areSameGaps_28, dX3_areSameGaps_31, dX3_areSameGaps_32, xkb_6, xki_0, xki_1, xt_5_26, xtc_5_26, xt_20_5, xtc_20_5, xt_28_m26, xtc_28_m26]
      refine xg_callVi (Qp := fun r f' => r.toInt = gpv n rs s P j p ∧ f' = f1) O dX3_areSameGaps_17 xl_X3_96 xk_X3_gapExponent (c_gapExponent _ hW hn hj (by omega) hs hbr hbP (fun r q => ⟨r, rfl, ⟨q, rfl⟩, rfl⟩)) h1 rfl rfl rfl (Nat.le_of_ble_eq_true rfl) rfl (Nat.le_of_ble_eq_true rfl) (Nat.le_of_ble_eq_true rfl) (Nat.le_of_ble_eq_true rfl) (fun r f2 hq => ?_)
      obtain ⟨hr2, rfl⟩ := hq
      refine xgo O Rt xplX3_q xclX3_q [2] 30 ?_
      simp (maxSteps := 10000000) (disch := omega) only [↓reduceIte, ↓xrun_s, ↓xck_e, xdo_e, xlg_0, xlg_c, xst1_0, xst1_1, xst1_c, xst2_0, xst2_1, xst2_c, xk2_n, xk2_i, xk2_a, xk2_l, xct_i, xct_a, xct_l, xf4_0, xf4_1, xf4_2, xf4_3, List.contains_cons, List.contains_nil, Bool.or_false, Bool.false_or, Bool.or_self, Bool.true_or, Bool.or_true, cond_true, cond_false, List.set_cons_zero, List.set_cons_succ, List.length_cons, List.length_nil, true_and, and_true, xu_s, xu_u, xeqs, Nat.le_refl, not_true_eq_false, xq_10, xq_01, Int32.reduceAdd, Int32.reduceMul, Int32.reduceSub, Int32.reduceLE, Int32.reduceLT, Int32.reduceToNatClampNeg, Nat.reduceAdd, Nat.reduceMul, Nat.reduceBEq, Nat.reduceLT, Nat.reduceLeDiff, Nat.reduceEqDiff, Nat.zero_add, Bool.false_eq_true, reduceCtorEq, if_false, if_true, not_false_eq_true, true_imp_iff, false_imp_iff, imp_self, ↓xil_e, ↓xll_e, ↓xal_e, ↓xs1i_e, ↓xs2i_e, ↓xs1l_e, ↓xs2l_e, ↓xsil_e, ↓xs1_e, ↓xs2_e, ↓xs1a_e, ↓xsia_e, ↓xsiia_e, ↓xslia_e, ↓xsaia_e, ↓xsva_e, ↓xse1i_e, ↓xse1l_e, ↓xse1a_e, ↓xse0_e, ↓xfv_0, ↓xfv_c, ↓xgf_e, ↓xpf_e, ↓xia_e, ↓xia_n, ↓xba_e, ↓xba_n, ↓xla_e, ↓xla_n, ↓xob_e, ↓xra_e, ↓xno_e, ↓xle_e, ↓xnr_i, ↓xnr_b0, ↓xnr_b1, ↓xnr_n, ↓xdo_e, ↓xkl_0, ↓xe_iconst, ↓xe_bipush, ↓xe_iload_n, ↓xe_aload_n, ↓xe_istore_n, ↓xe_iinc, ↓xe_goto, ↓xe_ireturn, ↓xe_icmp_eq, ↓xe_icmp_ge, ↓xe_invokevirtual, dX3_areSameGaps_0, dX3_areSameGaps_1, dX3_areSameGaps_2, dX3_areSameGaps_3, dX3_areSameGaps_5, dX3_areSameGaps_8, dX3_areSameGaps_9, dX3_areSameGaps_10, dX3_areSameGaps_11, dX3_areSameGaps_14, dX3_areSameGaps_15, dX3_areSameGaps_16, dX3_areSameGaps_17, dX3_areSameGaps_20, dX3_areSameGaps_23, dX3_areSameGaps_24, dX3_areSameGaps_25, dX3_areSameGaps_28, dX3_areSameGaps_31, dX3_areSameGaps_32, xkb_6, xki_0, xki_1, np, xt_5_26, xtc_5_26, xt_20_5, xtc_20_5, xt_28_m26, xtc_28_m26]
      refine ⟨fun q => ?_, fun q => ?_⟩
      · refine ih (p + 1) (by omega) (fun q' hq' => ?_)
        by_cases he : q' = p
        · subst he
          rw [← hr1, ← hr2, q]
        · exact hall q' (by omega)
      · refine hp0 (fun hall2 => q (n_eq.mpr ?_))
        rw [hr1, hr2]
        exact hall2 p (by omega)
  refine xgo O Rt xplX3_q xclX3_q [2] 30 ?_
  simp (maxSteps := 10000000) (disch := omega) only [↓reduceIte, ↓xrun_s, ↓xck_e, xdo_e, xlg_0, xlg_c, xst1_0, xst1_1, xst1_c, xst2_0, xst2_1, xst2_c, xk2_n, xk2_i, xk2_a, xk2_l, xct_i, xct_a, xct_l, xf4_0, xf4_1, xf4_2, xf4_3, List.contains_cons, List.contains_nil, Bool.or_false, Bool.false_or, Bool.or_self, Bool.true_or, Bool.or_true, cond_true, cond_false, List.set_cons_zero, List.set_cons_succ, List.length_cons, List.length_nil, true_and, and_true, xu_s, xu_u, xeqs, Nat.le_refl, not_true_eq_false, xq_10, xq_01, Int32.reduceAdd, Int32.reduceMul, Int32.reduceSub, Int32.reduceLE, Int32.reduceLT, Int32.reduceToNatClampNeg, Nat.reduceAdd, Nat.reduceMul, Nat.reduceBEq, Nat.reduceLT, Nat.reduceLeDiff, Nat.reduceEqDiff, Nat.zero_add, Bool.false_eq_true, reduceCtorEq, if_false, if_true, not_false_eq_true, true_imp_iff, false_imp_iff, imp_self, ↓xil_e, ↓xll_e, ↓xal_e, ↓xs1i_e, ↓xs2i_e, ↓xs1l_e, ↓xs2l_e, ↓xsil_e, ↓xs1_e, ↓xs2_e, ↓xs1a_e, ↓xsia_e, ↓xsiia_e, ↓xslia_e, ↓xsaia_e, ↓xsva_e, ↓xse1i_e, ↓xse1l_e, ↓xse1a_e, ↓xse0_e, ↓xfv_0, ↓xfv_c, ↓xgf_e, ↓xpf_e, ↓xia_e, ↓xia_n, ↓xba_e, ↓xba_n, ↓xla_e, ↓xla_n, ↓xob_e, ↓xra_e, ↓xno_e, ↓xle_e, ↓xnr_i, ↓xnr_b0, ↓xnr_b1, ↓xnr_n, ↓xdo_e, ↓xkl_0, ↓xe_iconst, ↓xe_bipush, ↓xe_iload_n, ↓xe_aload_n, ↓xe_istore_n, ↓xe_iinc, ↓xe_goto, ↓xe_ireturn, ↓xe_icmp_eq, ↓xe_icmp_ge, ↓xe_invokevirtual, dX3_areSameGaps_0, dX3_areSameGaps_1, dX3_areSameGaps_2, dX3_areSameGaps_3, dX3_areSameGaps_5, dX3_areSameGaps_8, dX3_areSameGaps_9, dX3_areSameGaps_10, dX3_areSameGaps_11, dX3_areSameGaps_14, dX3_areSameGaps_15, dX3_areSameGaps_16, dX3_areSameGaps_17, dX3_areSameGaps_20, dX3_areSameGaps_23, dX3_areSameGaps_24, dX3_areSameGaps_25, dX3_areSameGaps_28, dX3_areSameGaps_31, dX3_areSameGaps_32, xkb_6, xki_0, xki_1, xt_5_26, xtc_5_26, xt_20_5, xtc_20_5, xt_28_m26, xtc_28_m26]
  exact loop 6 0 (by omega) (fun q hq => absurd hq (by omega))
set_option maxRecDepth 100000 in
set_option maxHeartbeats 4000000 in
theorem c_isGapBefore (V : xV) {w z n i : Nat} {f : xH} {ps s : Nat → Nat} {xs rs : Nat → xZ} {tk so : Nat → Int32} {P : xZ} {post : Option Value → xH → Nat → Prop} (hW : ScW f w n ps xs rs tk so P) (hn : n ≤ 24) (hi : i < n) (hs : ∀ j, j < n → s j < n ∧ so j = nI (s j)) (hbr : ∀ j, j < n → bd (rs j) 1000) (hbP : bd P 3)
    (hp1 : (∃ j, j < i ∧ sameg n rs s P j i) → post (some (.int 1)) f z) (hp0 : ¬ (∃ j, j < i ∧ sameg n rs s P j i) → post (some (.int 0)) f z) : xMet V yX3_isGapBefore cX3_isGapBefore 3 (some .boolean) 3 0 0 [.ref (w + 4), .int (nI i)] f z post := by
  refine xMet_of false (by decide) (Nat.le_of_ble_eq_true rfl) (fun h => by cases h) (fun X hX O Rt => ?_)
  have O : xO X cX3_isGapBefore 3 RX3 3 0 0 false := O
  show xG X 0 [some (.ref (w + 4)), some (.int (nI i)), none] [] f (z, 0, 0)
  have h1 : f (w + 4) = some (xSc w n) := hW.1
  have loop : ∀ k p : Nat, p + k = i → (∀ q, q < p → ¬ sameg n rs s P q i) → xG X 2 [some (.ref (w + 4)), some (.int (nI i)), some (.int (nI p))] [] f (z, 0, 0) := by
    intro k
    induction k with
    | zero =>
      intro p hpk hall
      have hcc : (nI i ≤ nI p) = True := eq_true ((nI_leI (by omega) (by omega)).mpr (by omega))
      refine xgo O Rt xplX3_q xclX3_q [2] 30 ?_
      simp (maxSteps := 10000000) (disch := omega) only [↓reduceIte, ↓xrun_s, ↓xck_e, xdo_e, xlg_0, xlg_c, xst1_0, xst1_1, xst1_c, xst2_0, xst2_1, xst2_c, xk2_n, xk2_i, xk2_a, xk2_l, xct_i, xct_a, xct_l, xf4_0, xf4_1, xf4_2, xf4_3, List.contains_cons, List.contains_nil, Bool.or_false, Bool.false_or, Bool.or_self, Bool.true_or, Bool.or_true, cond_true, cond_false, List.set_cons_zero, List.set_cons_succ, List.length_cons, List.length_nil, true_and, and_true, xu_s, xu_u, xeqs, Nat.le_refl, not_true_eq_false, xq_10, xq_01, Int32.reduceAdd, Int32.reduceMul, Int32.reduceSub, Int32.reduceLE, Int32.reduceLT, Int32.reduceToNatClampNeg, Nat.reduceAdd, Nat.reduceMul, Nat.reduceBEq, Nat.reduceLT, Nat.reduceLeDiff, Nat.reduceEqDiff, Nat.zero_add, Bool.false_eq_true, reduceCtorEq, if_false, if_true, not_false_eq_true, true_imp_iff, false_imp_iff, imp_self, ↓xil_e, ↓xll_e, ↓xal_e, ↓xs1i_e, ↓xs2i_e, ↓xs1l_e, ↓xs2l_e, ↓xsil_e, ↓xs1_e, ↓xs2_e, ↓xs1a_e, ↓xsia_e, ↓xsiia_e, ↓xslia_e, ↓xsaia_e, ↓xsva_e, ↓xse1i_e, ↓xse1l_e, ↓xse1a_e, ↓xse0_e, ↓xfv_0, ↓xfv_c, ↓xgf_e, ↓xpf_e, ↓xia_e, ↓xia_n, ↓xba_e, ↓xba_n, ↓xla_e, ↓xla_n, ↓xob_e, ↓xra_e, ↓xno_e, ↓xle_e, ↓xnr_i, ↓xnr_b0, ↓xnr_b1, ↓xnr_n, ↓xdo_e, ↓xkl_0, ↓xe_iconst, ↓xe_iload_n, ↓xe_aload_n, ↓xe_istore_n, ↓xe_iinc, ↓xe_goto, ↓xe_ireturn, ↓xe_if_eq, ↓xe_icmp_ge, ↓xe_invokevirtual, dX3_isGapBefore_0, dX3_isGapBefore_1, dX3_isGapBefore_2, dX3_isGapBefore_3, dX3_isGapBefore_4, dX3_isGapBefore_7, dX3_isGapBefore_8, dX3_isGapBefore_9, dX3_isGapBefore_10, dX3_isGapBefore_13, dX3_isGapBefore_16, dX3_isGapBefore_17, dX3_isGapBefore_18, dX3_isGapBefore_21, dX3_isGapBefore_24, dX3_isGapBefore_25, xki_0, xki_1, hcc, xt_4_20, xtc_4_20, xt_13_5, xtc_13_5, xt_21_m19, xtc_21_m19]
      refine hp0 ?_
      rintro ⟨j, hj, hj2⟩
      exact hall j (by omega) hj2
    | succ k ih =>
      intro p hpk hall
      have hcc : (nI i ≤ nI p) = False := eq_false (fun q => by have := (nI_leI (by omega) (by omega)).mp q; omega)
      have np : nI p + 1 = nI (p + 1) := nI_1 p
      refine xgo O Rt xplX3_q xclX3_q [2] 30 ?_
      simp (maxSteps := 10000000) (disch := omega) only [↓reduceIte, ↓xrun_s, ↓xck_e, xdo_e, xlg_0, xlg_c, xst1_0, xst1_1, xst1_c, xst2_0, xst2_1, xst2_c, xk2_n, xk2_i, xk2_a, xk2_l, xct_i, xct_a, xct_l, xf4_0, xf4_1, xf4_2, xf4_3, List.contains_cons, List.contains_nil, Bool.or_false, Bool.false_or, Bool.or_self, Bool.true_or, Bool.or_true, cond_true, cond_false, List.set_cons_zero, List.set_cons_succ, List.length_cons, List.length_nil, true_and, and_true, xu_s, xu_u, xeqs, Nat.le_refl, not_true_eq_false, xq_10, xq_01, Int32.reduceAdd, Int32.reduceMul, Int32.reduceSub, Int32.reduceLE, Int32.reduceLT, Int32.reduceToNatClampNeg, Nat.reduceAdd, Nat.reduceMul, Nat.reduceBEq, Nat.reduceLT, Nat.reduceLeDiff, Nat.reduceEqDiff, Nat.zero_add, Bool.false_eq_true, reduceCtorEq, if_false, if_true, not_false_eq_true, true_imp_iff, false_imp_iff, imp_self, ↓xil_e, ↓xll_e, ↓xal_e, ↓xs1i_e, ↓xs2i_e, ↓xs1l_e, ↓xs2l_e, ↓xsil_e, ↓xs1_e, ↓xs2_e, ↓xs1a_e, ↓xsia_e, ↓xsiia_e, ↓xslia_e, ↓xsaia_e, ↓xsva_e, ↓xse1i_e, ↓xse1l_e, ↓xse1a_e, ↓xse0_e, ↓xfv_0, ↓xfv_c, ↓xgf_e, ↓xpf_e, ↓xia_e, ↓xia_n, ↓xba_e, ↓xba_n, ↓xla_e, ↓xla_n, ↓xob_e, ↓xra_e, ↓xno_e, ↓xle_e, ↓xnr_i, ↓xnr_b0, ↓xnr_b1, ↓xnr_n, ↓xdo_e, ↓xkl_0, ↓xe_iconst, ↓xe_iload_n, ↓xe_aload_n, ↓xe_istore_n, ↓xe_iinc, ↓xe_goto, ↓xe_ireturn, ↓xe_if_eq, ↓xe_icmp_ge, ↓xe_invokevirtual, dX3_isGapBefore_0, dX3_isGapBefore_1, dX3_isGapBefore_2, dX3_isGapBefore_3, dX3_isGapBefore_4, dX3_isGapBefore_7, dX3_isGapBefore_8, dX3_isGapBefore_9, dX3_isGapBefore_10, dX3_isGapBefore_13, dX3_isGapBefore_16, dX3_isGapBefore_17, dX3_isGapBefore_18, dX3_isGapBefore_21, dX3_isGapBefore_24, dX3_isGapBefore_25, xki_0, xki_1, hcc, xt_4_20, xtc_4_20, xt_13_5, xtc_13_5, xt_21_m19, xtc_21_m19]
      refine xg_callVi (Qp := fun r f' => ((sameg n rs s P p i ∧ r = 1) ∨ (¬ sameg n rs s P p i ∧ r = 0)) ∧ f' = f) O dX3_isGapBefore_10 xl_X3_92 xk_X3_areSameGaps (c_areSameGaps _ hW hn (i := p) (j := i) (by omega) hi hs hbr hbP (fun q => ⟨1, rfl, ⟨Or.inl ⟨q, rfl⟩, rfl⟩, rfl⟩) (fun q => ⟨0, rfl, ⟨Or.inr ⟨q, rfl⟩, rfl⟩, rfl⟩)) h1 rfl rfl rfl (Nat.le_of_ble_eq_true rfl) rfl (Nat.le_of_ble_eq_true rfl) (Nat.le_of_ble_eq_true rfl) (Nat.le_of_ble_eq_true rfl) (fun r f1 hq => ?_)
      obtain ⟨hc, rfl⟩ := hq
      rcases hc with ⟨hc, rfl⟩ | ⟨hc, rfl⟩
      · refine xgo O Rt xplX3_q xclX3_q [2] 30 ?_
        simp (maxSteps := 10000000) (disch := omega) only [↓reduceIte, ↓xrun_s, ↓xck_e, xdo_e, xlg_0, xlg_c, xst1_0, xst1_1, xst1_c, xst2_0, xst2_1, xst2_c, xk2_n, xk2_i, xk2_a, xk2_l, xct_i, xct_a, xct_l, xf4_0, xf4_1, xf4_2, xf4_3, List.contains_cons, List.contains_nil, Bool.or_false, Bool.false_or, Bool.or_self, Bool.true_or, Bool.or_true, cond_true, cond_false, List.set_cons_zero, List.set_cons_succ, List.length_cons, List.length_nil, true_and, and_true, xu_s, xu_u, xeqs, Nat.le_refl, not_true_eq_false, xq_10, xq_01, Int32.reduceAdd, Int32.reduceMul, Int32.reduceSub, Int32.reduceLE, Int32.reduceLT, Int32.reduceToNatClampNeg, Nat.reduceAdd, Nat.reduceMul, Nat.reduceBEq, Nat.reduceLT, Nat.reduceLeDiff, Nat.reduceEqDiff, Nat.zero_add, Bool.false_eq_true, reduceCtorEq, if_false, if_true, not_false_eq_true, true_imp_iff, false_imp_iff, imp_self, ↓xil_e, ↓xll_e, ↓xal_e, ↓xs1i_e, ↓xs2i_e, ↓xs1l_e, ↓xs2l_e, ↓xsil_e, ↓xs1_e, ↓xs2_e, ↓xs1a_e, ↓xsia_e, ↓xsiia_e, ↓xslia_e, ↓xsaia_e, ↓xsva_e, ↓xse1i_e, ↓xse1l_e, ↓xse1a_e, ↓xse0_e, ↓xfv_0, ↓xfv_c, ↓xgf_e, ↓xpf_e, ↓xia_e, ↓xia_n, ↓xba_e, ↓xba_n, ↓xla_e, ↓xla_n, ↓xob_e, ↓xra_e, ↓xno_e, ↓xle_e, ↓xnr_i, ↓xnr_b0, ↓xnr_b1, ↓xnr_n, ↓xdo_e, ↓xkl_0, ↓xe_iconst, ↓xe_iload_n, ↓xe_aload_n, ↓xe_istore_n, ↓xe_iinc, ↓xe_goto, ↓xe_ireturn, ↓xe_if_eq, ↓xe_icmp_ge, ↓xe_invokevirtual, dX3_isGapBefore_0, dX3_isGapBefore_1, dX3_isGapBefore_2, dX3_isGapBefore_3, dX3_isGapBefore_4, dX3_isGapBefore_7, dX3_isGapBefore_8, dX3_isGapBefore_9, dX3_isGapBefore_10, dX3_isGapBefore_13, dX3_isGapBefore_16, dX3_isGapBefore_17, dX3_isGapBefore_18, dX3_isGapBefore_21, dX3_isGapBefore_24, dX3_isGapBefore_25, xki_0, xki_1, np, xt_4_20, xtc_4_20, xt_13_5, xtc_13_5, xt_21_m19, xtc_21_m19]
        exact hp1 ⟨p, by omega, hc⟩
      · refine xgo O Rt xplX3_q xclX3_q [2] 30 ?_
        simp (maxSteps := 10000000) (disch := omega) only [↓reduceIte, ↓xrun_s, ↓xck_e, xdo_e, xlg_0, xlg_c, xst1_0, xst1_1, xst1_c, xst2_0, xst2_1, xst2_c, xk2_n, xk2_i, xk2_a, xk2_l, xct_i, xct_a, xct_l, xf4_0, xf4_1, xf4_2, xf4_3, List.contains_cons, List.contains_nil, Bool.or_false, Bool.false_or, Bool.or_self, Bool.true_or, Bool.or_true, cond_true, cond_false, List.set_cons_zero, List.set_cons_succ, List.length_cons, List.length_nil, true_and, and_true, xu_s, xu_u, xeqs, Nat.le_refl, not_true_eq_false, xq_10, xq_01, Int32.reduceAdd, Int32.reduceMul, Int32.reduceSub, Int32.reduceLE, Int32.reduceLT, Int32.reduceToNatClampNeg, Nat.reduceAdd, Nat.reduceMul, Nat.reduceBEq, Nat.reduceLT, Nat.reduceLeDiff, Nat.reduceEqDiff, Nat.zero_add, Bool.false_eq_true, reduceCtorEq, if_false, if_true, not_false_eq_true, true_imp_iff, false_imp_iff, imp_self, ↓xil_e, ↓xll_e, ↓xal_e, ↓xs1i_e, ↓xs2i_e, ↓xs1l_e, ↓xs2l_e, ↓xsil_e, ↓xs1_e, ↓xs2_e, ↓xs1a_e, ↓xsia_e, ↓xsiia_e, ↓xslia_e, ↓xsaia_e, ↓xsva_e, ↓xse1i_e, ↓xse1l_e, ↓xse1a_e, ↓xse0_e, ↓xfv_0, ↓xfv_c, ↓xgf_e, ↓xpf_e, ↓xia_e, ↓xia_n, ↓xba_e, ↓xba_n, ↓xla_e, ↓xla_n, ↓xob_e, ↓xra_e, ↓xno_e, ↓xle_e, ↓xnr_i, ↓xnr_b0, ↓xnr_b1, ↓xnr_n, ↓xdo_e, ↓xkl_0, ↓xe_iconst, ↓xe_iload_n, ↓xe_aload_n, ↓xe_istore_n, ↓xe_iinc, ↓xe_goto, ↓xe_ireturn, ↓xe_if_eq, ↓xe_icmp_ge, ↓xe_invokevirtual, dX3_isGapBefore_0, dX3_isGapBefore_1, dX3_isGapBefore_2, dX3_isGapBefore_3, dX3_isGapBefore_4, dX3_isGapBefore_7, dX3_isGapBefore_8, dX3_isGapBefore_9, dX3_isGapBefore_10, dX3_isGapBefore_13, dX3_isGapBefore_16, dX3_isGapBefore_17, dX3_isGapBefore_18, dX3_isGapBefore_21, dX3_isGapBefore_24, dX3_isGapBefore_25, xki_0, xki_1, np, xt_4_20, xtc_4_20, xt_13_5, xtc_13_5, xt_21_m19, xtc_21_m19]
        refine ih (p + 1) (by omega) (fun q hq => ?_)
        by_cases he : q = p
        · subst he; exact hc
        · exact hall q (by omega)
  refine xgo O Rt xplX3_q xclX3_q [2] 30 ?_
  simp (maxSteps := 10000000) (disch := omega) only [↓reduceIte, ↓xrun_s, ↓xck_e, xdo_e, xlg_0, xlg_c, xst1_0, xst1_1, xst1_c, xst2_0, xst2_1, xst2_c, xk2_n, xk2_i, xk2_a, xk2_l, xct_i, xct_a, xct_l, xf4_0, xf4_1, xf4_2, xf4_3, List.contains_cons, List.contains_nil, Bool.or_false, Bool.false_or, Bool.or_self, Bool.true_or, Bool.or_true, cond_true, cond_false, List.set_cons_zero, List.set_cons_succ, List.length_cons, List.length_nil, true_and, and_true, xu_s, xu_u, xeqs, Nat.le_refl, not_true_eq_false, xq_10, xq_01, Int32.reduceAdd, Int32.reduceMul, Int32.reduceSub, Int32.reduceLE, Int32.reduceLT, Int32.reduceToNatClampNeg, Nat.reduceAdd, Nat.reduceMul, Nat.reduceBEq, Nat.reduceLT, Nat.reduceLeDiff, Nat.reduceEqDiff, Nat.zero_add, Bool.false_eq_true, reduceCtorEq, if_false, if_true, not_false_eq_true, true_imp_iff, false_imp_iff, imp_self, ↓xil_e, ↓xll_e, ↓xal_e, ↓xs1i_e, ↓xs2i_e, ↓xs1l_e, ↓xs2l_e, ↓xsil_e, ↓xs1_e, ↓xs2_e, ↓xs1a_e, ↓xsia_e, ↓xsiia_e, ↓xslia_e, ↓xsaia_e, ↓xsva_e, ↓xse1i_e, ↓xse1l_e, ↓xse1a_e, ↓xse0_e, ↓xfv_0, ↓xfv_c, ↓xgf_e, ↓xpf_e, ↓xia_e, ↓xia_n, ↓xba_e, ↓xba_n, ↓xla_e, ↓xla_n, ↓xob_e, ↓xra_e, ↓xno_e, ↓xle_e, ↓xnr_i, ↓xnr_b0, ↓xnr_b1, ↓xnr_n, ↓xdo_e, ↓xkl_0, ↓xe_iconst, ↓xe_iload_n, ↓xe_aload_n, ↓xe_istore_n, ↓xe_iinc, ↓xe_goto, ↓xe_ireturn, ↓xe_if_eq, ↓xe_icmp_ge, ↓xe_invokevirtual, dX3_isGapBefore_0, dX3_isGapBefore_1, dX3_isGapBefore_2, dX3_isGapBefore_3, dX3_isGapBefore_4, dX3_isGapBefore_7, dX3_isGapBefore_8, dX3_isGapBefore_9, dX3_isGapBefore_10, dX3_isGapBefore_13, dX3_isGapBefore_16, dX3_isGapBefore_17, dX3_isGapBefore_18, dX3_isGapBefore_21, dX3_isGapBefore_24, dX3_isGapBefore_25, xki_0, xki_1, xt_4_20, xtc_4_20, xt_13_5, xtc_13_5, xt_21_m19, xtc_21_m19]
  exact loop i 0 (by omega) (fun q hq => absurd hq (by omega))
/-- how many gaps up to k have no like before them -/
def newg (n : Nat) (rs : Nat → xZ) (s : Nat → Nat) (P : xZ) : Nat → Nat → Prop
  | 0, c => c = 0
  | k + 1, c => ∃ c0, newg n rs s P k c0 ∧ (((∃ j, j < k ∧ sameg n rs s P j k) ∧ c = c0) ∨ (¬ (∃ j, j < k ∧ sameg n rs s P j k) ∧ c = c0 + 1))
theorem newg_le {n : Nat} {rs : Nat → xZ} {s : Nat → Nat} {P : xZ} : ∀ {k c : Nat}, newg n rs s P k c → c ≤ k
  | 0, c, h => by have : c = 0 := h; omega
  | k + 1, c, ⟨c0, h0, h⟩ => by have := newg_le h0; omega
set_option maxRecDepth 100000 in
set_option maxHeartbeats 4000000 in
theorem c_differentGaps (V : xV) {w z n : Nat} {f : xH} {ps s : Nat → Nat} {xs rs : Nat → xZ} {tk so : Nat → Int32} {P : xZ} {post : Option Value → xH → Nat → Prop} (hW : ScW f w n ps xs rs tk so P) (hn : n ≤ 24) (hs : ∀ j, j < n → s j < n ∧ so j = nI (s j)) (hbr : ∀ j, j < n → bd (rs j) 1000) (hbP : bd P 3)
    (hp : ∀ c, newg n rs s P n c → post (some (.int (nI c))) f z) : xMet V yX3_differentGaps cX3_differentGaps 3 (some .int) 4 0 0 [.ref (w + 4)] f z post := by
  refine xMet_of false (by decide) (Nat.le_of_ble_eq_true rfl) (fun h => by cases h) (fun X hX O Rt => ?_)
  have O : xO X cX3_differentGaps 3 RX3 4 0 0 false := O
  show xG X 0 [some (.ref (w + 4)), none, none] [] f (z, 0, 0)
  have h1 : f (w + 4) = some (xSc w n) := hW.1
  have loop : ∀ k p : Nat, p + k = n → ∀ c, newg n rs s P p c → xG X 4 [some (.ref (w + 4)), some (.int (nI c)), some (.int (nI p))] [] f (z, 0, 0) := by
    intro k
    induction k with
    | zero =>
      intro p hpk c hc
      have hcc : (nI n ≤ nI p) = True := eq_true ((nI_leI (by omega) (by omega)).mpr (by omega))
      refine xgo O Rt xplX3_q xclX3_q [4] 30 ?_
      simp (maxSteps := 10000000) (disch := omega) only [↓reduceIte, ↓xrun_s, ↓xck_e, xdo_e, xlg_0, xlg_c, xst1_0, xst1_1, xst1_c, xst2_0, xst2_1, xst2_c, xk2_n, xk2_i, xk2_a, xk2_l, xct_i, xct_a, xct_l, xf4_0, xf4_1, xf4_2, xf4_3, List.contains_cons, List.contains_nil, Bool.or_false, Bool.false_or, Bool.or_self, Bool.true_or, Bool.or_true, cond_true, cond_false, List.set_cons_zero, List.set_cons_succ, List.length_cons, List.length_nil, true_and, and_true, xu_s, xu_u, xeqs, Nat.le_refl, not_true_eq_false, xq_10, xq_01, Int32.reduceAdd, Int32.reduceMul, Int32.reduceSub, Int32.reduceLE, Int32.reduceLT, Int32.reduceToNatClampNeg, Nat.reduceAdd, Nat.reduceMul, Nat.reduceBEq, Nat.reduceLT, Nat.reduceLeDiff, Nat.reduceEqDiff, Nat.zero_add, Bool.false_eq_true, reduceCtorEq, if_false, if_true, not_false_eq_true, true_imp_iff, false_imp_iff, imp_self, ↓xil_e, ↓xll_e, ↓xal_e, ↓xs1i_e, ↓xs2i_e, ↓xs1l_e, ↓xs2l_e, ↓xsil_e, ↓xs1_e, ↓xs2_e, ↓xs1a_e, ↓xsia_e, ↓xsiia_e, ↓xslia_e, ↓xsaia_e, ↓xsva_e, ↓xse1i_e, ↓xse1l_e, ↓xse1a_e, ↓xse0_e, ↓xfv_0, ↓xfv_c, ↓xgf_e, ↓xpf_e, ↓xia_e, ↓xia_n, ↓xba_e, ↓xba_n, ↓xla_e, ↓xla_n, ↓xob_e, ↓xra_e, ↓xno_e, ↓xle_e, ↓xnr_i, ↓xnr_b0, ↓xnr_b1, ↓xnr_n, ↓xdo_e, ↓xkl_0, ↓xe_iconst, ↓xe_iload_n, ↓xe_aload_n, ↓xe_istore_n, ↓xe_iinc, ↓xe_goto, ↓xe_getfield, ↓xe_ireturn, ↓xe_if_ne, ↓xe_icmp_ge, ↓xe_invokevirtual, dX3_differentGaps_0, dX3_differentGaps_1, dX3_differentGaps_2, dX3_differentGaps_3, dX3_differentGaps_4, dX3_differentGaps_5, dX3_differentGaps_6, dX3_differentGaps_9, dX3_differentGaps_12, dX3_differentGaps_13, dX3_differentGaps_14, dX3_differentGaps_17, dX3_differentGaps_20, dX3_differentGaps_23, dX3_differentGaps_26, dX3_differentGaps_29, dX3_differentGaps_30, xpX3_38, xki_0, xki_1, hcc, h1, xt_9_20, xtc_9_20, xt_17_6, xtc_17_6, xt_26_m22, xtc_26_m22]
      have : p = n := by omega
      subst this
      exact hp c hc
    | succ k ih =>
      intro p hpk c hc
      have hcc : (nI n ≤ nI p) = False := eq_false (fun q => by have := (nI_leI (by omega) (by omega)).mp q; omega)
      have np : nI p + 1 = nI (p + 1) := nI_1 p
      have nc : nI c + 1 = nI (c + 1) := nI_1 c
      refine xgo O Rt xplX3_q xclX3_q [4] 30 ?_
      simp (maxSteps := 10000000) (disch := omega) only [↓reduceIte, ↓xrun_s, ↓xck_e, xdo_e, xlg_0, xlg_c, xst1_0, xst1_1, xst1_c, xst2_0, xst2_1, xst2_c, xk2_n, xk2_i, xk2_a, xk2_l, xct_i, xct_a, xct_l, xf4_0, xf4_1, xf4_2, xf4_3, List.contains_cons, List.contains_nil, Bool.or_false, Bool.false_or, Bool.or_self, Bool.true_or, Bool.or_true, cond_true, cond_false, List.set_cons_zero, List.set_cons_succ, List.length_cons, List.length_nil, true_and, and_true, xu_s, xu_u, xeqs, Nat.le_refl, not_true_eq_false, xq_10, xq_01, Int32.reduceAdd, Int32.reduceMul, Int32.reduceSub, Int32.reduceLE, Int32.reduceLT, Int32.reduceToNatClampNeg, Nat.reduceAdd, Nat.reduceMul, Nat.reduceBEq, Nat.reduceLT, Nat.reduceLeDiff, Nat.reduceEqDiff, Nat.zero_add, Bool.false_eq_true, reduceCtorEq, if_false, if_true, not_false_eq_true, true_imp_iff, false_imp_iff, imp_self, ↓xil_e, ↓xll_e, ↓xal_e, ↓xs1i_e, ↓xs2i_e, ↓xs1l_e, ↓xs2l_e, ↓xsil_e, ↓xs1_e, ↓xs2_e, ↓xs1a_e, ↓xsia_e, ↓xsiia_e, ↓xslia_e, ↓xsaia_e, ↓xsva_e, ↓xse1i_e, ↓xse1l_e, ↓xse1a_e, ↓xse0_e, ↓xfv_0, ↓xfv_c, ↓xgf_e, ↓xpf_e, ↓xia_e, ↓xia_n, ↓xba_e, ↓xba_n, ↓xla_e, ↓xla_n, ↓xob_e, ↓xra_e, ↓xno_e, ↓xle_e, ↓xnr_i, ↓xnr_b0, ↓xnr_b1, ↓xnr_n, ↓xdo_e, ↓xkl_0, ↓xe_iconst, ↓xe_iload_n, ↓xe_aload_n, ↓xe_istore_n, ↓xe_iinc, ↓xe_goto, ↓xe_getfield, ↓xe_ireturn, ↓xe_if_ne, ↓xe_icmp_ge, ↓xe_invokevirtual, dX3_differentGaps_0, dX3_differentGaps_1, dX3_differentGaps_2, dX3_differentGaps_3, dX3_differentGaps_4, dX3_differentGaps_5, dX3_differentGaps_6, dX3_differentGaps_9, dX3_differentGaps_12, dX3_differentGaps_13, dX3_differentGaps_14, dX3_differentGaps_17, dX3_differentGaps_20, dX3_differentGaps_23, dX3_differentGaps_26, dX3_differentGaps_29, dX3_differentGaps_30, xpX3_38, xki_0, xki_1, hcc, h1, xt_9_20, xtc_9_20, xt_17_6, xtc_17_6, xt_26_m22, xtc_26_m22]
      refine xg_callVi (Qp := fun r f' => (((∃ j, j < p ∧ sameg n rs s P j p) ∧ r = 1) ∨ (¬ (∃ j, j < p ∧ sameg n rs s P j p) ∧ r = 0)) ∧ f' = f) O dX3_differentGaps_14 xl_X3_88 xk_X3_isGapBefore (c_isGapBefore _ hW hn (i := p) (by omega) hs hbr hbP (fun q => ⟨1, rfl, ⟨Or.inl ⟨q, rfl⟩, rfl⟩, rfl⟩) (fun q => ⟨0, rfl, ⟨Or.inr ⟨q, rfl⟩, rfl⟩, rfl⟩)) h1 rfl rfl rfl (Nat.le_of_ble_eq_true rfl) rfl (Nat.le_of_ble_eq_true rfl) (Nat.le_of_ble_eq_true rfl) (Nat.le_of_ble_eq_true rfl) (fun r f1 hq => ?_)
      obtain ⟨hd, rfl⟩ := hq
      rcases hd with ⟨hd, rfl⟩ | ⟨hd, rfl⟩
      · refine xgo O Rt xplX3_q xclX3_q [4] 30 ?_
        simp (maxSteps := 10000000) (disch := omega) only [↓reduceIte, ↓xrun_s, ↓xck_e, xdo_e, xlg_0, xlg_c, xst1_0, xst1_1, xst1_c, xst2_0, xst2_1, xst2_c, xk2_n, xk2_i, xk2_a, xk2_l, xct_i, xct_a, xct_l, xf4_0, xf4_1, xf4_2, xf4_3, List.contains_cons, List.contains_nil, Bool.or_false, Bool.false_or, Bool.or_self, Bool.true_or, Bool.or_true, cond_true, cond_false, List.set_cons_zero, List.set_cons_succ, List.length_cons, List.length_nil, true_and, and_true, xu_s, xu_u, xeqs, Nat.le_refl, not_true_eq_false, xq_10, xq_01, Int32.reduceAdd, Int32.reduceMul, Int32.reduceSub, Int32.reduceLE, Int32.reduceLT, Int32.reduceToNatClampNeg, Nat.reduceAdd, Nat.reduceMul, Nat.reduceBEq, Nat.reduceLT, Nat.reduceLeDiff, Nat.reduceEqDiff, Nat.zero_add, Bool.false_eq_true, reduceCtorEq, if_false, if_true, not_false_eq_true, true_imp_iff, false_imp_iff, imp_self, ↓xil_e, ↓xll_e, ↓xal_e, ↓xs1i_e, ↓xs2i_e, ↓xs1l_e, ↓xs2l_e, ↓xsil_e, ↓xs1_e, ↓xs2_e, ↓xs1a_e, ↓xsia_e, ↓xsiia_e, ↓xslia_e, ↓xsaia_e, ↓xsva_e, ↓xse1i_e, ↓xse1l_e, ↓xse1a_e, ↓xse0_e, ↓xfv_0, ↓xfv_c, ↓xgf_e, ↓xpf_e, ↓xia_e, ↓xia_n, ↓xba_e, ↓xba_n, ↓xla_e, ↓xla_n, ↓xob_e, ↓xra_e, ↓xno_e, ↓xle_e, ↓xnr_i, ↓xnr_b0, ↓xnr_b1, ↓xnr_n, ↓xdo_e, ↓xkl_0, ↓xe_iconst, ↓xe_iload_n, ↓xe_aload_n, ↓xe_istore_n, ↓xe_iinc, ↓xe_goto, ↓xe_getfield, ↓xe_ireturn, ↓xe_if_ne, ↓xe_icmp_ge, ↓xe_invokevirtual, dX3_differentGaps_0, dX3_differentGaps_1, dX3_differentGaps_2, dX3_differentGaps_3, dX3_differentGaps_4, dX3_differentGaps_5, dX3_differentGaps_6, dX3_differentGaps_9, dX3_differentGaps_12, dX3_differentGaps_13, dX3_differentGaps_14, dX3_differentGaps_17, dX3_differentGaps_20, dX3_differentGaps_23, dX3_differentGaps_26, dX3_differentGaps_29, dX3_differentGaps_30, xpX3_38, xki_0, xki_1, np, nc, xt_9_20, xtc_9_20, xt_17_6, xtc_17_6, xt_26_m22, xtc_26_m22]
        exact ih (p + 1) (by omega) c ⟨c, hc, Or.inl ⟨hd, rfl⟩⟩
      · refine xgo O Rt xplX3_q xclX3_q [4] 30 ?_
        simp (maxSteps := 10000000) (disch := omega) only [↓reduceIte, ↓xrun_s, ↓xck_e, xdo_e, xlg_0, xlg_c, xst1_0, xst1_1, xst1_c, xst2_0, xst2_1, xst2_c, xk2_n, xk2_i, xk2_a, xk2_l, xct_i, xct_a, xct_l, xf4_0, xf4_1, xf4_2, xf4_3, List.contains_cons, List.contains_nil, Bool.or_false, Bool.false_or, Bool.or_self, Bool.true_or, Bool.or_true, cond_true, cond_false, List.set_cons_zero, List.set_cons_succ, List.length_cons, List.length_nil, true_and, and_true, xu_s, xu_u, xeqs, Nat.le_refl, not_true_eq_false, xq_10, xq_01, Int32.reduceAdd, Int32.reduceMul, Int32.reduceSub, Int32.reduceLE, Int32.reduceLT, Int32.reduceToNatClampNeg, Nat.reduceAdd, Nat.reduceMul, Nat.reduceBEq, Nat.reduceLT, Nat.reduceLeDiff, Nat.reduceEqDiff, Nat.zero_add, Bool.false_eq_true, reduceCtorEq, if_false, if_true, not_false_eq_true, true_imp_iff, false_imp_iff, imp_self, ↓xil_e, ↓xll_e, ↓xal_e, ↓xs1i_e, ↓xs2i_e, ↓xs1l_e, ↓xs2l_e, ↓xsil_e, ↓xs1_e, ↓xs2_e, ↓xs1a_e, ↓xsia_e, ↓xsiia_e, ↓xslia_e, ↓xsaia_e, ↓xsva_e, ↓xse1i_e, ↓xse1l_e, ↓xse1a_e, ↓xse0_e, ↓xfv_0, ↓xfv_c, ↓xgf_e, ↓xpf_e, ↓xia_e, ↓xia_n, ↓xba_e, ↓xba_n, ↓xla_e, ↓xla_n, ↓xob_e, ↓xra_e, ↓xno_e, ↓xle_e, ↓xnr_i, ↓xnr_b0, ↓xnr_b1, ↓xnr_n, ↓xdo_e, ↓xkl_0, ↓xe_iconst, ↓xe_iload_n, ↓xe_aload_n, ↓xe_istore_n, ↓xe_iinc, ↓xe_goto, ↓xe_getfield, ↓xe_ireturn, ↓xe_if_ne, ↓xe_icmp_ge, ↓xe_invokevirtual, dX3_differentGaps_0, dX3_differentGaps_1, dX3_differentGaps_2, dX3_differentGaps_3, dX3_differentGaps_4, dX3_differentGaps_5, dX3_differentGaps_6, dX3_differentGaps_9, dX3_differentGaps_12, dX3_differentGaps_13, dX3_differentGaps_14, dX3_differentGaps_17, dX3_differentGaps_20, dX3_differentGaps_23, dX3_differentGaps_26, dX3_differentGaps_29, dX3_differentGaps_30, xpX3_38, xki_0, xki_1, np, nc, xt_9_20, xtc_9_20, xt_17_6, xtc_17_6, xt_26_m22, xtc_26_m22]
        exact ih (p + 1) (by omega) (c + 1) ⟨c, hc, Or.inr ⟨hd, rfl⟩⟩
  have e0 : (0 : Int32) = nI 0 := rfl
  refine xgo O Rt xplX3_q xclX3_q [4] 30 ?_
  simp (maxSteps := 10000000) (disch := omega) only [↓reduceIte, ↓xrun_s, ↓xck_e, xdo_e, xlg_0, xlg_c, xst1_0, xst1_1, xst1_c, xst2_0, xst2_1, xst2_c, xk2_n, xk2_i, xk2_a, xk2_l, xct_i, xct_a, xct_l, xf4_0, xf4_1, xf4_2, xf4_3, List.contains_cons, List.contains_nil, Bool.or_false, Bool.false_or, Bool.or_self, Bool.true_or, Bool.or_true, cond_true, cond_false, List.set_cons_zero, List.set_cons_succ, List.length_cons, List.length_nil, true_and, and_true, xu_s, xu_u, xeqs, Nat.le_refl, not_true_eq_false, xq_10, xq_01, Int32.reduceAdd, Int32.reduceMul, Int32.reduceSub, Int32.reduceLE, Int32.reduceLT, Int32.reduceToNatClampNeg, Nat.reduceAdd, Nat.reduceMul, Nat.reduceBEq, Nat.reduceLT, Nat.reduceLeDiff, Nat.reduceEqDiff, Nat.zero_add, Bool.false_eq_true, reduceCtorEq, if_false, if_true, not_false_eq_true, true_imp_iff, false_imp_iff, imp_self, ↓xil_e, ↓xll_e, ↓xal_e, ↓xs1i_e, ↓xs2i_e, ↓xs1l_e, ↓xs2l_e, ↓xsil_e, ↓xs1_e, ↓xs2_e, ↓xs1a_e, ↓xsia_e, ↓xsiia_e, ↓xslia_e, ↓xsaia_e, ↓xsva_e, ↓xse1i_e, ↓xse1l_e, ↓xse1a_e, ↓xse0_e, ↓xfv_0, ↓xfv_c, ↓xgf_e, ↓xpf_e, ↓xia_e, ↓xia_n, ↓xba_e, ↓xba_n, ↓xla_e, ↓xla_n, ↓xob_e, ↓xra_e, ↓xno_e, ↓xle_e, ↓xnr_i, ↓xnr_b0, ↓xnr_b1, ↓xnr_n, ↓xdo_e, ↓xkl_0, ↓xe_iconst, ↓xe_iload_n, ↓xe_aload_n, ↓xe_istore_n, ↓xe_iinc, ↓xe_goto, ↓xe_getfield, ↓xe_ireturn, ↓xe_if_ne, ↓xe_icmp_ge, ↓xe_invokevirtual, dX3_differentGaps_0, dX3_differentGaps_1, dX3_differentGaps_2, dX3_differentGaps_3, dX3_differentGaps_4, dX3_differentGaps_5, dX3_differentGaps_6, dX3_differentGaps_9, dX3_differentGaps_12, dX3_differentGaps_13, dX3_differentGaps_14, dX3_differentGaps_17, dX3_differentGaps_20, dX3_differentGaps_23, dX3_differentGaps_26, dX3_differentGaps_29, dX3_differentGaps_30, xpX3_38, xki_0, xki_1, xt_9_20, xtc_9_20, xt_17_6, xtc_17_6, xt_26_m22, xtc_26_m22]
  exact loop n 0 (by omega) 0 rfl
