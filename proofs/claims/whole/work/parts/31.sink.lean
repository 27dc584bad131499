/-! ===== Scale.sinkSorted, sinkStep: putting the last one into its place ===== -/
theorem dX3_sinkSorted_0 : decode cX3_sinkSorted 0 = .ok (.iload_n 1, 1) := by decide +kernel
theorem dX3_sinkSorted_1 : decode cX3_sinkSorted 1 = .ok (.istore_n 2, 1) := by decide +kernel
theorem dX3_sinkSorted_2 : decode cX3_sinkSorted 2 = .ok (.iload_n 2, 1) := by decide +kernel
theorem dX3_sinkSorted_3 : decode cX3_sinkSorted 3 = .ok (.ifCond .le 70, 3) := by decide +kernel
theorem dX3_sinkSorted_6 : decode cX3_sinkSorted 6 = .ok (.aload_n 0, 1) := by decide +kernel
theorem dX3_sinkSorted_7 : decode cX3_sinkSorted 7 = .ok (.getfield 17, 3) := by decide +kernel
theorem dX3_sinkSorted_10 : decode cX3_sinkSorted 10 = .ok (.aload_n 0, 1) := by decide +kernel
theorem dX3_sinkSorted_11 : decode cX3_sinkSorted 11 = .ok (.getfield 24, 3) := by decide +kernel
theorem dX3_sinkSorted_14 : decode cX3_sinkSorted 14 = .ok (.iload_n 2, 1) := by decide +kernel
theorem dX3_sinkSorted_15 : decode cX3_sinkSorted 15 = .ok (.iaload, 1) := by decide +kernel
theorem dX3_sinkSorted_16 : decode cX3_sinkSorted 16 = .ok (.aaload, 1) := by decide +kernel
theorem dX3_sinkSorted_17 : decode cX3_sinkSorted 17 = .ok (.aload_n 0, 1) := by decide +kernel
theorem dX3_sinkSorted_18 : decode cX3_sinkSorted 18 = .ok (.getfield 17, 3) := by decide +kernel
theorem dX3_sinkSorted_21 : decode cX3_sinkSorted 21 = .ok (.aload_n 0, 1) := by decide +kernel
theorem dX3_sinkSorted_22 : decode cX3_sinkSorted 22 = .ok (.getfield 24, 3) := by decide +kernel
theorem dX3_sinkSorted_25 : decode cX3_sinkSorted 25 = .ok (.iload_n 2, 1) := by decide +kernel
theorem dX3_sinkSorted_26 : decode cX3_sinkSorted 26 = .ok (.iconst 1, 1) := by decide +kernel
theorem dX3_sinkSorted_27 : decode cX3_sinkSorted 27 = .ok (.isub, 1) := by decide +kernel
theorem dX3_sinkSorted_28 : decode cX3_sinkSorted 28 = .ok (.iaload, 1) := by decide +kernel
theorem dX3_sinkSorted_29 : decode cX3_sinkSorted 29 = .ok (.aaload, 1) := by decide +kernel
theorem dX3_sinkSorted_30 : decode cX3_sinkSorted 30 = .ok (.iconst 1, 1) := by decide +kernel
theorem dX3_sinkSorted_31 : decode cX3_sinkSorted 31 = .ok (.invokevirtual 78, 3) := by decide +kernel
theorem dX3_sinkSorted_34 : decode cX3_sinkSorted 34 = .ok (.ifCond .eq 39, 3) := by decide +kernel
theorem dX3_sinkSorted_37 : decode cX3_sinkSorted 37 = .ok (.aload_n 0, 1) := by decide +kernel
theorem dX3_sinkSorted_38 : decode cX3_sinkSorted 38 = .ok (.getfield 24, 3) := by decide +kernel
theorem dX3_sinkSorted_41 : decode cX3_sinkSorted 41 = .ok (.iload_n 2, 1) := by decide +kernel
theorem dX3_sinkSorted_42 : decode cX3_sinkSorted 42 = .ok (.iconst 1, 1) := by decide +kernel
theorem dX3_sinkSorted_43 : decode cX3_sinkSorted 43 = .ok (.isub, 1) := by decide +kernel
theorem dX3_sinkSorted_44 : decode cX3_sinkSorted 44 = .ok (.iaload, 1) := by decide +kernel
theorem dX3_sinkSorted_45 : decode cX3_sinkSorted 45 = .ok (.istore_n 3, 1) := by decide +kernel
theorem dX3_sinkSorted_46 : decode cX3_sinkSorted 46 = .ok (.aload_n 0, 1) := by decide +kernel
theorem dX3_sinkSorted_47 : decode cX3_sinkSorted 47 = .ok (.getfield 24, 3) := by decide +kernel
theorem dX3_sinkSorted_50 : decode cX3_sinkSorted 50 = .ok (.iload_n 2, 1) := by decide +kernel
theorem dX3_sinkSorted_51 : decode cX3_sinkSorted 51 = .ok (.iconst 1, 1) := by decide +kernel
theorem dX3_sinkSorted_52 : decode cX3_sinkSorted 52 = .ok (.isub, 1) := by decide +kernel
theorem dX3_sinkSorted_53 : decode cX3_sinkSorted 53 = .ok (.aload_n 0, 1) := by decide +kernel
theorem dX3_sinkSorted_54 : decode cX3_sinkSorted 54 = .ok (.getfield 24, 3) := by decide +kernel
theorem dX3_sinkSorted_57 : decode cX3_sinkSorted 57 = .ok (.iload_n 2, 1) := by decide +kernel
theorem dX3_sinkSorted_58 : decode cX3_sinkSorted 58 = .ok (.iaload, 1) := by decide +kernel
theorem dX3_sinkSorted_59 : decode cX3_sinkSorted 59 = .ok (.iastore, 1) := by decide +kernel
theorem dX3_sinkSorted_60 : decode cX3_sinkSorted 60 = .ok (.aload_n 0, 1) := by decide +kernel
theorem dX3_sinkSorted_61 : decode cX3_sinkSorted 61 = .ok (.getfield 24, 3) := by decide +kernel
theorem dX3_sinkSorted_64 : decode cX3_sinkSorted 64 = .ok (.iload_n 2, 1) := by decide +kernel
theorem dX3_sinkSorted_65 : decode cX3_sinkSorted 65 = .ok (.iload_n 3, 1) := by decide +kernel
theorem dX3_sinkSorted_66 : decode cX3_sinkSorted 66 = .ok (.iastore, 1) := by decide +kernel
theorem dX3_sinkSorted_67 : decode cX3_sinkSorted 67 = .ok (.iinc 2 (-1), 3) := by decide +kernel
theorem dX3_sinkSorted_70 : decode cX3_sinkSorted 70 = .ok (.goto (-68), 3) := by decide +kernel
theorem dX3_sinkSorted_73 : decode cX3_sinkSorted 73 = .ok (.return_, 1) := by decide +kernel
theorem dX3_sinkStep_0 : decode cX3_sinkStep 0 = .ok (.iload_n 1, 1) := by decide +kernel
theorem dX3_sinkStep_1 : decode cX3_sinkStep 1 = .ok (.istore_n 2, 1) := by decide +kernel
theorem dX3_sinkStep_2 : decode cX3_sinkStep 2 = .ok (.iload_n 2, 1) := by decide +kernel
theorem dX3_sinkStep_3 : decode cX3_sinkStep 3 = .ok (.ifCond .le 60, 3) := by decide +kernel
theorem dX3_sinkStep_6 : decode cX3_sinkStep 6 = .ok (.aload_n 0, 1) := by decide +kernel
theorem dX3_sinkStep_7 : decode cX3_sinkStep 7 = .ok (.getfield 11, 3) := by decide +kernel
theorem dX3_sinkStep_10 : decode cX3_sinkStep 10 = .ok (.iload_n 2, 1) := by decide +kernel
theorem dX3_sinkStep_11 : decode cX3_sinkStep 11 = .ok (.aaload, 1) := by decide +kernel
theorem dX3_sinkStep_12 : decode cX3_sinkStep 12 = .ok (.aload_n 0, 1) := by decide +kernel
theorem dX3_sinkStep_13 : decode cX3_sinkStep 13 = .ok (.getfield 11, 3) := by decide +kernel
theorem dX3_sinkStep_16 : decode cX3_sinkStep 16 = .ok (.iload_n 2, 1) := by decide +kernel
theorem dX3_sinkStep_17 : decode cX3_sinkStep 17 = .ok (.iconst 1, 1) := by decide +kernel
theorem dX3_sinkStep_18 : decode cX3_sinkStep 18 = .ok (.isub, 1) := by decide +kernel
theorem dX3_sinkStep_19 : decode cX3_sinkStep 19 = .ok (.aaload, 1) := by decide +kernel
theorem dX3_sinkStep_20 : decode cX3_sinkStep 20 = .ok (.iconst 1, 1) := by decide +kernel
theorem dX3_sinkStep_21 : decode cX3_sinkStep 21 = .ok (.invokevirtual 78, 3) := by decide +kernel
theorem dX3_sinkStep_24 : decode cX3_sinkStep 24 = .ok (.ifCond .eq 39, 3) := by decide +kernel
theorem dX3_sinkStep_27 : decode cX3_sinkStep 27 = .ok (.aload_n 0, 1) := by decide +kernel
theorem dX3_sinkStep_28 : decode cX3_sinkStep 28 = .ok (.getfield 11, 3) := by decide +kernel
theorem dX3_sinkStep_31 : decode cX3_sinkStep 31 = .ok (.iload_n 2, 1) := by decide +kernel
theorem dX3_sinkStep_32 : decode cX3_sinkStep 32 = .ok (.iconst 1, 1) := by decide +kernel
theorem dX3_sinkStep_33 : decode cX3_sinkStep 33 = .ok (.isub, 1) := by decide +kernel
theorem dX3_sinkStep_34 : decode cX3_sinkStep 34 = .ok (.aaload, 1) := by decide +kernel
theorem dX3_sinkStep_35 : decode cX3_sinkStep 35 = .ok (.astore_n 3, 1) := by decide +kernel
theorem dX3_sinkStep_36 : decode cX3_sinkStep 36 = .ok (.aload_n 0, 1) := by decide +kernel
theorem dX3_sinkStep_37 : decode cX3_sinkStep 37 = .ok (.getfield 11, 3) := by decide +kernel
theorem dX3_sinkStep_40 : decode cX3_sinkStep 40 = .ok (.iload_n 2, 1) := by decide +kernel
theorem dX3_sinkStep_41 : decode cX3_sinkStep 41 = .ok (.iconst 1, 1) := by decide +kernel
theorem dX3_sinkStep_42 : decode cX3_sinkStep 42 = .ok (.isub, 1) := by decide +kernel
theorem dX3_sinkStep_43 : decode cX3_sinkStep 43 = .ok (.aload_n 0, 1) := by decide +kernel
theorem dX3_sinkStep_44 : decode cX3_sinkStep 44 = .ok (.getfield 11, 3) := by decide +kernel
theorem dX3_sinkStep_47 : decode cX3_sinkStep 47 = .ok (.iload_n 2, 1) := by decide +kernel
theorem dX3_sinkStep_48 : decode cX3_sinkStep 48 = .ok (.aaload, 1) := by decide +kernel
theorem dX3_sinkStep_49 : decode cX3_sinkStep 49 = .ok (.aastore, 1) := by decide +kernel
theorem dX3_sinkStep_50 : decode cX3_sinkStep 50 = .ok (.aload_n 0, 1) := by decide +kernel
theorem dX3_sinkStep_51 : decode cX3_sinkStep 51 = .ok (.getfield 11, 3) := by decide +kernel
theorem dX3_sinkStep_54 : decode cX3_sinkStep 54 = .ok (.iload_n 2, 1) := by decide +kernel
theorem dX3_sinkStep_55 : decode cX3_sinkStep 55 = .ok (.aload_n 3, 1) := by decide +kernel
theorem dX3_sinkStep_56 : decode cX3_sinkStep 56 = .ok (.aastore, 1) := by decide +kernel
theorem dX3_sinkStep_57 : decode cX3_sinkStep 57 = .ok (.iinc 2 (-1), 3) := by decide +kernel
theorem dX3_sinkStep_60 : decode cX3_sinkStep 60 = .ok (.goto (-58), 3) := by decide +kernel
theorem dX3_sinkStep_63 : decode cX3_sinkStep 63 = .ok (.return_, 1) := by decide +kernel
/-- s with what stands at l put at i, those between moved up -/
def ins {α : Type} (s : Nat → α) (l i : Nat) : Nat → α := fun j => if j < i then s j else if j = i then s l else if j ≤ l then s (j - 1) else s j
theorem ins_self {α : Type} (s : Nat → α) (l j : Nat) : ins s l l j = s j := by
  unfold ins
  by_cases h1 : j < l
  · rw [if_pos h1]
  · rw [if_neg h1]
    by_cases h2 : j = l
    · rw [if_pos h2, h2]
    · rw [if_neg h2, if_neg (by omega)]
theorem ins_at {α : Type} (s : Nat → α) (l i : Nat) : ins s l i i = s l := by simp [ins]
theorem ins_lt {α : Type} (s : Nat → α) {l i j : Nat} (h : j < i) : ins s l i j = s j := by simp [ins, h]
theorem ins_gt {α : Type} (s : Nat → α) {l i j : Nat} (h : i < j) (h2 : j ≤ l) : ins s l i j = s (j - 1) := by
  unfold ins
  rw [if_neg (by omega), if_neg (by omega), if_pos h2]
theorem ins_big {α : Type} (s : Nat → α) {l i j : Nat} (h : l < j) (h2 : i ≤ l) : ins s l i j = s j := by
  unfold ins
  rw [if_neg (by omega), if_neg (by omega), if_neg (by omega)]
set_option maxRecDepth 100000 in
set_option maxHeartbeats 4000000 in
theorem c_sinkSorted (V : xV) {w z n l : Nat} {f : xH} {ps s : Nat → Nat} {xs rs : Nat → xZ} {tk so : Nat → Int32} {P : xZ} {post : Option Value → xH → Nat → Prop} (hW : ScW f w n ps xs rs tk so P) (hl : l < 24) (hs : ∀ j, j ≤ l → s j < 24 ∧ so j = nI (s j)) (hS : ∀ j, j ≤ l → -29243015907268149203883755326167580672 ≤ sz (rs (s j)) ∧ sz (rs (s j)) ≤ 29243015907268149203883755326167580672)
    (hp : ∀ i so', i ≤ l → (i = 0 ∨ sz (rs (s (i - 1))) ≤ sz (rs (s l))) → (∀ j, i ≤ j → j < l → sz (rs (s l)) < sz (rs (s j))) → (∀ j, j ≤ l → so' j = nI (ins s l i j)) → (∀ j, l < j → so' j = so j) → post none (xu f (w + 8) (xI 24 so')) z) :
    xMet V yX3_sinkSorted cX3_sinkSorted 4 none 2 0 0 [.ref (w + 4), .int (nI l)] f z post := by
  refine xMet_of false (by decide) (Nat.le_of_ble_eq_true rfl) (fun h => by cases h) (fun X hX O Rt => ?_)
  have O : xO X cX3_sinkSorted 4 RX3 2 0 0 false := O
  show xG X 0 [some (.ref (w + 4)), some (.int (nI l)), none, none] [] f (z, 0, 0)
  obtain ⟨h1, -, ⟨rd, h3, h3'⟩, h4, h5, h6, h7, h8, h9, h10, -⟩ := hW
  have loop : ∀ i, i ≤ l → ∀ (u : Option Value) (so' : Nat → Int32), (∀ j, i ≤ j → j < l → sz (rs (s l)) < sz (rs (s j))) → (∀ j, j ≤ l → so' j = nI (ins s l i j)) → (∀ j, l < j → so' j = so j) →
      xG X 2 [some (.ref (w + 4)), some (.int (nI l)), some (.int (nI i)), u] [] (xu f (w + 8) (xI 24 so')) (z, 0, 0) := by
    intro i
    induction i with
    | zero =>
      intro hil u so' hb hs1 hs2
      have hcc : (nI 0 ≤ 0) = True := eq_true (by decide)
      refine xgo O Rt xplX3_q xclX3_q [2] 30 ?_
      simp (maxSteps := 10000000) (disch := omega) only [↓reduceIte, ↓xrun_s, ↓xck_e, xdo_e, xlg_0, xlg_c, xst1_0, xst1_1, xst1_c, xst2_0, xst2_1, xst2_c, xk2_n, xk2_i, xk2_a, xk2_l, xct_i, xct_a, xct_l, xf4_0, xf4_1, xf4_2, xf4_3, List.contains_cons, List.contains_nil, Bool.or_false, Bool.false_or, Bool.or_self, Bool.true_or, Bool.or_true, cond_true, cond_false, List.set_cons_zero, List.set_cons_succ, List.length_cons, List.length_nil, true_and, and_true, xu_s, xu_u, xeqs, Nat.le_refl, not_true_eq_false, xq_10, xq_01, Int32.reduceAdd, Int32.reduceMul, Int32.reduceSub, Int32.reduceLE, Int32.reduceLT, Int32.reduceToNatClampNeg, Nat.reduceAdd, Nat.reduceMul, Nat.reduceBEq, Nat.reduceLT, Nat.reduceLeDiff, Nat.reduceEqDiff, Nat.zero_add, Bool.false_eq_true, reduceCtorEq, if_false, if_true, not_false_eq_true, true_imp_iff, false_imp_iff, imp_self, ↓xil_e, ↓xll_e, ↓xal_e, ↓xs1i_e, ↓xs2i_e, ↓xs1l_e, ↓xs2l_e, ↓xsil_e, ↓xs1_e, ↓xs2_e, ↓xs1a_e, ↓xsia_e, ↓xsiia_e, ↓xslia_e, ↓xsaia_e, ↓xsva_e, ↓xse1i_e, ↓xse1l_e, ↓xse1a_e, ↓xse0_e, ↓xfv_0, ↓xfv_c, ↓xgf_e, ↓xpf_e, ↓xia_e, ↓xia_n, ↓xba_e, ↓xba_n, ↓xla_e, ↓xla_n, ↓xob_e, ↓xra_e, ↓xno_e, ↓xle_e, ↓xnr_i, ↓xnr_b0, ↓xnr_b1, ↓xnr_n, ↓xdo_e, ↓xkl_0, ↓xe_iconst, ↓xe_isub, ↓xe_iload_n, ↓xe_aload_n, ↓xe_istore_n, ↓xe_iinc, ↓xe_goto, ↓xe_getfield, ↓xe_iaload, ↓xe_aaload, ↓xe_iastore, ↓xe_return_, ↓xe_if_eq, ↓xe_if_le, ↓xe_invokevirtual, dX3_sinkSorted_0, dX3_sinkSorted_1, dX3_sinkSorted_2, dX3_sinkSorted_3, dX3_sinkSorted_6, dX3_sinkSorted_7, dX3_sinkSorted_10, dX3_sinkSorted_11, dX3_sinkSorted_14, dX3_sinkSorted_15, dX3_sinkSorted_16, dX3_sinkSorted_17, dX3_sinkSorted_18, dX3_sinkSorted_21, dX3_sinkSorted_22, dX3_sinkSorted_25, dX3_sinkSorted_26, dX3_sinkSorted_27, dX3_sinkSorted_28, dX3_sinkSorted_29, dX3_sinkSorted_30, dX3_sinkSorted_31, dX3_sinkSorted_34, dX3_sinkSorted_37, dX3_sinkSorted_38, dX3_sinkSorted_41, dX3_sinkSorted_42, dX3_sinkSorted_43, dX3_sinkSorted_44, dX3_sinkSorted_45, dX3_sinkSorted_46, dX3_sinkSorted_47, dX3_sinkSorted_50, dX3_sinkSorted_51, dX3_sinkSorted_52, dX3_sinkSorted_53, dX3_sinkSorted_54, dX3_sinkSorted_57, dX3_sinkSorted_58, dX3_sinkSorted_59, dX3_sinkSorted_60, dX3_sinkSorted_61, dX3_sinkSorted_64, dX3_sinkSorted_65, dX3_sinkSorted_66, dX3_sinkSorted_67, dX3_sinkSorted_70, dX3_sinkSorted_73, xpX3_17, xpX3_24, xki_1, xki_m1, hcc, xt_3_70, xtc_3_70, xt_34_39, xtc_34_39, xt_70_m68, xtc_70_m68]
      exact hp 0 so' (by omega) (Or.inl rfl) hb hs1 hs2
    | succ i ih =>
      intro hil u so' hb hs1 hs2
      have hcc : (nI (i + 1) ≤ 0) = False := eq_false (nI_nle (by omega) (by omega))
      have ni : nI (i + 1) - 1 = nI i := nI_pred i
      have nm : nI (i + 1) + (-1) = nI i := pk_m1 i
      have u1 : ∀ e2, xu f (w + 8) e2 (w + 4) = some (xSc w n) := fun e2 => by rw [xu_n (by omega)]; exact h1
      have u2 : ∀ e2, xu f (w + 8) e2 (w + 6) = some (xR 24 rd) := fun e2 => by rw [xu_n (by omega)]; exact h3
      have v0 : vp_in (nI (i + 1)) 24 := vp_in_nI (by omega) (by omega)
      have v1 : (nI (i + 1)).toNatClampNeg = i + 1 := nI_clamp (by omega)
      have v2 : vp_in (nI i) 24 := vp_in_nI (by omega) (by omega)
      have v3 : (nI i).toNatClampNeg = i := nI_clamp (by omega)
      have a1 : so' (i + 1) = nI (s l) := by rw [hs1 _ hil, ins_at]
      have a2 : so' i = nI (s i) := by rw [hs1 i (by omega), ins_lt s (by omega)]
      obtain ⟨b1, -⟩ := hs l (by omega)
      obtain ⟨b2, -⟩ := hs i (by omega)
      have c1 : vp_in (nI (s l)) 24 := vp_in_nI b1 (by omega)
      have c2 : rd (nI (s l)).toNatClampNeg = some (w + 17 + 4 * s l) := by rw [nI_clamp (by omega)]; exact h3' _ b1
      have c3 : vp_in (nI (s i)) 24 := vp_in_nI b2 (by omega)
      have c4 : rd (nI (s i)).toNatClampNeg = some (w + 17 + 4 * s i) := by rw [nI_clamp (by omega)]; exact h3' _ b2
      have d1 : Nt (xu f (w + 8) (xI 24 so')) (w + 17 + 4 * s l) (w + 18 + 4 * s l) (rs (s l)) := (h9 _ b1).kept (xu_n (by omega)) (xu_n (by omega))
      have d2 : Nt (xu f (w + 8) (xI 24 so')) (w + 17 + 4 * s i) (w + 18 + 4 * s i) (rs (s i)) := (h9 _ b2).kept (xu_n (by omega)) (xu_n (by omega))
      obtain ⟨-, _, _, _, _, d3, -⟩ := id d1
      have one : (1 : Int32).toInt = 1 := rfl
      have q1 := hS l (by omega)
      have q2 := hS i (by omega)
      refine xgo O Rt xplX3_q xclX3_q [2] 40 ?_
      simp (maxSteps := 10000000) (disch := omega) only [↓reduceIte, ↓xrun_s, ↓xck_e, xdo_e, xlg_0, xlg_c, xst1_0, xst1_1, xst1_c, xst2_0, xst2_1, xst2_c, xk2_n, xk2_i, xk2_a, xk2_l, xct_i, xct_a, xct_l, xf4_0, xf4_1, xf4_2, xf4_3, List.contains_cons, List.contains_nil, Bool.or_false, Bool.false_or, Bool.or_self, Bool.true_or, Bool.or_true, cond_true, cond_false, List.set_cons_zero, List.set_cons_succ, List.length_cons, List.length_nil, true_and, and_true, xu_s, xu_u, xeqs, Nat.le_refl, not_true_eq_false, xq_10, xq_01, Int32.reduceAdd, Int32.reduceMul, Int32.reduceSub, Int32.reduceLE, Int32.reduceLT, Int32.reduceToNatClampNeg, Nat.reduceAdd, Nat.reduceMul, Nat.reduceBEq, Nat.reduceLT, Nat.reduceLeDiff, Nat.reduceEqDiff, Nat.zero_add, Bool.false_eq_true, reduceCtorEq, if_false, if_true, not_false_eq_true, true_imp_iff, false_imp_iff, imp_self, ↓xil_e, ↓xll_e, ↓xal_e, ↓xs1i_e, ↓xs2i_e, ↓xs1l_e, ↓xs2l_e, ↓xsil_e, ↓xs1_e, ↓xs2_e, ↓xs1a_e, ↓xsia_e, ↓xsiia_e, ↓xslia_e, ↓xsaia_e, ↓xsva_e, ↓xse1i_e, ↓xse1l_e, ↓xse1a_e, ↓xse0_e, ↓xfv_0, ↓xfv_c, ↓xgf_e, ↓xpf_e, ↓xia_e, ↓xia_n, ↓xba_e, ↓xba_n, ↓xla_e, ↓xla_n, ↓xob_e, ↓xra_e, ↓xno_e, ↓xle_e, ↓xnr_i, ↓xnr_b0, ↓xnr_b1, ↓xnr_n, ↓xdo_e, ↓xkl_0, ↓xe_iconst, ↓xe_isub, ↓xe_iload_n, ↓xe_aload_n, ↓xe_istore_n, ↓xe_iinc, ↓xe_goto, ↓xe_getfield, ↓xe_iaload, ↓xe_aaload, ↓xe_iastore, ↓xe_return_, ↓xe_if_eq, ↓xe_if_le, ↓xe_invokevirtual, dX3_sinkSorted_0, dX3_sinkSorted_1, dX3_sinkSorted_2, dX3_sinkSorted_3, dX3_sinkSorted_6, dX3_sinkSorted_7, dX3_sinkSorted_10, dX3_sinkSorted_11, dX3_sinkSorted_14, dX3_sinkSorted_15, dX3_sinkSorted_16, dX3_sinkSorted_17, dX3_sinkSorted_18, dX3_sinkSorted_21, dX3_sinkSorted_22, dX3_sinkSorted_25, dX3_sinkSorted_26, dX3_sinkSorted_27, dX3_sinkSorted_28, dX3_sinkSorted_29, dX3_sinkSorted_30, dX3_sinkSorted_31, dX3_sinkSorted_34, dX3_sinkSorted_37, dX3_sinkSorted_38, dX3_sinkSorted_41, dX3_sinkSorted_42, dX3_sinkSorted_43, dX3_sinkSorted_44, dX3_sinkSorted_45, dX3_sinkSorted_46, dX3_sinkSorted_47, dX3_sinkSorted_50, dX3_sinkSorted_51, dX3_sinkSorted_52, dX3_sinkSorted_53, dX3_sinkSorted_54, dX3_sinkSorted_57, dX3_sinkSorted_58, dX3_sinkSorted_59, dX3_sinkSorted_60, dX3_sinkSorted_61, dX3_sinkSorted_64, dX3_sinkSorted_65, dX3_sinkSorted_66, dX3_sinkSorted_67, dX3_sinkSorted_70, dX3_sinkSorted_73, xpX3_17, xpX3_24, xki_1, xki_m1, hcc, ni, u1, u2, v0, v1, v2, v3, a1, a2, c1, c2, c3, c4, xt_3_70, xtc_3_70, xt_34_39, xtc_34_39, xt_70_m68, xtc_70_m68]
      refine xg_callVi (Qp := fun r f' => r = (if sz (rs (s l)) < (1 : Int32).toInt * sz (rs (s i)) then 1 else 0) ∧ f' = xu f (w + 8) (xI 24 so')) O dX3_sinkSorted_31 xl_X3_78 xk_X1_isBelow (c_isBelow _ d1 d2 (by rw [one]; omega) (by omega) (by rw [one]; omega) ⟨_, rfl, ⟨rfl, rfl⟩, rfl⟩) d3 rfl rfl rfl (Nat.le_of_ble_eq_true rfl) rfl (Nat.le_of_ble_eq_true rfl) (Nat.le_of_ble_eq_true rfl) (Nat.le_of_ble_eq_true rfl) (fun r f1 hq => ?_)
      obtain ⟨rfl, rfl⟩ := hq
      by_cases hc : sz (rs (s l)) < (1 : Int32).toInt * sz (rs (s i))
      · rw [if_pos hc]
        rw [one, Int.one_mul] at hc
        refine xgo O Rt xplX3_q xclX3_q [2] 60 ?_
        simp (maxSteps := 10000000) (disch := omega) only [↓reduceIte, ↓xrun_s, ↓xck_e, xdo_e, xlg_0, xlg_c, xst1_0, xst1_1, xst1_c, xst2_0, xst2_1, xst2_c, xk2_n, xk2_i, xk2_a, xk2_l, xct_i, xct_a, xct_l, xf4_0, xf4_1, xf4_2, xf4_3, List.contains_cons, List.contains_nil, Bool.or_false, Bool.false_or, Bool.or_self, Bool.true_or, Bool.or_true, cond_true, cond_false, List.set_cons_zero, List.set_cons_succ, List.length_cons, List.length_nil, true_and, and_true, xu_s, xu_u, xeqs, Nat.le_refl, not_true_eq_false, xq_10, xq_01, Int32.reduceAdd, Int32.reduceMul, Int32.reduceSub, Int32.reduceLE, Int32.reduceLT, Int32.reduceToNatClampNeg, Nat.reduceAdd, Nat.reduceMul, Nat.reduceBEq, Nat.reduceLT, Nat.reduceLeDiff, Nat.reduceEqDiff, Nat.zero_add, Bool.false_eq_true, reduceCtorEq, if_false, if_true, not_false_eq_true, true_imp_iff, false_imp_iff, imp_self, ↓xil_e, ↓xll_e, ↓xal_e, ↓xs1i_e, ↓xs2i_e, ↓xs1l_e, ↓xs2l_e, ↓xsil_e, ↓xs1_e, ↓xs2_e, ↓xs1a_e, ↓xsia_e, ↓xsiia_e, ↓xslia_e, ↓xsaia_e, ↓xsva_e, ↓xse1i_e, ↓xse1l_e, ↓xse1a_e, ↓xse0_e, ↓xfv_0, ↓xfv_c, ↓xgf_e, ↓xpf_e, ↓xia_e, ↓xia_n, ↓xba_e, ↓xba_n, ↓xla_e, ↓xla_n, ↓xob_e, ↓xra_e, ↓xno_e, ↓xle_e, ↓xnr_i, ↓xnr_b0, ↓xnr_b1, ↓xnr_n, ↓xdo_e, ↓xkl_0, ↓xe_iconst, ↓xe_isub, ↓xe_iload_n, ↓xe_aload_n, ↓xe_istore_n, ↓xe_iinc, ↓xe_goto, ↓xe_getfield, ↓xe_iaload, ↓xe_aaload, ↓xe_iastore, ↓xe_return_, ↓xe_if_eq, ↓xe_if_le, ↓xe_invokevirtual, dX3_sinkSorted_0, dX3_sinkSorted_1, dX3_sinkSorted_2, dX3_sinkSorted_3, dX3_sinkSorted_6, dX3_sinkSorted_7, dX3_sinkSorted_10, dX3_sinkSorted_11, dX3_sinkSorted_14, dX3_sinkSorted_15, dX3_sinkSorted_16, dX3_sinkSorted_17, dX3_sinkSorted_18, dX3_sinkSorted_21, dX3_sinkSorted_22, dX3_sinkSorted_25, dX3_sinkSorted_26, dX3_sinkSorted_27, dX3_sinkSorted_28, dX3_sinkSorted_29, dX3_sinkSorted_30, dX3_sinkSorted_31, dX3_sinkSorted_34, dX3_sinkSorted_37, dX3_sinkSorted_38, dX3_sinkSorted_41, dX3_sinkSorted_42, dX3_sinkSorted_43, dX3_sinkSorted_44, dX3_sinkSorted_45, dX3_sinkSorted_46, dX3_sinkSorted_47, dX3_sinkSorted_50, dX3_sinkSorted_51, dX3_sinkSorted_52, dX3_sinkSorted_53, dX3_sinkSorted_54, dX3_sinkSorted_57, dX3_sinkSorted_58, dX3_sinkSorted_59, dX3_sinkSorted_60, dX3_sinkSorted_61, dX3_sinkSorted_64, dX3_sinkSorted_65, dX3_sinkSorted_66, dX3_sinkSorted_67, dX3_sinkSorted_70, dX3_sinkSorted_73, xpX3_17, xpX3_24, xki_1, xki_m1, hcc, ni, nm, u1, u2, v0, v1, v2, v3, a1, a2, xt_3_70, xtc_3_70, xt_34_39, xtc_34_39, xt_70_m68, xtc_70_m68]
        refine ih (by omega) _ _ (fun j e1 e2 => ?_) (fun j hj => ?_) (fun j hj => ?_)
        · by_cases hji : j = i
          · subst hji; exact hc
          · exact hb j (by omega) e2
        · by_cases hj1 : j = i + 1
          · subst hj1
            simp only [upd, if_true]
            rw [ins_gt s (by omega) hj]; rfl
          · by_cases hj2 : j = i
            · subst hj2
              rw [ins_at]
              simp [upd]
            · simp only [upd, if_neg hj1, if_neg hj2]
              rw [hs1 j hj]
              by_cases hj3 : j < i
              · rw [ins_lt s (by omega), ins_lt s hj3]
              · rw [ins_gt s (by omega) hj, ins_gt s (by omega) hj]
        · simp only [upd]
          rw [if_neg (by omega), if_neg (by omega)]
          exact hs2 j hj
      · rw [if_neg hc]
        rw [one, Int.one_mul] at hc
        refine xgo O Rt xplX3_q xclX3_q [2] 60 ?_
        simp (maxSteps := 10000000) (disch := omega) only [↓reduceIte, ↓xrun_s, ↓xck_e, xdo_e, xlg_0, xlg_c, xst1_0, xst1_1, xst1_c, xst2_0, xst2_1, xst2_c, xk2_n, xk2_i, xk2_a, xk2_l, xct_i, xct_a, xct_l, xf4_0, xf4_1, xf4_2, xf4_3, List.contains_cons, List.contains_nil, Bool.or_false, Bool.false_or, Bool.or_self, Bool.true_or, Bool.or_true, cond_true, cond_false, List.set_cons_zero, List.set_cons_succ, List.length_cons, List.length_nil, true_and, and_true, xu_s, xu_u, xeqs, Nat.le_refl, not_true_eq_false, xq_10, xq_01, Int32.reduceAdd, Int32.reduceMul, Int32.reduceSub, Int32.reduceLE, Int32.reduceLT, Int32.reduceToNatClampNeg, Nat.reduceAdd, Nat.reduceMul, Nat.reduceBEq, Nat.reduceLT, Nat.reduceLeDiff, Nat.reduceEqDiff, Nat.zero_add, Bool.false_eq_true, reduceCtorEq, if_false, if_true, not_false_eq_true, true_imp_iff, false_imp_iff, imp_self, ↓xil_e, ↓xll_e, ↓xal_e, ↓xs1i_e, ↓xs2i_e, ↓xs1l_e, ↓xs2l_e, ↓xsil_e, ↓xs1_e, ↓xs2_e, ↓xs1a_e, ↓xsia_e, ↓xsiia_e, ↓xslia_e, ↓xsaia_e, ↓xsva_e, ↓xse1i_e, ↓xse1l_e, ↓xse1a_e, ↓xse0_e, ↓xfv_0, ↓xfv_c, ↓xgf_e, ↓xpf_e, ↓xia_e, ↓xia_n, ↓xba_e, ↓xba_n, ↓xla_e, ↓xla_n, ↓xob_e, ↓xra_e, ↓xno_e, ↓xle_e, ↓xnr_i, ↓xnr_b0, ↓xnr_b1, ↓xnr_n, ↓xdo_e, ↓xkl_0, ↓xe_iconst, ↓xe_isub, ↓xe_iload_n, ↓xe_aload_n, ↓xe_istore_n, ↓xe_iinc, ↓xe_goto, ↓xe_getfield, ↓xe_iaload, ↓xe_aaload, ↓xe_iastore, ↓xe_return_, ↓xe_if_eq, ↓xe_if_le, ↓xe_invokevirtual, dX3_sinkSorted_0, dX3_sinkSorted_1, dX3_sinkSorted_2, dX3_sinkSorted_3, dX3_sinkSorted_6, dX3_sinkSorted_7, dX3_sinkSorted_10, dX3_sinkSorted_11, dX3_sinkSorted_14, dX3_sinkSorted_15, dX3_sinkSorted_16, dX3_sinkSorted_17, dX3_sinkSorted_18, dX3_sinkSorted_21, dX3_sinkSorted_22, dX3_sinkSorted_25, dX3_sinkSorted_26, dX3_sinkSorted_27, dX3_sinkSorted_28, dX3_sinkSorted_29, dX3_sinkSorted_30, dX3_sinkSorted_31, dX3_sinkSorted_34, dX3_sinkSorted_37, dX3_sinkSorted_38, dX3_sinkSorted_41, dX3_sinkSorted_42, dX3_sinkSorted_43, dX3_sinkSorted_44, dX3_sinkSorted_45, dX3_sinkSorted_46, dX3_sinkSorted_47, dX3_sinkSorted_50, dX3_sinkSorted_51, dX3_sinkSorted_52, dX3_sinkSorted_53, dX3_sinkSorted_54, dX3_sinkSorted_57, dX3_sinkSorted_58, dX3_sinkSorted_59, dX3_sinkSorted_60, dX3_sinkSorted_61, dX3_sinkSorted_64, dX3_sinkSorted_65, dX3_sinkSorted_66, dX3_sinkSorted_67, dX3_sinkSorted_70, dX3_sinkSorted_73, xpX3_17, xpX3_24, xki_1, xki_m1, xt_3_70, xtc_3_70, xt_34_39, xtc_34_39, xt_70_m68, xtc_70_m68]
        exact hp (i + 1) so' hil (Or.inr (by simp only [Nat.add_sub_cancel]; omega)) hb hs1 hs2
  have := loop l (Nat.le_refl l) none so (fun j e1 e2 => absurd e1 (by omega)) (fun j hj => by rw [ins_self]; exact (hs j hj).2) (fun _ _ => rfl)
  rw [xu_id h5] at this
  refine xgo O Rt xplX3_q xclX3_q [2] 40 ?_
  simp (maxSteps := 10000000) (disch := omega) only [↓reduceIte, ↓xrun_s, ↓xck_e, xdo_e, xlg_0, xlg_c, xst1_0, xst1_1, xst1_c, xst2_0, xst2_1, xst2_c, xk2_n, xk2_i, xk2_a, xk2_l, xct_i, xct_a, xct_l, xf4_0, xf4_1, xf4_2, xf4_3, List.contains_cons, List.contains_nil, Bool.or_false, Bool.false_or, Bool.or_self, Bool.true_or, Bool.or_true, cond_true, cond_false, List.set_cons_zero, List.set_cons_succ, List.length_cons, List.length_nil, true_and, and_true, xu_s, xu_u, xeqs, Nat.le_refl, not_true_eq_false, xq_10, xq_01, Int32.reduceAdd, Int32.reduceMul, Int32.reduceSub, Int32.reduceLE, Int32.reduceLT, Int32.reduceToNatClampNeg, Nat.reduceAdd, Nat.reduceMul, Nat.reduceBEq, Nat.reduceLT, Nat.reduceLeDiff, Nat.reduceEqDiff, Nat.zero_add, Bool.false_eq_true, reduceCtorEq, if_false, if_true, not_false_eq_true, true_imp_iff, false_imp_iff, imp_self, ↓xil_e, ↓xll_e, ↓xal_e, ↓xs1i_e, ↓xs2i_e, ↓xs1l_e, ↓xs2l_e, ↓xsil_e, ↓xs1_e, ↓xs2_e, ↓xs1a_e, ↓xsia_e, ↓xsiia_e, ↓xslia_e, ↓xsaia_e, ↓xsva_e, ↓xse1i_e, ↓xse1l_e, ↓xse1a_e, ↓xse0_e, ↓xfv_0, ↓xfv_c, ↓xgf_e, ↓xpf_e, ↓xia_e, ↓xia_n, ↓xba_e, ↓xba_n, ↓xla_e, ↓xla_n, ↓xob_e, ↓xra_e, ↓xno_e, ↓xle_e, ↓xnr_i, ↓xnr_b0, ↓xnr_b1, ↓xnr_n, ↓xdo_e, ↓xkl_0, ↓xe_iconst, ↓xe_isub, ↓xe_iload_n, ↓xe_aload_n, ↓xe_istore_n, ↓xe_iinc, ↓xe_goto, ↓xe_getfield, ↓xe_iaload, ↓xe_aaload, ↓xe_iastore, ↓xe_return_, ↓xe_if_eq, ↓xe_if_le, ↓xe_invokevirtual, dX3_sinkSorted_0, dX3_sinkSorted_1, dX3_sinkSorted_2, dX3_sinkSorted_3, dX3_sinkSorted_6, dX3_sinkSorted_7, dX3_sinkSorted_10, dX3_sinkSorted_11, dX3_sinkSorted_14, dX3_sinkSorted_15, dX3_sinkSorted_16, dX3_sinkSorted_17, dX3_sinkSorted_18, dX3_sinkSorted_21, dX3_sinkSorted_22, dX3_sinkSorted_25, dX3_sinkSorted_26, dX3_sinkSorted_27, dX3_sinkSorted_28, dX3_sinkSorted_29, dX3_sinkSorted_30, dX3_sinkSorted_31, dX3_sinkSorted_34, dX3_sinkSorted_37, dX3_sinkSorted_38, dX3_sinkSorted_41, dX3_sinkSorted_42, dX3_sinkSorted_43, dX3_sinkSorted_44, dX3_sinkSorted_45, dX3_sinkSorted_46, dX3_sinkSorted_47, dX3_sinkSorted_50, dX3_sinkSorted_51, dX3_sinkSorted_52, dX3_sinkSorted_53, dX3_sinkSorted_54, dX3_sinkSorted_57, dX3_sinkSorted_58, dX3_sinkSorted_59, dX3_sinkSorted_60, dX3_sinkSorted_61, dX3_sinkSorted_64, dX3_sinkSorted_65, dX3_sinkSorted_66, dX3_sinkSorted_67, dX3_sinkSorted_70, dX3_sinkSorted_73, xpX3_17, xpX3_24, xki_1, xki_m1, xt_3_70, xtc_3_70, xt_34_39, xtc_34_39, xt_70_m68, xtc_70_m68]
  exact this
theorem ScW.steps {f : xH} {w n : Nat} {ps : Nat → Nat} {xs rs : Nat → xZ} {tk so : Nat → Int32} {P : xZ} (h : ScW f w n ps xs rs tk so P) {st : Nat → Option Nat} {l i : Nat} (hl : l < 24) (hil : i ≤ l) (hst : ∀ j, j < 24 → st j = some (ins ps l i j)) : ScW (xu f (w + 5) (xR 24 st)) w n (ins ps l i) (ins xs l i) rs tk so P := by
  obtain ⟨h1, -, ⟨rd, h3, h3'⟩, h4, h5, h6, h7, h8, h9, h10, ⟨lk, h11⟩, sm, h12⟩ := h
  have which : ∀ j, j < 24 → ∃ j', j' < 24 ∧ ins ps l i j = ps j' ∧ ins xs l i j = xs j' ∧ j' = ins (fun q => q) l i j := by
    intro j hj
    unfold ins
    by_cases e1 : j < i
    · exact ⟨j, hj, by rw [if_pos e1], by rw [if_pos e1], by rw [if_pos e1]⟩
    · by_cases e2 : j = i
      · exact ⟨l, hl, by rw [if_neg e1, if_pos e2], by rw [if_neg e1, if_pos e2], by rw [if_neg e1, if_pos e2]⟩
      · by_cases e3 : j ≤ l
        · exact ⟨j - 1, by omega, by rw [if_neg e1, if_neg e2, if_pos e3], by rw [if_neg e1, if_neg e2, if_pos e3], by rw [if_neg e1, if_neg e2, if_pos e3]⟩
        · exact ⟨j, hj, by rw [if_neg e1, if_neg e2, if_neg e3], by rw [if_neg e1, if_neg e2, if_neg e3], by rw [if_neg e1, if_neg e2, if_neg e3]⟩
  have inj : ∀ j k, j < 24 → k < 24 → ins (fun q => q) l i j = ins (fun q => q) l i k → j = k := by
    intro j k hj hk
    simp only [ins]
    split <;> split <;> (try split) <;> (try split) <;> (try split) <;> (try split) <;> intro e <;> omega
  refine ⟨by rw [xu_n (by omega)]; exact h1, ⟨st, xu_s _ _ _, hst⟩, ⟨rd, by rw [xu_n (by omega)]; exact h3, h3'⟩, by rw [xu_n (by omega)]; exact h4, by rw [xu_n (by omega)]; exact h5, fun j hj => ?_, fun j k hj hk e => ?_, fun j hj => ?_, fun j hj => (h9 j hj).kept (xu_n (by omega)) (xu_n (by omega)), h10.kept (xu_n (by omega)) (xu_n (by omega)), ⟨lk, h11.kept (xu_n (by omega)) (xu_n (by omega))⟩, sm, h12.kept (xu_n (by omega)) (xu_n (by omega))⟩
  · obtain ⟨j', a, b, -⟩ := which j hj
    rw [b]; exact h6 j' a
  · obtain ⟨j', a, b, -, c⟩ := which j hj
    obtain ⟨k', a', b', -, c'⟩ := which k hk
    rw [b, b'] at e
    have := h7 j' k' a a' e
    exact inj j k hj hk (by rw [← c, ← c']; exact this)
  · obtain ⟨j', a, b, c, -⟩ := which j hj
    rw [b, c]
    obtain ⟨q, hq, e⟩ := h6 j' a
    exact (h8 j' a).kept (xu_n (by omega)) (xu_n (by omega))
set_option maxRecDepth 100000 in
set_option maxHeartbeats 4000000 in
theorem c_sinkStep (V : xV) {w z n l : Nat} {f : xH} {ps : Nat → Nat} {xs rs : Nat → xZ} {tk so : Nat → Int32} {P : xZ} {post : Option Value → xH → Nat → Prop} (hW : ScW f w n ps xs rs tk so P) (hl : l < 24) (hS : ∀ j, j ≤ l → -29243015907268149203883755326167580672 ≤ sz (xs j) ∧ sz (xs j) ≤ 29243015907268149203883755326167580672)
    (hp : ∀ i st, i ≤ l → (i = 0 ∨ sz (xs (i - 1)) ≤ sz (xs l)) → (∀ j, i ≤ j → j < l → sz (xs l) < sz (xs j)) → ScW (xu f (w + 5) (xR 24 st)) w n (ins ps l i) (ins xs l i) rs tk so P → post none (xu f (w + 5) (xR 24 st)) z) :
    xMet V yX3_sinkStep cX3_sinkStep 4 none 2 0 0 [.ref (w + 4), .int (nI l)] f z post := by
  refine xMet_of false (by decide) (Nat.le_of_ble_eq_true rfl) (fun h => by cases h) (fun X hX O Rt => ?_)
  have O : xO X cX3_sinkStep 4 RX3 2 0 0 false := O
  show xG X 0 [some (.ref (w + 4)), some (.int (nI l)), none, none] [] f (z, 0, 0)
  obtain ⟨h1, ⟨st0, h2, h2'⟩, -, h4, h5, h6, h7, h8, h9, h10, -⟩ := id hW
  have loop : ∀ i, i ≤ l → ∀ (u : Option Value) (st : Nat → Option Nat), (∀ j, i ≤ j → j < l → sz (xs l) < sz (xs j)) → (∀ j, j < 24 → st j = some (ins ps l i j)) →
      xG X 2 [some (.ref (w + 4)), some (.int (nI l)), some (.int (nI i)), u] [] (xu f (w + 5) (xR 24 st)) (z, 0, 0) := by
    intro i
    induction i with
    | zero =>
      intro hil u st hb hs1
      have hcc : (nI 0 ≤ 0) = True := eq_true (by decide)
      refine xgo O Rt xplX3_q xclX3_q [2] 30 ?_
      simp (maxSteps := 10000000) (disch := omega) only [↓reduceIte, ↓xrun_s, ↓xck_e, xdo_e, xlg_0, xlg_c, xst1_0, xst1_1, xst1_c, xst2_0, xst2_1, xst2_c, xk2_n, xk2_i, xk2_a, xk2_l, xct_i, xct_a, xct_l, xf4_0, xf4_1, xf4_2, xf4_3, List.contains_cons, List.contains_nil, Bool.or_false, Bool.false_or, Bool.or_self, Bool.true_or, Bool.or_true, cond_true, cond_false, List.set_cons_zero, List.set_cons_succ, List.length_cons, List.length_nil, true_and, and_true, xu_s, xu_u, xeqs, Nat.le_refl, not_true_eq_false, xq_10, xq_01, Int32.reduceAdd, Int32.reduceMul, Int32.reduceSub, Int32.reduceLE, Int32.reduceLT, Int32.reduceToNatClampNeg, Nat.reduceAdd, Nat.reduceMul, Nat.reduceBEq, Nat.reduceLT, Nat.reduceLeDiff, Nat.reduceEqDiff, Nat.zero_add, Bool.false_eq_true, reduceCtorEq, if_false, if_true, not_false_eq_true, true_imp_iff, false_imp_iff, imp_self, ↓xil_e, ↓xll_e, ↓xal_e, ↓xs1i_e, ↓xs2i_e, ↓xs1l_e, ↓xs2l_e, ↓xsil_e, ↓xs1_e, ↓xs2_e, ↓xs1a_e, ↓xsia_e, ↓xsiia_e, ↓xslia_e, ↓xsaia_e, ↓xsva_e, ↓xse1i_e, ↓xse1l_e, ↓xse1a_e, ↓xse0_e, ↓xfv_0, ↓xfv_c, ↓xgf_e, ↓xpf_e, ↓xia_e, ↓xia_n, ↓xba_e, ↓xba_n, ↓xla_e, ↓xla_n, ↓xob_e, ↓xra_e, ↓xno_e, ↓xle_e, ↓xnr_i, ↓xnr_b0, ↓xnr_b1, ↓xnr_n, ↓xdo_e, ↓xkl_0, ↓xe_iconst, ↓xe_isub, ↓xe_iload_n, ↓xe_aload_n, ↓xe_istore_n, ↓xe_astore_n, ↓xe_iinc, ↓xe_goto, ↓xe_getfield, ↓xe_aaload, ↓xe_aastore, ↓xe_return_, ↓xe_if_eq, ↓xe_if_le, ↓xe_invokevirtual, dX3_sinkStep_0, dX3_sinkStep_1, dX3_sinkStep_2, dX3_sinkStep_3, dX3_sinkStep_6, dX3_sinkStep_7, dX3_sinkStep_10, dX3_sinkStep_11, dX3_sinkStep_12, dX3_sinkStep_13, dX3_sinkStep_16, dX3_sinkStep_17, dX3_sinkStep_18, dX3_sinkStep_19, dX3_sinkStep_20, dX3_sinkStep_21, dX3_sinkStep_24, dX3_sinkStep_27, dX3_sinkStep_28, dX3_sinkStep_31, dX3_sinkStep_32, dX3_sinkStep_33, dX3_sinkStep_34, dX3_sinkStep_35, dX3_sinkStep_36, dX3_sinkStep_37, dX3_sinkStep_40, dX3_sinkStep_41, dX3_sinkStep_42, dX3_sinkStep_43, dX3_sinkStep_44, dX3_sinkStep_47, dX3_sinkStep_48, dX3_sinkStep_49, dX3_sinkStep_50, dX3_sinkStep_51, dX3_sinkStep_54, dX3_sinkStep_55, dX3_sinkStep_56, dX3_sinkStep_57, dX3_sinkStep_60, dX3_sinkStep_63, xpX3_11, xki_1, xki_m1, hcc, xt_3_60, xtc_3_60, xt_24_39, xtc_24_39, xt_60_m58, xtc_60_m58]
      exact hp 0 st (by omega) (Or.inl rfl) hb (hW.steps hl hil hs1)
    | succ i ih =>
      intro hil u st hb hs1
      have hcc : (nI (i + 1) ≤ 0) = False := eq_false (nI_nle (by omega) (by omega))
      have ni : nI (i + 1) - 1 = nI i := nI_pred i
      have nm : nI (i + 1) + (-1) = nI i := pk_m1 i
      have u1 : ∀ e2, xu f (w + 5) e2 (w + 4) = some (xSc w n) := fun e2 => by rw [xu_n (by omega)]; exact h1
      have v0 : vp_in (nI (i + 1)) 24 := vp_in_nI (by omega) (by omega)
      have v1 : (nI (i + 1)).toNatClampNeg = i + 1 := nI_clamp (by omega)
      have v2 : vp_in (nI i) 24 := vp_in_nI (by omega) (by omega)
      have v3 : (nI i).toNatClampNeg = i := nI_clamp (by omega)
      have a1 : st (i + 1) = some (ps l) := by rw [hs1 _ (by omega), ins_at]
      have a2 : st i = some (ps i) := by rw [hs1 i (by omega), ins_lt ps (by omega)]
      obtain ⟨jl, bl1, bl2⟩ := h6 l hl
      obtain ⟨ji, bi1, bi2⟩ := h6 i (by omega)
      have d1 : Nt (xu f (w + 5) (xR 24 st)) (ps l) (ps l + 1) (xs l) := (h8 l hl).kept (xu_n (by omega)) (xu_n (by omega))
      have d2 : Nt (xu f (w + 5) (xR 24 st)) (ps i) (ps i + 1) (xs i) := (h8 i (by omega)).kept (xu_n (by omega)) (xu_n (by omega))
      obtain ⟨-, _, y1, y2, y3, d3, -⟩ := id d1
      obtain ⟨-, _, y4, y5, y6, d4, -⟩ := id d2
      have w1 : ∀ e2, xu f (w + 5) e2 (ps l) = f (ps l) := fun e2 => xu_n (by omega)
      have w2 : ∀ e2, xu f (w + 5) e2 (ps i) = f (ps i) := fun e2 => xu_n (by omega)
      have d5 : f (ps l) = some (xNt (ps l + 1) y1 y2 y3) := by rw [← w1 (xR 24 st)]; exact d3
      have d6 : f (ps i) = some (xNt (ps i + 1) y4 y5 y6) := by rw [← w2 (xR 24 st)]; exact d4
      have one : (1 : Int32).toInt = 1 := rfl
      have q1 := hS l (by omega)
      have q2 := hS i (by omega)
      have k1 : ∀ (g : Nat → Option Nat) (v : Option Nat), va_up g i v (i + 1) = g (i + 1) := fun g v => by simp [va_up]
      refine xgo O Rt xplX3_q xclX3_q [2] 40 ?_
      simp (maxSteps := 10000000) (disch := omega) only [↓reduceIte, ↓xrun_s, ↓xck_e, xdo_e, xlg_0, xlg_c, xst1_0, xst1_1, xst1_c, xst2_0, xst2_1, xst2_c, xk2_n, xk2_i, xk2_a, xk2_l, xct_i, xct_a, xct_l, xf4_0, xf4_1, xf4_2, xf4_3, List.contains_cons, List.contains_nil, Bool.or_false, Bool.false_or, Bool.or_self, Bool.true_or, Bool.or_true, cond_true, cond_false, List.set_cons_zero, List.set_cons_succ, List.length_cons, List.length_nil, true_and, and_true, xu_s, xu_u, xeqs, Nat.le_refl, not_true_eq_false, xq_10, xq_01, Int32.reduceAdd, Int32.reduceMul, Int32.reduceSub, Int32.reduceLE, Int32.reduceLT, Int32.reduceToNatClampNeg, Nat.reduceAdd, Nat.reduceMul, Nat.reduceBEq, Nat.reduceLT, Nat.reduceLeDiff, Nat.reduceEqDiff, Nat.zero_add, Bool.false_eq_true, reduceCtorEq, if_false, if_true, not_false_eq_true, true_imp_iff, false_imp_iff, imp_self, ↓xil_e, ↓xll_e, ↓xal_e, ↓xs1i_e, ↓xs2i_e, ↓xs1l_e, ↓xs2l_e, ↓xsil_e, ↓xs1_e, ↓xs2_e, ↓xs1a_e, ↓xsia_e, ↓xsiia_e, ↓xslia_e, ↓xsaia_e, ↓xsva_e, ↓xse1i_e, ↓xse1l_e, ↓xse1a_e, ↓xse0_e, ↓xfv_0, ↓xfv_c, ↓xgf_e, ↓xpf_e, ↓xia_e, ↓xia_n, ↓xba_e, ↓xba_n, ↓xla_e, ↓xla_n, ↓xob_e, ↓xra_e, ↓xno_e, ↓xle_e, ↓xnr_i, ↓xnr_b0, ↓xnr_b1, ↓xnr_n, ↓xdo_e, ↓xkl_0, ↓xe_iconst, ↓xe_isub, ↓xe_iload_n, ↓xe_aload_n, ↓xe_istore_n, ↓xe_astore_n, ↓xe_iinc, ↓xe_goto, ↓xe_getfield, ↓xe_aaload, ↓xe_aastore, ↓xe_return_, ↓xe_if_eq, ↓xe_if_le, ↓xe_invokevirtual, dX3_sinkStep_0, dX3_sinkStep_1, dX3_sinkStep_2, dX3_sinkStep_3, dX3_sinkStep_6, dX3_sinkStep_7, dX3_sinkStep_10, dX3_sinkStep_11, dX3_sinkStep_12, dX3_sinkStep_13, dX3_sinkStep_16, dX3_sinkStep_17, dX3_sinkStep_18, dX3_sinkStep_19, dX3_sinkStep_20, dX3_sinkStep_21, dX3_sinkStep_24, dX3_sinkStep_27, dX3_sinkStep_28, dX3_sinkStep_31, dX3_sinkStep_32, dX3_sinkStep_33, dX3_sinkStep_34, dX3_sinkStep_35, dX3_sinkStep_36, dX3_sinkStep_37, dX3_sinkStep_40, dX3_sinkStep_41, dX3_sinkStep_42, dX3_sinkStep_43, dX3_sinkStep_44, dX3_sinkStep_47, dX3_sinkStep_48, dX3_sinkStep_49, dX3_sinkStep_50, dX3_sinkStep_51, dX3_sinkStep_54, dX3_sinkStep_55, dX3_sinkStep_56, dX3_sinkStep_57, dX3_sinkStep_60, dX3_sinkStep_63, xpX3_11, xki_1, xki_m1, hcc, ni, u1, v0, v1, v2, v3, a1, a2, xt_3_60, xtc_3_60, xt_24_39, xtc_24_39, xt_60_m58, xtc_60_m58]
      refine xg_callVi (Qp := fun r f' => r = (if sz (xs l) < (1 : Int32).toInt * sz (xs i) then 1 else 0) ∧ f' = xu f (w + 5) (xR 24 st)) O dX3_sinkStep_21 xl_X3_78 xk_X1_isBelow (c_isBelow _ d1 d2 (by rw [one]; omega) (by omega) (by rw [one]; omega) ⟨_, rfl, ⟨rfl, rfl⟩, rfl⟩) d3 rfl rfl rfl (Nat.le_of_ble_eq_true rfl) rfl (Nat.le_of_ble_eq_true rfl) (Nat.le_of_ble_eq_true rfl) (Nat.le_of_ble_eq_true rfl) (fun r f1 hq => ?_)
      obtain ⟨rfl, rfl⟩ := hq
      by_cases hc : sz (xs l) < (1 : Int32).toInt * sz (xs i)
      · rw [if_pos hc]
        rw [one, Int.one_mul] at hc
        refine xgo O Rt xplX3_q xclX3_q [2] 60 ?_
        simp (maxSteps := 10000000) (disch := omega) only [↓reduceIte, ↓xrun_s, ↓xck_e, xdo_e, xlg_0, xlg_c, xst1_0, xst1_1, xst1_c, xst2_0, xst2_1, xst2_c, xk2_n, xk2_i, xk2_a, xk2_l, xct_i, xct_a, xct_l, xf4_0, xf4_1, xf4_2, xf4_3, List.contains_cons, List.contains_nil, Bool.or_false, Bool.false_or, Bool.or_self, Bool.true_or, Bool.or_true, cond_true, cond_false, List.set_cons_zero, List.set_cons_succ, List.length_cons, List.length_nil, true_and, and_true, xu_s, xu_u, xeqs, Nat.le_refl, not_true_eq_false, xq_10, xq_01, Int32.reduceAdd, Int32.reduceMul, Int32.reduceSub, Int32.reduceLE, Int32.reduceLT, Int32.reduceToNatClampNeg, Nat.reduceAdd, Nat.reduceMul, Nat.reduceBEq, Nat.reduceLT, Nat.reduceLeDiff, Nat.reduceEqDiff, Nat.zero_add, Bool.false_eq_true, reduceCtorEq, if_false, if_true, not_false_eq_true, true_imp_iff, false_imp_iff, imp_self, ↓xil_e, ↓xll_e, ↓xal_e, ↓xs1i_e, ↓xs2i_e, ↓xs1l_e, ↓xs2l_e, ↓xsil_e, ↓xs1_e, ↓xs2_e, ↓xs1a_e, ↓xsia_e, ↓xsiia_e, ↓xslia_e, ↓xsaia_e, ↓xsva_e, ↓xse1i_e, ↓xse1l_e, ↓xse1a_e, ↓xse0_e, ↓xfv_0, ↓xfv_c, ↓xgf_e, ↓xpf_e, ↓xia_e, ↓xia_n, ↓xba_e, ↓xba_n, ↓xla_e, ↓xla_n, ↓xob_e, ↓xra_e, ↓xno_e, ↓xle_e, ↓xnr_i, ↓xnr_b0, ↓xnr_b1, ↓xnr_n, ↓xdo_e, ↓xkl_0, ↓xe_iconst, ↓xe_isub, ↓xe_iload_n, ↓xe_aload_n, ↓xe_istore_n, ↓xe_astore_n, ↓xe_iinc, ↓xe_goto, ↓xe_getfield, ↓xe_aaload, ↓xe_aastore, ↓xe_return_, ↓xe_if_eq, ↓xe_if_le, ↓xe_invokevirtual, dX3_sinkStep_0, dX3_sinkStep_1, dX3_sinkStep_2, dX3_sinkStep_3, dX3_sinkStep_6, dX3_sinkStep_7, dX3_sinkStep_10, dX3_sinkStep_11, dX3_sinkStep_12, dX3_sinkStep_13, dX3_sinkStep_16, dX3_sinkStep_17, dX3_sinkStep_18, dX3_sinkStep_19, dX3_sinkStep_20, dX3_sinkStep_21, dX3_sinkStep_24, dX3_sinkStep_27, dX3_sinkStep_28, dX3_sinkStep_31, dX3_sinkStep_32, dX3_sinkStep_33, dX3_sinkStep_34, dX3_sinkStep_35, dX3_sinkStep_36, dX3_sinkStep_37, dX3_sinkStep_40, dX3_sinkStep_41, dX3_sinkStep_42, dX3_sinkStep_43, dX3_sinkStep_44, dX3_sinkStep_47, dX3_sinkStep_48, dX3_sinkStep_49, dX3_sinkStep_50, dX3_sinkStep_51, dX3_sinkStep_54, dX3_sinkStep_55, dX3_sinkStep_56, dX3_sinkStep_57, dX3_sinkStep_60, dX3_sinkStep_63, xpX3_11, xki_1, xki_m1, hcc, ni, nm, u1, v0, v1, v2, v3, a1, a2, w1, w2, d5, d6, k1, xt_3_60, xtc_3_60, xt_24_39, xtc_24_39, xt_60_m58, xtc_60_m58]
        refine ih (by omega) _ _ (fun j e1 e2 => ?_) (fun j hj => ?_)
        · by_cases hji : j = i
          · subst hji; exact hc
          · exact hb j (by omega) e2
        · by_cases hj1 : j = i + 1
          · subst hj1
            simp only [va_up, if_true]
            rw [ins_gt ps (by omega) hil]; rfl
          · by_cases hj2 : j = i
            · subst hj2
              simp only [va_up, if_neg hj1, if_true]
              rw [ins_at]
            · simp only [va_up, if_neg hj1, if_neg hj2]
              rw [hs1 j hj]
              by_cases hj3 : j < i
              · rw [ins_lt ps (by omega), ins_lt ps hj3]
              · by_cases hj4 : j ≤ l
                · rw [ins_gt ps (by omega) hj4, ins_gt ps (by omega) hj4]
                · rw [ins_big ps (by omega) hil, ins_big ps (by omega) (by omega)]
      · rw [if_neg hc]
        rw [one, Int.one_mul] at hc
        refine xgo O Rt xplX3_q xclX3_q [2] 60 ?_
        simp (maxSteps := 10000000) (disch := omega) only [↓reduceIte, ↓xrun_s, ↓xck_e, xdo_e, xlg_0, xlg_c, xst1_0, xst1_1, xst1_c, xst2_0, xst2_1, xst2_c, xk2_n, xk2_i, xk2_a, xk2_l, xct_i, xct_a, xct_l, xf4_0, xf4_1, xf4_2, xf4_3, List.contains_cons, List.contains_nil, Bool.or_false, Bool.false_or, Bool.or_self, Bool.true_or, Bool.or_true, cond_true, cond_false, List.set_cons_zero, List.set_cons_succ, List.length_cons, List.length_nil, true_and, and_true, xu_s, xu_u, xeqs, Nat.le_refl, not_true_eq_false, xq_10, xq_01, Int32.reduceAdd, Int32.reduceMul, Int32.reduceSub, Int32.reduceLE, Int32.reduceLT, Int32.reduceToNatClampNeg, Nat.reduceAdd, Nat.reduceMul, Nat.reduceBEq, Nat.reduceLT, Nat.reduceLeDiff, Nat.reduceEqDiff, Nat.zero_add, Bool.false_eq_true, reduceCtorEq, if_false, if_true, not_false_eq_true, true_imp_iff, false_imp_iff, imp_self, ↓xil_e, ↓xll_e, ↓xal_e, ↓xs1i_e, ↓xs2i_e, ↓xs1l_e, ↓xs2l_e, ↓xsil_e, ↓xs1_e, ↓xs2_e, ↓xs1a_e, ↓xsia_e, ↓xsiia_e, ↓xslia_e, ↓xsaia_e, ↓xsva_e, ↓xse1i_e, ↓xse1l_e, ↓xse1a_e, ↓xse0_e, ↓xfv_0, ↓xfv_c, ↓xgf_e, ↓xpf_e, ↓xia_e, ↓xia_n, ↓xba_e, ↓xba_n, ↓xla_e, ↓xla_n, ↓xob_e, ↓xra_e, ↓xno_e, ↓xle_e, ↓xnr_i, ↓xnr_b0, ↓xnr_b1, ↓xnr_n, ↓xdo_e, ↓xkl_0, ↓xe_iconst, ↓xe_isub, ↓xe_iload_n, ↓xe_aload_n, ↓xe_istore_n, ↓xe_astore_n, ↓xe_iinc, ↓xe_goto, ↓xe_getfield, ↓xe_aaload, ↓xe_aastore, ↓xe_return_, ↓xe_if_eq, ↓xe_if_le, ↓xe_invokevirtual, dX3_sinkStep_0, dX3_sinkStep_1, dX3_sinkStep_2, dX3_sinkStep_3, dX3_sinkStep_6, dX3_sinkStep_7, dX3_sinkStep_10, dX3_sinkStep_11, dX3_sinkStep_12, dX3_sinkStep_13, dX3_sinkStep_16, dX3_sinkStep_17, dX3_sinkStep_18, dX3_sinkStep_19, dX3_sinkStep_20, dX3_sinkStep_21, dX3_sinkStep_24, dX3_sinkStep_27, dX3_sinkStep_28, dX3_sinkStep_31, dX3_sinkStep_32, dX3_sinkStep_33, dX3_sinkStep_34, dX3_sinkStep_35, dX3_sinkStep_36, dX3_sinkStep_37, dX3_sinkStep_40, dX3_sinkStep_41, dX3_sinkStep_42, dX3_sinkStep_43, dX3_sinkStep_44, dX3_sinkStep_47, dX3_sinkStep_48, dX3_sinkStep_49, dX3_sinkStep_50, dX3_sinkStep_51, dX3_sinkStep_54, dX3_sinkStep_55, dX3_sinkStep_56, dX3_sinkStep_57, dX3_sinkStep_60, dX3_sinkStep_63, xpX3_11, xki_1, xki_m1, xt_3_60, xtc_3_60, xt_24_39, xtc_24_39, xt_60_m58, xtc_60_m58]
        exact hp (i + 1) st hil (Or.inr (by simp only [Nat.add_sub_cancel]; omega)) hb (hW.steps hl hil hs1)
  have := loop l (Nat.le_refl l) none st0 (fun j e1 e2 => absurd e1 (by omega)) (fun j hj => by rw [ins_self]; exact h2' j hj)
  rw [xu_id h2] at this
  refine xgo O Rt xplX3_q xclX3_q [2] 40 ?_
  simp (maxSteps := 10000000) (disch := omega) only [↓reduceIte, ↓xrun_s, ↓xck_e, xdo_e, xlg_0, xlg_c, xst1_0, xst1_1, xst1_c, xst2_0, xst2_1, xst2_c, xk2_n, xk2_i, xk2_a, xk2_l, xct_i, xct_a, xct_l, xf4_0, xf4_1, xf4_2, xf4_3, List.contains_cons, List.contains_nil, Bool.or_false, Bool.false_or, Bool.or_self, Bool.true_or, Bool.or_true, cond_true, cond_false, List.set_cons_zero, List.set_cons_succ, List.length_cons, List.length_nil, true_and, and_true, xu_s, xu_u, xeqs, Nat.le_refl, not_true_eq_false, xq_10, xq_01, Int32.reduceAdd, Int32.reduceMul, Int32.reduceSub, Int32.reduceLE, Int32.reduceLT, Int32.reduceToNatClampNeg, Nat.reduceAdd, Nat.reduceMul, Nat.reduceBEq, Nat.reduceLT, Nat.reduceLeDiff, Nat.reduceEqDiff, Nat.zero_add, Bool.false_eq_true, reduceCtorEq, if_false, if_true, not_false_eq_true, true_imp_iff, false_imp_iff, imp_self, ↓xil_e, ↓xll_e, ↓xal_e, ↓xs1i_e, ↓xs2i_e, ↓xs1l_e, ↓xs2l_e, ↓xsil_e, ↓xs1_e, ↓xs2_e, ↓xs1a_e, ↓xsia_e, ↓xsiia_e, ↓xslia_e, ↓xsaia_e, ↓xsva_e, ↓xse1i_e, ↓xse1l_e, ↓xse1a_e, ↓xse0_e, ↓xfv_0, ↓xfv_c, ↓xgf_e, ↓xpf_e, ↓xia_e, ↓xia_n, ↓xba_e, ↓xba_n, ↓xla_e, ↓xla_n, ↓xob_e, ↓xra_e, ↓xno_e, ↓xle_e, ↓xnr_i, ↓xnr_b0, ↓xnr_b1, ↓xnr_n, ↓xdo_e, ↓xkl_0, ↓xe_iconst, ↓xe_isub, ↓xe_iload_n, ↓xe_aload_n, ↓xe_istore_n, ↓xe_astore_n, ↓xe_iinc, ↓xe_goto, ↓xe_getfield, ↓xe_aaload, ↓xe_aastore, ↓xe_return_, ↓xe_if_eq, ↓xe_if_le, ↓xe_invokevirtual, dX3_sinkStep_0, dX3_sinkStep_1, dX3_sinkStep_2, dX3_sinkStep_3, dX3_sinkStep_6, dX3_sinkStep_7, dX3_sinkStep_10, dX3_sinkStep_11, dX3_sinkStep_12, dX3_sinkStep_13, dX3_sinkStep_16, dX3_sinkStep_17, dX3_sinkStep_18, dX3_sinkStep_19, dX3_sinkStep_20, dX3_sinkStep_21, dX3_sinkStep_24, dX3_sinkStep_27, dX3_sinkStep_28, dX3_sinkStep_31, dX3_sinkStep_32, dX3_sinkStep_33, dX3_sinkStep_34, dX3_sinkStep_35, dX3_sinkStep_36, dX3_sinkStep_37, dX3_sinkStep_40, dX3_sinkStep_41, dX3_sinkStep_42, dX3_sinkStep_43, dX3_sinkStep_44, dX3_sinkStep_47, dX3_sinkStep_48, dX3_sinkStep_49, dX3_sinkStep_50, dX3_sinkStep_51, dX3_sinkStep_54, dX3_sinkStep_55, dX3_sinkStep_56, dX3_sinkStep_57, dX3_sinkStep_60, dX3_sinkStep_63, xpX3_11, xki_1, xki_m1, xt_3_60, xtc_3_60, xt_24_39, xtc_24_39, xt_60_m58, xtc_60_m58]
  exact this
