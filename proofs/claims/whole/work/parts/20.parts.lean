/-! ===== TuningTables$Parts ===== -/
theorem dX2_forget_0 : decode cX2_forget 0 = .ok (.aload_n 0, 1) := by decide +kernel
theorem dX2_forget_1 : decode cX2_forget 1 = .ok (.getfield 24, 3) := by decide +kernel
theorem dX2_forget_4 : decode cX2_forget 4 = .ok (.ldc 31, 2) := by decide +kernel
theorem dX2_forget_6 : decode cX2_forget 6 = .ok (.invokestatic 32, 3) := by decide +kernel
theorem dX2_forget_9 : decode cX2_forget 9 = .ok (.return_, 1) := by decide +kernel
theorem dX2_nearest_0 : decode cX2_nearest 0 = .ok (.aload_n 0, 1) := by decide +kernel
theorem dX2_nearest_1 : decode cX2_nearest 1 = .ok (.getfield 12, 3) := by decide +kernel
theorem dX2_nearest_4 : decode cX2_nearest 4 = .ok (.aload_n 0, 1) := by decide +kernel
theorem dX2_nearest_5 : decode cX2_nearest 5 = .ok (.getfield 28, 3) := by decide +kernel
theorem dX2_nearest_8 : decode cX2_nearest 8 = .ok (.invokevirtual 38, 3) := by decide +kernel
theorem dX2_nearest_11 : decode cX2_nearest 11 = .ok (.aload_n 0, 1) := by decide +kernel
theorem dX2_nearest_12 : decode cX2_nearest 12 = .ok (.getfield 12, 3) := by decide +kernel
theorem dX2_nearest_15 : decode cX2_nearest 15 = .ok (.aload_n 1, 1) := by decide +kernel
theorem dX2_nearest_16 : decode cX2_nearest 16 = .ok (.bipush (-2), 2) := by decide +kernel
theorem dX2_nearest_18 : decode cX2_nearest 18 = .ok (.iload_n 2, 1) := by decide +kernel
theorem dX2_nearest_19 : decode cX2_nearest 19 = .ok (.imul, 1) := by decide +kernel
theorem dX2_nearest_20 : decode cX2_nearest 20 = .ok (.invokevirtual 42, 3) := by decide +kernel
theorem dX2_nearest_23 : decode cX2_nearest 23 = .ok (.aload_n 0, 1) := by decide +kernel
theorem dX2_nearest_24 : decode cX2_nearest 24 = .ok (.getfield 18, 3) := by decide +kernel
theorem dX2_nearest_27 : decode cX2_nearest 27 = .ok (.aload_n 0, 1) := by decide +kernel
theorem dX2_nearest_28 : decode cX2_nearest 28 = .ok (.getfield 28, 3) := by decide +kernel
theorem dX2_nearest_31 : decode cX2_nearest 31 = .ok (.invokevirtual 38, 3) := by decide +kernel
theorem dX2_nearest_34 : decode cX2_nearest 34 = .ok (.aload_n 0, 1) := by decide +kernel
theorem dX2_nearest_35 : decode cX2_nearest 35 = .ok (.getfield 18, 3) := by decide +kernel
theorem dX2_nearest_38 : decode cX2_nearest 38 = .ok (.aload_n 0, 1) := by decide +kernel
theorem dX2_nearest_39 : decode cX2_nearest 39 = .ok (.getfield 28, 3) := by decide +kernel
theorem dX2_nearest_42 : decode cX2_nearest 42 = .ok (.iconst 1, 1) := by decide +kernel
theorem dX2_nearest_43 : decode cX2_nearest 43 = .ok (.invokevirtual 42, 3) := by decide +kernel
theorem dX2_nearest_46 : decode cX2_nearest 46 = .ok (.aload_n 0, 1) := by decide +kernel
theorem dX2_nearest_47 : decode cX2_nearest 47 = .ok (.getfield 12, 3) := by decide +kernel
theorem dX2_nearest_50 : decode cX2_nearest 50 = .ok (.aload_n 0, 1) := by decide +kernel
theorem dX2_nearest_51 : decode cX2_nearest 51 = .ok (.getfield 18, 3) := by decide +kernel
theorem dX2_nearest_54 : decode cX2_nearest 54 = .ok (.invokevirtual 46, 3) := by decide +kernel
theorem dX2_nearest_57 : decode cX2_nearest 57 = .ok (.ineg, 1) := by decide +kernel
theorem dX2_nearest_58 : decode cX2_nearest 58 = .ok (.ireturn, 1) := by decide +kernel
theorem dX2_nearestToPrime_0 : decode cX2_nearestToPrime 0 = .ok (.iload_n 2, 1) := by decide +kernel
theorem dX2_nearestToPrime_1 : decode cX2_nearestToPrime 1 = .ok (.bipush 6, 2) := by decide +kernel
theorem dX2_nearestToPrime_3 : decode cX2_nearestToPrime 3 = .ok (.imul, 1) := by decide +kernel
theorem dX2_nearestToPrime_4 : decode cX2_nearestToPrime 4 = .ok (.iload_n 1, 1) := by decide +kernel
theorem dX2_nearestToPrime_5 : decode cX2_nearestToPrime 5 = .ok (.iadd, 1) := by decide +kernel
theorem dX2_nearestToPrime_6 : decode cX2_nearestToPrime 6 = .ok (.istore_n 3, 1) := by decide +kernel
theorem dX2_nearestToPrime_7 : decode cX2_nearestToPrime 7 = .ok (.aload_n 0, 1) := by decide +kernel
theorem dX2_nearestToPrime_8 : decode cX2_nearestToPrime 8 = .ok (.getfield 24, 3) := by decide +kernel
theorem dX2_nearestToPrime_11 : decode cX2_nearestToPrime 11 = .ok (.iload_n 3, 1) := by decide +kernel
theorem dX2_nearestToPrime_12 : decode cX2_nearestToPrime 12 = .ok (.iaload, 1) := by decide +kernel
theorem dX2_nearestToPrime_13 : decode cX2_nearestToPrime 13 = .ok (.ldc 31, 2) := by decide +kernel
theorem dX2_nearestToPrime_15 : decode cX2_nearestToPrime 15 = .ok (.if_icmp .ne 34, 3) := by decide +kernel
theorem dX2_nearestToPrime_18 : decode cX2_nearestToPrime 18 = .ok (.aload_n 0, 1) := by decide +kernel
theorem dX2_nearestToPrime_19 : decode cX2_nearestToPrime 19 = .ok (.getfield 21, 3) := by decide +kernel
theorem dX2_nearestToPrime_22 : decode cX2_nearestToPrime 22 = .ok (.invokevirtual 50, 3) := by decide +kernel
theorem dX2_nearestToPrime_25 : decode cX2_nearestToPrime 25 = .ok (.aload_n 0, 1) := by decide +kernel
theorem dX2_nearestToPrime_26 : decode cX2_nearestToPrime 26 = .ok (.getfield 21, 3) := by decide +kernel
theorem dX2_nearestToPrime_29 : decode cX2_nearestToPrime 29 = .ok (.iload_n 1, 1) := by decide +kernel
theorem dX2_nearestToPrime_30 : decode cX2_nearestToPrime 30 = .ok (.iconst 1, 1) := by decide +kernel
theorem dX2_nearestToPrime_31 : decode cX2_nearestToPrime 31 = .ok (.invokevirtual 53, 3) := by decide +kernel
theorem dX2_nearestToPrime_34 : decode cX2_nearestToPrime 34 = .ok (.aload_n 0, 1) := by decide +kernel
theorem dX2_nearestToPrime_35 : decode cX2_nearestToPrime 35 = .ok (.getfield 24, 3) := by decide +kernel
theorem dX2_nearestToPrime_38 : decode cX2_nearestToPrime 38 = .ok (.iload_n 3, 1) := by decide +kernel
theorem dX2_nearestToPrime_39 : decode cX2_nearestToPrime 39 = .ok (.aload_n 0, 1) := by decide +kernel
theorem dX2_nearestToPrime_40 : decode cX2_nearestToPrime 40 = .ok (.aload_n 0, 1) := by decide +kernel
theorem dX2_nearestToPrime_41 : decode cX2_nearestToPrime 41 = .ok (.getfield 21, 3) := by decide +kernel
theorem dX2_nearestToPrime_44 : decode cX2_nearestToPrime 44 = .ok (.iload_n 2, 1) := by decide +kernel
theorem dX2_nearestToPrime_45 : decode cX2_nearestToPrime 45 = .ok (.invokevirtual 57, 3) := by decide +kernel
theorem dX2_nearestToPrime_48 : decode cX2_nearestToPrime 48 = .ok (.iastore, 1) := by decide +kernel
theorem dX2_nearestToPrime_49 : decode cX2_nearestToPrime 49 = .ok (.aload_n 0, 1) := by decide +kernel
theorem dX2_nearestToPrime_50 : decode cX2_nearestToPrime 50 = .ok (.getfield 24, 3) := by decide +kernel
theorem dX2_nearestToPrime_53 : decode cX2_nearestToPrime 53 = .ok (.iload_n 3, 1) := by decide +kernel
theorem dX2_nearestToPrime_54 : decode cX2_nearestToPrime 54 = .ok (.iaload, 1) := by decide +kernel
theorem dX2_nearestToPrime_55 : decode cX2_nearestToPrime 55 = .ok (.ireturn, 1) := by decide +kernel
theorem dX2_sum_0 : decode cX2_sum 0 = .ok (.iconst 0, 1) := by decide +kernel
theorem dX2_sum_1 : decode cX2_sum 1 = .ok (.istore_n 3, 1) := by decide +kernel
theorem dX2_sum_2 : decode cX2_sum 2 = .ok (.iconst 0, 1) := by decide +kernel
theorem dX2_sum_3 : decode cX2_sum 3 = .ok (.istore 4, 2) := by decide +kernel
theorem dX2_sum_5 : decode cX2_sum 5 = .ok (.iload 4, 2) := by decide +kernel
theorem dX2_sum_7 : decode cX2_sum 7 = .ok (.bipush 6, 2) := by decide +kernel
theorem dX2_sum_9 : decode cX2_sum 9 = .ok (.if_icmp .ge 36, 3) := by decide +kernel
theorem dX2_sum_12 : decode cX2_sum 12 = .ok (.aload_n 1, 1) := by decide +kernel
theorem dX2_sum_13 : decode cX2_sum 13 = .ok (.getfield 61, 3) := by decide +kernel
theorem dX2_sum_16 : decode cX2_sum 16 = .ok (.iload 4, 2) := by decide +kernel
theorem dX2_sum_18 : decode cX2_sum 18 = .ok (.iaload, 1) := by decide +kernel
theorem dX2_sum_19 : decode cX2_sum 19 = .ok (.istore 5, 2) := by decide +kernel
theorem dX2_sum_21 : decode cX2_sum 21 = .ok (.iload 5, 2) := by decide +kernel
theorem dX2_sum_23 : decode cX2_sum 23 = .ok (.ifCond .eq 16, 3) := by decide +kernel
theorem dX2_sum_26 : decode cX2_sum 26 = .ok (.iload_n 3, 1) := by decide +kernel
theorem dX2_sum_27 : decode cX2_sum 27 = .ok (.iload 5, 2) := by decide +kernel
theorem dX2_sum_29 : decode cX2_sum 29 = .ok (.aload_n 0, 1) := by decide +kernel
theorem dX2_sum_30 : decode cX2_sum 30 = .ok (.iload 4, 2) := by decide +kernel
theorem dX2_sum_32 : decode cX2_sum 32 = .ok (.iload_n 2, 1) := by decide +kernel
theorem dX2_sum_33 : decode cX2_sum 33 = .ok (.invokevirtual 64, 3) := by decide +kernel
theorem dX2_sum_36 : decode cX2_sum 36 = .ok (.imul, 1) := by decide +kernel
theorem dX2_sum_37 : decode cX2_sum 37 = .ok (.iadd, 1) := by decide +kernel
theorem dX2_sum_38 : decode cX2_sum 38 = .ok (.istore_n 3, 1) := by decide +kernel
theorem dX2_sum_39 : decode cX2_sum 39 = .ok (.iinc 4 1, 3) := by decide +kernel
theorem dX2_sum_42 : decode cX2_sum 42 = .ok (.goto (-37), 3) := by decide +kernel
theorem dX2_sum_45 : decode cX2_sum 45 = .ok (.iload_n 3, 1) := by decide +kernel
theorem dX2_sum_46 : decode cX2_sum 46 = .ok (.ireturn, 1) := by decide +kernel
theorem dX2_leastThatMakesNothing_0 : decode cX2_leastThatMakesNothing 0 = .ok (.iconst 1, 1) := by decide +kernel
theorem dX2_leastThatMakesNothing_1 : decode cX2_leastThatMakesNothing 1 = .ok (.istore_n 2, 1) := by decide +kernel
theorem dX2_leastThatMakesNothing_2 : decode cX2_leastThatMakesNothing 2 = .ok (.iload_n 2, 1) := by decide +kernel
theorem dX2_leastThatMakesNothing_3 : decode cX2_leastThatMakesNothing 3 = .ok (.bipush 36, 2) := by decide +kernel
theorem dX2_leastThatMakesNothing_5 : decode cX2_leastThatMakesNothing 5 = .ok (.if_icmp .gt 20, 3) := by decide +kernel
theorem dX2_leastThatMakesNothing_8 : decode cX2_leastThatMakesNothing 8 = .ok (.aload_n 0, 1) := by decide +kernel
theorem dX2_leastThatMakesNothing_9 : decode cX2_leastThatMakesNothing 9 = .ok (.aload_n 1, 1) := by decide +kernel
theorem dX2_leastThatMakesNothing_10 : decode cX2_leastThatMakesNothing 10 = .ok (.iload_n 2, 1) := by decide +kernel
theorem dX2_leastThatMakesNothing_11 : decode cX2_leastThatMakesNothing 11 = .ok (.invokevirtual 68, 3) := by decide +kernel
theorem dX2_leastThatMakesNothing_14 : decode cX2_leastThatMakesNothing 14 = .ok (.ifCond .ne 5, 3) := by decide +kernel
theorem dX2_leastThatMakesNothing_17 : decode cX2_leastThatMakesNothing 17 = .ok (.iload_n 2, 1) := by decide +kernel
theorem dX2_leastThatMakesNothing_18 : decode cX2_leastThatMakesNothing 18 = .ok (.ireturn, 1) := by decide +kernel
theorem dX2_leastThatMakesNothing_19 : decode cX2_leastThatMakesNothing 19 = .ok (.iinc 2 1, 3) := by decide +kernel
theorem dX2_leastThatMakesNothing_22 : decode cX2_leastThatMakesNothing 22 = .ok (.goto (-20), 3) := by decide +kernel
theorem dX2_leastThatMakesNothing_25 : decode cX2_leastThatMakesNothing 25 = .ok (.ldc 31, 2) := by decide +kernel
theorem dX2_leastThatMakesNothing_27 : decode cX2_leastThatMakesNothing 27 = .ok (.ireturn, 1) := by decide +kernel
/-- a period: a whole number from 2 to 13, as far as sizes go -/
def Per (P : xZ) : Prop := bd P 3 ∧ 1329227995784915872903807060280344576 ≤ sz P ∧ sz P ≤ 5316911983139663491615228241121378304
/-- a step: its exponents, its size -/
def Stp' (x : xZ) : Prop := bd x 1000 ∧ -29243015907268149203883755326167580672 ≤ sz x ∧ sz x ≤ 29243015907268149203883755326167580672
/-- the degree of a size S, the period's being Q, in m parts -/
def dg (S Q : Int) (m : Int) : Int := -((Q - 2 * m * S) / (2 * Q))
def KpOK (kp : Nat → Int32) (P : xZ) : Prop := ∀ m p : Nat, 1 ≤ m → m ≤ 36 → p < 6 → kp (m * 6 + p) = -1000001 ∨ (kp (m * 6 + p)).toInt = dg (LG p) (sz P) m
def PaO (f : xH) (w : Nat) : Prop := f (w + 111) = some (xOb 2 [.ref (w + 9), .ref (w + 112), .ref (w + 114), .ref (w + 116), .ref (w + 118)])
def PaN (f : xH) (w : Nat) : Prop := (∃ x, Nt f (w + 112) (w + 113) x) ∧ (∃ x, Nt f (w + 114) (w + 115) x) ∧ ∃ x, Nt f (w + 116) (w + 117) x
theorem xtop {X : xC} {pc : Nat} {lo : List (Option Value)} {st : List Value} {f : xH} {y : Nat × Nat × Nat} {x : Int32} (k : ∀ v : Int32, v = x → xG X pc lo (.int v :: st) f y) : xG X pc lo (.int x :: st) f y := k x rfl
set_option maxRecDepth 100000 in
set_option maxHeartbeats 4000000 in
theorem c_nearest (V : xV) {w z na nb : Nat} {f : xH} {P x : xZ} {m : Int32} {post : Option Value → xH → Nat → Prop} (hO : PaO f w) (hN : PaN f w) (hP : Nt f (w + 9) (w + 10) P) (hx : Nt f na nb x) (hna : na < w + 112 ∨ w + 116 ≤ na) (hnb : nb < w + 112 ∨ w + 116 ≤ nb) (hper : Per P) (hst : Stp' x) (hm : 1 ≤ m.toInt ∧ m.toInt ≤ 36)
    (hp : ∀ (r : Int32) f', r.toInt = dg (sz x) (sz P) m.toInt → (∀ q, q < w + 112 ∨ w + 116 ≤ q → f' q = f q) → PaN f' w → post (some (.int r)) f' z) :
    xMet V yX2_nearest cX2_nearest 3 (some .int) 4 0 0 [.ref (w + 111), .ref na, .int m] f z post := by
  refine xMet_of false (by decide) (Nat.le_of_ble_eq_true rfl) (fun h => by cases h) (fun X hX O Rt => ?_)
  have O : xO X cX2_nearest 3 RX2 4 0 0 false := O
  show xG X 0 [some (.ref (w + 111)), some (.ref na), some (.int m)] [] f (z, 0, 0)
  have hO : f (w + 111) = some (xOb 2 [.ref (w + 9), .ref (w + 112), .ref (w + 114), .ref (w + 116), .ref (w + 118)]) := hO
  obtain ⟨⟨x1, hN1⟩, ⟨x2, hN2⟩, x3, hN3⟩ := hN
  obtain ⟨hb, hQ1, hQ2⟩ := hper
  obtain ⟨hbx, hS1, hS2⟩ := hst
  obtain ⟨-, _, _, _, _, hfd, -⟩ := id hN1
  refine xgo O Rt xplX2_q xclX2_q [] 60 ?_
  simp (maxSteps := 10000000) (disch := omega) only [↓reduceIte, ↓xrun_s, ↓xck_e, xdo_e, xlg_0, xlg_c, xst1_0, xst1_1, xst1_c, xst2_0, xst2_1, xst2_c, xk2_n, xk2_i, xk2_a, xk2_l, xct_i, xct_a, xct_l, xf4_0, xf4_1, xf4_2, xf4_3, List.contains_cons, List.contains_nil, Bool.or_false, Bool.false_or, Bool.or_self, Bool.true_or, Bool.or_true, cond_true, cond_false, List.set_cons_zero, List.set_cons_succ, List.length_cons, List.length_nil, true_and, and_true, xu_s, xu_u, xeqs, Nat.le_refl, not_true_eq_false, xq_10, xq_01, Int32.reduceAdd, Int32.reduceMul, Int32.reduceSub, Int32.reduceLE, Int32.reduceLT, Int32.reduceToNatClampNeg, Nat.reduceAdd, Nat.reduceMul, Nat.reduceBEq, Nat.reduceLT, Nat.reduceLeDiff, Nat.reduceEqDiff, Nat.zero_add, Bool.false_eq_true, reduceCtorEq, if_false, if_true, not_false_eq_true, true_imp_iff, false_imp_iff, imp_self, ↓xil_e, ↓xll_e, ↓xal_e, ↓xs1i_e, ↓xs2i_e, ↓xs1l_e, ↓xs2l_e, ↓xsil_e, ↓xs1_e, ↓xs2_e, ↓xs1a_e, ↓xsia_e, ↓xsiia_e, ↓xslia_e, ↓xsaia_e, ↓xsva_e, ↓xse1i_e, ↓xse1l_e, ↓xse1a_e, ↓xse0_e, ↓xfv_0, ↓xfv_c, ↓xgf_e, ↓xpf_e, ↓xia_e, ↓xia_n, ↓xba_e, ↓xba_n, ↓xla_e, ↓xla_n, ↓xob_e, ↓xra_e, ↓xno_e, ↓xle_e, ↓xnr_i, ↓xnr_b0, ↓xnr_b1, ↓xnr_n, ↓xdo_e, ↓xkl_0, ↓xe_iconst, ↓xe_bipush, ↓xe_imul, ↓xe_ineg, ↓xe_iload_n, ↓xe_aload_n, ↓xe_getfield, ↓xe_ireturn, ↓xe_invokevirtual, dX2_nearest_0, dX2_nearest_1, dX2_nearest_4, dX2_nearest_5, dX2_nearest_8, dX2_nearest_11, dX2_nearest_12, dX2_nearest_15, dX2_nearest_16, dX2_nearest_18, dX2_nearest_19, dX2_nearest_20, dX2_nearest_23, dX2_nearest_24, dX2_nearest_27, dX2_nearest_28, dX2_nearest_31, dX2_nearest_34, dX2_nearest_35, dX2_nearest_38, dX2_nearest_39, dX2_nearest_42, dX2_nearest_43, dX2_nearest_46, dX2_nearest_47, dX2_nearest_50, dX2_nearest_51, dX2_nearest_54, dX2_nearest_57, dX2_nearest_58, xpX2_12, xpX2_18, xpX2_28, xkb_m2, xki_1, hO]
  refine xg_callVv (Qp := fun f' => (∀ q, q ≠ w + 112 → q ≠ w + 113 → f' q = f q) ∧ Nt f' (w + 112) (w + 113) P) O dX2_nearest_8 xl_X2_38 xk_X1_copyFrom (c_copyFrom _ hN1 hP (by omega) (by omega) (by omega) (fun f' q1 q2 => ⟨rfl, ⟨q1, q2⟩, rfl⟩)) hfd rfl rfl rfl (Nat.le_of_ble_eq_true rfl) rfl (Nat.le_of_ble_eq_true rfl) (Nat.le_of_ble_eq_true rfl) (Nat.le_of_ble_eq_true rfl) (fun f1 hq => ?_)
  obtain ⟨k1, hD⟩ := hq
  have hO1 : f1 (w + 111) = some (xOb 2 [.ref (w + 9), .ref (w + 112), .ref (w + 114), .ref (w + 116), .ref (w + 118)]) := by rw [k1 _ (by omega) (by omega)]; exact hO
  have hx1 : Nt f1 na nb x := hx.kept (k1 _ (by omega) (by omega)) (k1 _ (by omega) (by omega))
  have hP1 : Nt f1 (w + 9) (w + 10) P := hP.kept (k1 _ (by omega) (by omega)) (k1 _ (by omega) (by omega))
  have hN21 : Nt f1 (w + 114) (w + 115) x2 := hN2.kept (k1 _ (by omega) (by omega)) (k1 _ (by omega) (by omega))
  have hN31 : Nt f1 (w + 116) (w + 117) x3 := hN3.kept (k1 _ (by omega) (by omega)) (k1 _ (by omega) (by omega))
  obtain ⟨-, _, _, _, _, hfd1, -⟩ := id hD
  refine xgo O Rt xplX2_q xclX2_q [] 60 ?_
  simp (maxSteps := 10000000) (disch := omega) only [↓reduceIte, ↓xrun_s, ↓xck_e, xdo_e, xlg_0, xlg_c, xst1_0, xst1_1, xst1_c, xst2_0, xst2_1, xst2_c, xk2_n, xk2_i, xk2_a, xk2_l, xct_i, xct_a, xct_l, xf4_0, xf4_1, xf4_2, xf4_3, List.contains_cons, List.contains_nil, Bool.or_false, Bool.false_or, Bool.or_self, Bool.true_or, Bool.or_true, cond_true, cond_false, List.set_cons_zero, List.set_cons_succ, List.length_cons, List.length_nil, true_and, and_true, xu_s, xu_u, xeqs, Nat.le_refl, not_true_eq_false, xq_10, xq_01, Int32.reduceAdd, Int32.reduceMul, Int32.reduceSub, Int32.reduceLE, Int32.reduceLT, Int32.reduceToNatClampNeg, Nat.reduceAdd, Nat.reduceMul, Nat.reduceBEq, Nat.reduceLT, Nat.reduceLeDiff, Nat.reduceEqDiff, Nat.zero_add, Bool.false_eq_true, reduceCtorEq, if_false, if_true, not_false_eq_true, true_imp_iff, false_imp_iff, imp_self, ↓xil_e, ↓xll_e, ↓xal_e, ↓xs1i_e, ↓xs2i_e, ↓xs1l_e, ↓xs2l_e, ↓xsil_e, ↓xs1_e, ↓xs2_e, ↓xs1a_e, ↓xsia_e, ↓xsiia_e, ↓xslia_e, ↓xsaia_e, ↓xsva_e, ↓xse1i_e, ↓xse1l_e, ↓xse1a_e, ↓xse0_e, ↓xfv_0, ↓xfv_c, ↓xgf_e, ↓xpf_e, ↓xia_e, ↓xia_n, ↓xba_e, ↓xba_n, ↓xla_e, ↓xla_n, ↓xob_e, ↓xra_e, ↓xno_e, ↓xle_e, ↓xnr_i, ↓xnr_b0, ↓xnr_b1, ↓xnr_n, ↓xdo_e, ↓xkl_0, ↓xe_iconst, ↓xe_bipush, ↓xe_imul, ↓xe_ineg, ↓xe_iload_n, ↓xe_aload_n, ↓xe_getfield, ↓xe_ireturn, ↓xe_invokevirtual, dX2_nearest_0, dX2_nearest_1, dX2_nearest_4, dX2_nearest_5, dX2_nearest_8, dX2_nearest_11, dX2_nearest_12, dX2_nearest_15, dX2_nearest_16, dX2_nearest_18, dX2_nearest_19, dX2_nearest_20, dX2_nearest_23, dX2_nearest_24, dX2_nearest_27, dX2_nearest_28, dX2_nearest_31, dX2_nearest_34, dX2_nearest_35, dX2_nearest_38, dX2_nearest_39, dX2_nearest_42, dX2_nearest_43, dX2_nearest_46, dX2_nearest_47, dX2_nearest_50, dX2_nearest_51, dX2_nearest_54, dX2_nearest_57, dX2_nearest_58, xpX2_12, xpX2_18, xpX2_28, xkb_m2, xki_1, hO1]
  have mtwo : (-2 : Int32).toInt = -2 := rfl
  have ht : ((-2 : Int32) * m).toInt = -2 * m.toInt := by rw [n_mul (by rw [mtwo]; omega) (by rw [mtwo]; omega), mtwo]
  obtain ⟨t, et⟩ : ∃ t : Int32, t = (-2 : Int32) * m := ⟨_, rfl⟩
  rw [← et] at ht ⊢
  have hbm := mulb (a := m.toInt) (b := sz x) (A := 36) (B := 29243015907268149203883755326167580672) (by omega) (by omega) (by omega) (by omega)
  have hts : t.toInt * sz x = -2 * (m.toInt * sz x) := by rw [ht, Int.mul_assoc]
  have hdg : 2 * m.toInt * sz x = 2 * (m.toInt * sz x) := Int.mul_assoc ..
  refine xg_callVv (Qp := fun f' => (∀ q, q ≠ w + 112 → q ≠ w + 113 → f' q = f1 q) ∧ Nt f' (w + 112) (w + 113) (zadd P x t.toInt)) O dX2_nearest_20 xl_X2_42 xk_X1_addTimes (c_addTimes _ hD hx1 (by omega) (by omega) (by omega) (by omega) (by omega) (by omega) (by omega) (fun k hk => by have := hb k hk; omega) (fun k hk => by have := hbx k hk; omega) (fun f' q1 q2 => ⟨rfl, ⟨q1, q2⟩, rfl⟩)) hfd1 rfl rfl rfl (Nat.le_of_ble_eq_true rfl) rfl (Nat.le_of_ble_eq_true rfl) (Nat.le_of_ble_eq_true rfl) (Nat.le_of_ble_eq_true rfl) (fun f2 hq => ?_)
  obtain ⟨k2, hD2⟩ := hq
  have hO2 : f2 (w + 111) = some (xOb 2 [.ref (w + 9), .ref (w + 112), .ref (w + 114), .ref (w + 116), .ref (w + 118)]) := by rw [k2 _ (by omega) (by omega)]; exact hO1
  have hP2 : Nt f2 (w + 9) (w + 10) P := hP1.kept (k2 _ (by omega) (by omega)) (k2 _ (by omega) (by omega))
  have hN22 : Nt f2 (w + 114) (w + 115) x2 := hN21.kept (k2 _ (by omega) (by omega)) (k2 _ (by omega) (by omega))
  have hN32 : Nt f2 (w + 116) (w + 117) x3 := hN31.kept (k2 _ (by omega) (by omega)) (k2 _ (by omega) (by omega))
  obtain ⟨-, _, _, _, _, hfs2, -⟩ := id hN22
  refine xgo O Rt xplX2_q xclX2_q [] 60 ?_
  simp (maxSteps := 10000000) (disch := omega) only [↓reduceIte, ↓xrun_s, ↓xck_e, xdo_e, xlg_0, xlg_c, xst1_0, xst1_1, xst1_c, xst2_0, xst2_1, xst2_c, xk2_n, xk2_i, xk2_a, xk2_l, xct_i, xct_a, xct_l, xf4_0, xf4_1, xf4_2, xf4_3, List.contains_cons, List.contains_nil, Bool.or_false, Bool.false_or, Bool.or_self, Bool.true_or, Bool.or_true, cond_true, cond_false, List.set_cons_zero, List.set_cons_succ, List.length_cons, List.length_nil, true_and, and_true, xu_s, xu_u, xeqs, Nat.le_refl, not_true_eq_false, xq_10, xq_01, Int32.reduceAdd, Int32.reduceMul, Int32.reduceSub, Int32.reduceLE, Int32.reduceLT, Int32.reduceToNatClampNeg, Nat.reduceAdd, Nat.reduceMul, Nat.reduceBEq, Nat.reduceLT, Nat.reduceLeDiff, Nat.reduceEqDiff, Nat.zero_add, Bool.false_eq_true, reduceCtorEq, if_false, if_true, not_false_eq_true, true_imp_iff, false_imp_iff, imp_self, ↓xil_e, ↓xll_e, ↓xal_e, ↓xs1i_e, ↓xs2i_e, ↓xs1l_e, ↓xs2l_e, ↓xsil_e, ↓xs1_e, ↓xs2_e, ↓xs1a_e, ↓xsia_e, ↓xsiia_e, ↓xslia_e, ↓xsaia_e, ↓xsva_e, ↓xse1i_e, ↓xse1l_e, ↓xse1a_e, ↓xse0_e, ↓xfv_0, ↓xfv_c, ↓xgf_e, ↓xpf_e, ↓xia_e, ↓xia_n, ↓xba_e, ↓xba_n, ↓xla_e, ↓xla_n, ↓xob_e, ↓xra_e, ↓xno_e, ↓xle_e, ↓xnr_i, ↓xnr_b0, ↓xnr_b1, ↓xnr_n, ↓xdo_e, ↓xkl_0, ↓xe_iconst, ↓xe_bipush, ↓xe_imul, ↓xe_ineg, ↓xe_iload_n, ↓xe_aload_n, ↓xe_getfield, ↓xe_ireturn, ↓xe_invokevirtual, dX2_nearest_0, dX2_nearest_1, dX2_nearest_4, dX2_nearest_5, dX2_nearest_8, dX2_nearest_11, dX2_nearest_12, dX2_nearest_15, dX2_nearest_16, dX2_nearest_18, dX2_nearest_19, dX2_nearest_20, dX2_nearest_23, dX2_nearest_24, dX2_nearest_27, dX2_nearest_28, dX2_nearest_31, dX2_nearest_34, dX2_nearest_35, dX2_nearest_38, dX2_nearest_39, dX2_nearest_42, dX2_nearest_43, dX2_nearest_46, dX2_nearest_47, dX2_nearest_50, dX2_nearest_51, dX2_nearest_54, dX2_nearest_57, dX2_nearest_58, xpX2_12, xpX2_18, xpX2_28, xkb_m2, xki_1, hO2]
  refine xg_callVv (Qp := fun f' => (∀ q, q ≠ w + 114 → q ≠ w + 115 → f' q = f2 q) ∧ Nt f' (w + 114) (w + 115) P) O dX2_nearest_31 xl_X2_38 xk_X1_copyFrom (c_copyFrom _ hN22 hP2 (by omega) (by omega) (by omega) (fun f' q1 q2 => ⟨rfl, ⟨q1, q2⟩, rfl⟩)) hfs2 rfl rfl rfl (Nat.le_of_ble_eq_true rfl) rfl (Nat.le_of_ble_eq_true rfl) (Nat.le_of_ble_eq_true rfl) (Nat.le_of_ble_eq_true rfl) (fun f3 hq => ?_)
  obtain ⟨k3, hE⟩ := hq
  have hO3 : f3 (w + 111) = some (xOb 2 [.ref (w + 9), .ref (w + 112), .ref (w + 114), .ref (w + 116), .ref (w + 118)]) := by rw [k3 _ (by omega) (by omega)]; exact hO2
  have hP3 : Nt f3 (w + 9) (w + 10) P := hP2.kept (k3 _ (by omega) (by omega)) (k3 _ (by omega) (by omega))
  have hD3 : Nt f3 (w + 112) (w + 113) (zadd P x t.toInt) := hD2.kept (k3 _ (by omega) (by omega)) (k3 _ (by omega) (by omega))
  have hN33 : Nt f3 (w + 116) (w + 117) x3 := hN32.kept (k3 _ (by omega) (by omega)) (k3 _ (by omega) (by omega))
  obtain ⟨-, _, _, _, _, hfs3, -⟩ := id hE
  have one : (1 : Int32).toInt = 1 := rfl
  refine xgo O Rt xplX2_q xclX2_q [] 60 ?_
  simp (maxSteps := 10000000) (disch := omega) only [↓reduceIte, ↓xrun_s, ↓xck_e, xdo_e, xlg_0, xlg_c, xst1_0, xst1_1, xst1_c, xst2_0, xst2_1, xst2_c, xk2_n, xk2_i, xk2_a, xk2_l, xct_i, xct_a, xct_l, xf4_0, xf4_1, xf4_2, xf4_3, List.contains_cons, List.contains_nil, Bool.or_false, Bool.false_or, Bool.or_self, Bool.true_or, Bool.or_true, cond_true, cond_false, List.set_cons_zero, List.set_cons_succ, List.length_cons, List.length_nil, true_and, and_true, xu_s, xu_u, xeqs, Nat.le_refl, not_true_eq_false, xq_10, xq_01, Int32.reduceAdd, Int32.reduceMul, Int32.reduceSub, Int32.reduceLE, Int32.reduceLT, Int32.reduceToNatClampNeg, Nat.reduceAdd, Nat.reduceMul, Nat.reduceBEq, Nat.reduceLT, Nat.reduceLeDiff, Nat.reduceEqDiff, Nat.zero_add, Bool.false_eq_true, reduceCtorEq, if_false, if_true, not_false_eq_true, true_imp_iff, false_imp_iff, imp_self, ↓xil_e, ↓xll_e, ↓xal_e, ↓xs1i_e, ↓xs2i_e, ↓xs1l_e, ↓xs2l_e, ↓xsil_e, ↓xs1_e, ↓xs2_e, ↓xs1a_e, ↓xsia_e, ↓xsiia_e, ↓xslia_e, ↓xsaia_e, ↓xsva_e, ↓xse1i_e, ↓xse1l_e, ↓xse1a_e, ↓xse0_e, ↓xfv_0, ↓xfv_c, ↓xgf_e, ↓xpf_e, ↓xia_e, ↓xia_n, ↓xba_e, ↓xba_n, ↓xla_e, ↓xla_n, ↓xob_e, ↓xra_e, ↓xno_e, ↓xle_e, ↓xnr_i, ↓xnr_b0, ↓xnr_b1, ↓xnr_n, ↓xdo_e, ↓xkl_0, ↓xe_iconst, ↓xe_bipush, ↓xe_imul, ↓xe_ineg, ↓xe_iload_n, ↓xe_aload_n, ↓xe_getfield, ↓xe_ireturn, ↓xe_invokevirtual, dX2_nearest_0, dX2_nearest_1, dX2_nearest_4, dX2_nearest_5, dX2_nearest_8, dX2_nearest_11, dX2_nearest_12, dX2_nearest_15, dX2_nearest_16, dX2_nearest_18, dX2_nearest_19, dX2_nearest_20, dX2_nearest_23, dX2_nearest_24, dX2_nearest_27, dX2_nearest_28, dX2_nearest_31, dX2_nearest_34, dX2_nearest_35, dX2_nearest_38, dX2_nearest_39, dX2_nearest_42, dX2_nearest_43, dX2_nearest_46, dX2_nearest_47, dX2_nearest_50, dX2_nearest_51, dX2_nearest_54, dX2_nearest_57, dX2_nearest_58, xpX2_12, xpX2_18, xpX2_28, xkb_m2, xki_1, hO3]
  refine xg_callVv (Qp := fun f' => (∀ q, q ≠ w + 114 → q ≠ w + 115 → f' q = f3 q) ∧ Nt f' (w + 114) (w + 115) (zadd P P (1 : Int32).toInt)) O dX2_nearest_43 xl_X2_42 xk_X1_addTimes (c_addTimes _ hE hP3 (by omega) (by omega) (by omega) (by omega) (by rw [one]; omega) (by omega) (by rw [one]; omega) (fun k hk => by have := hb k hk; omega) (fun k hk => by have := hb k hk; omega) (fun f' q1 q2 => ⟨rfl, ⟨q1, q2⟩, rfl⟩)) hfs3 rfl rfl rfl (Nat.le_of_ble_eq_true rfl) rfl (Nat.le_of_ble_eq_true rfl) (Nat.le_of_ble_eq_true rfl) (Nat.le_of_ble_eq_true rfl) (fun f4 hq => ?_)
  obtain ⟨k4, hE4⟩ := hq
  have hO4 : f4 (w + 111) = some (xOb 2 [.ref (w + 9), .ref (w + 112), .ref (w + 114), .ref (w + 116), .ref (w + 118)]) := by rw [k4 _ (by omega) (by omega)]; exact hO3
  have hD4 : Nt f4 (w + 112) (w + 113) (zadd P x t.toInt) := hD3.kept (k4 _ (by omega) (by omega)) (k4 _ (by omega) (by omega))
  have hN34 : Nt f4 (w + 116) (w + 117) x3 := hN33.kept (k4 _ (by omega) (by omega)) (k4 _ (by omega) (by omega))
  obtain ⟨-, _, _, _, _, hfd4, -⟩ := id hD4
  have e1 : sz (zadd P x t.toInt) = sz P - 2 * (m.toInt * sz x) := by rw [sz_zadd, hts]; omega
  have e2 : sz (zadd P P (1 : Int32).toInt) = 2 * sz P := by rw [sz_zadd, one]; omega
  refine xgo O Rt xplX2_q xclX2_q [] 60 ?_
  simp (maxSteps := 10000000) (disch := omega) only [↓reduceIte, ↓xrun_s, ↓xck_e, xdo_e, xlg_0, xlg_c, xst1_0, xst1_1, xst1_c, xst2_0, xst2_1, xst2_c, xk2_n, xk2_i, xk2_a, xk2_l, xct_i, xct_a, xct_l, xf4_0, xf4_1, xf4_2, xf4_3, List.contains_cons, List.contains_nil, Bool.or_false, Bool.false_or, Bool.or_self, Bool.true_or, Bool.or_true, cond_true, cond_false, List.set_cons_zero, List.set_cons_succ, List.length_cons, List.length_nil, true_and, and_true, xu_s, xu_u, xeqs, Nat.le_refl, not_true_eq_false, xq_10, xq_01, Int32.reduceAdd, Int32.reduceMul, Int32.reduceSub, Int32.reduceLE, Int32.reduceLT, Int32.reduceToNatClampNeg, Nat.reduceAdd, Nat.reduceMul, Nat.reduceBEq, Nat.reduceLT, Nat.reduceLeDiff, Nat.reduceEqDiff, Nat.zero_add, Bool.false_eq_true, reduceCtorEq, if_false, if_true, not_false_eq_true, true_imp_iff, false_imp_iff, imp_self, ↓xil_e, ↓xll_e, ↓xal_e, ↓xs1i_e, ↓xs2i_e, ↓xs1l_e, ↓xs2l_e, ↓xsil_e, ↓xs1_e, ↓xs2_e, ↓xs1a_e, ↓xsia_e, ↓xsiia_e, ↓xslia_e, ↓xsaia_e, ↓xsva_e, ↓xse1i_e, ↓xse1l_e, ↓xse1a_e, ↓xse0_e, ↓xfv_0, ↓xfv_c, ↓xgf_e, ↓xpf_e, ↓xia_e, ↓xia_n, ↓xba_e, ↓xba_n, ↓xla_e, ↓xla_n, ↓xob_e, ↓xra_e, ↓xno_e, ↓xle_e, ↓xnr_i, ↓xnr_b0, ↓xnr_b1, ↓xnr_n, ↓xdo_e, ↓xkl_0, ↓xe_iconst, ↓xe_bipush, ↓xe_imul, ↓xe_ineg, ↓xe_iload_n, ↓xe_aload_n, ↓xe_getfield, ↓xe_ireturn, ↓xe_invokevirtual, dX2_nearest_0, dX2_nearest_1, dX2_nearest_4, dX2_nearest_5, dX2_nearest_8, dX2_nearest_11, dX2_nearest_12, dX2_nearest_15, dX2_nearest_16, dX2_nearest_18, dX2_nearest_19, dX2_nearest_20, dX2_nearest_23, dX2_nearest_24, dX2_nearest_27, dX2_nearest_28, dX2_nearest_31, dX2_nearest_34, dX2_nearest_35, dX2_nearest_38, dX2_nearest_39, dX2_nearest_42, dX2_nearest_43, dX2_nearest_46, dX2_nearest_47, dX2_nearest_50, dX2_nearest_51, dX2_nearest_54, dX2_nearest_57, dX2_nearest_58, xpX2_12, xpX2_18, xpX2_28, xkb_m2, xki_1, hO4]
  refine xg_callVi (Qp := fun r f' => r.toInt = tq (sz (zadd P x t.toInt)) (sz (zadd P P (1 : Int32).toInt)) ∧ f' = f4) O dX2_nearest_54 xl_X2_46 xk_X1_timesOf (c_timesOf _ hD4 hE4 (by rw [e1]; omega) (by rw [e2]; omega) (by rw [e1, e2]; omega) (fun r q => ⟨r, rfl, ⟨q, rfl⟩, rfl⟩)) hfd4 rfl rfl rfl (Nat.le_of_ble_eq_true rfl) rfl (Nat.le_of_ble_eq_true rfl) (Nat.le_of_ble_eq_true rfl) (Nat.le_of_ble_eq_true rfl) (fun r f1 hq => ?_)
  obtain ⟨hr, rfl⟩ := hq
  rw [e1, e2] at hr
  have hr2 : r.toInt = (sz P - 2 * (m.toInt * sz x)) / (2 * sz P) := by
    rw [hr]
    unfold tq
    rw [if_neg (by omega)]
  have d1 : -1024 ≤ r.toInt := by rw [hr2]; exact (Int.le_ediv_iff_mul_le (by omega)).mpr (by omega)
  have d2 : r.toInt < 1024 := by rw [hr2]; exact (Int.ediv_lt_iff_lt_mul (by omega)).mpr (by omega)
  refine xgo O Rt xplX2_q xclX2_q [] 60 ?_
  simp (maxSteps := 10000000) (disch := omega) only [↓reduceIte, ↓xrun_s, ↓xck_e, xdo_e, xlg_0, xlg_c, xst1_0, xst1_1, xst1_c, xst2_0, xst2_1, xst2_c, xk2_n, xk2_i, xk2_a, xk2_l, xct_i, xct_a, xct_l, xf4_0, xf4_1, xf4_2, xf4_3, List.contains_cons, List.contains_nil, Bool.or_false, Bool.false_or, Bool.or_self, Bool.true_or, Bool.or_true, cond_true, cond_false, List.set_cons_zero, List.set_cons_succ, List.length_cons, List.length_nil, true_and, and_true, xu_s, xu_u, xeqs, Nat.le_refl, not_true_eq_false, xq_10, xq_01, Int32.reduceAdd, Int32.reduceMul, Int32.reduceSub, Int32.reduceLE, Int32.reduceLT, Int32.reduceToNatClampNeg, Nat.reduceAdd, Nat.reduceMul, Nat.reduceBEq, Nat.reduceLT, Nat.reduceLeDiff, Nat.reduceEqDiff, Nat.zero_add, Bool.false_eq_true, reduceCtorEq, if_false, if_true, not_false_eq_true, true_imp_iff, false_imp_iff, imp_self, ↓xil_e, ↓xll_e, ↓xal_e, ↓xs1i_e, ↓xs2i_e, ↓xs1l_e, ↓xs2l_e, ↓xsil_e, ↓xs1_e, ↓xs2_e, ↓xs1a_e, ↓xsia_e, ↓xsiia_e, ↓xslia_e, ↓xsaia_e, ↓xsva_e, ↓xse1i_e, ↓xse1l_e, ↓xse1a_e, ↓xse0_e, ↓xfv_0, ↓xfv_c, ↓xgf_e, ↓xpf_e, ↓xia_e, ↓xia_n, ↓xba_e, ↓xba_n, ↓xla_e, ↓xla_n, ↓xob_e, ↓xra_e, ↓xno_e, ↓xle_e, ↓xnr_i, ↓xnr_b0, ↓xnr_b1, ↓xnr_n, ↓xdo_e, ↓xkl_0, ↓xe_iconst, ↓xe_bipush, ↓xe_imul, ↓xe_ineg, ↓xe_iload_n, ↓xe_aload_n, ↓xe_getfield, ↓xe_ireturn, ↓xe_invokevirtual, dX2_nearest_0, dX2_nearest_1, dX2_nearest_4, dX2_nearest_5, dX2_nearest_8, dX2_nearest_11, dX2_nearest_12, dX2_nearest_15, dX2_nearest_16, dX2_nearest_18, dX2_nearest_19, dX2_nearest_20, dX2_nearest_23, dX2_nearest_24, dX2_nearest_27, dX2_nearest_28, dX2_nearest_31, dX2_nearest_34, dX2_nearest_35, dX2_nearest_38, dX2_nearest_39, dX2_nearest_42, dX2_nearest_43, dX2_nearest_46, dX2_nearest_47, dX2_nearest_50, dX2_nearest_51, dX2_nearest_54, dX2_nearest_57, dX2_nearest_58, xpX2_12, xpX2_18, xpX2_28, xkb_m2, xki_1]
  refine hp (-r) _ ?_ ?_ ⟨⟨_, hD4⟩, ⟨_, hE4⟩, _, hN34⟩
  · rw [n_neg (by omega), hr2]
    unfold dg
    rw [hdg]
  · intro q hq
    rw [k4 q (by omega) (by omega), k3 q (by omega) (by omega), k2 q (by omega) (by omega), k1 q (by omega) (by omega)]
