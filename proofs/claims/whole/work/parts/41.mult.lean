/-! ===== Text.multiply, endsWithPeriod ===== -/
theorem dX4_multiply_0 : decode cX4_multiply 0 = .ok (.iload_n 1, 1) := by decide +kernel
theorem dX4_multiply_1 : decode cX4_multiply 1 = .ok (.istore 4, 2) := by decide +kernel
theorem dX4_multiply_3 : decode cX4_multiply 3 = .ok (.aload_n 0, 1) := by decide +kernel
theorem dX4_multiply_4 : decode cX4_multiply 4 = .ok (.getfield 27, 3) := by decide +kernel
theorem dX4_multiply_7 : decode cX4_multiply 7 = .ok (.iconst 1, 1) := by decide +kernel
theorem dX4_multiply_8 : decode cX4_multiply 8 = .ok (.isub, 1) := by decide +kernel
theorem dX4_multiply_9 : decode cX4_multiply 9 = .ok (.bipush 6, 2) := by decide +kernel
theorem dX4_multiply_11 : decode cX4_multiply 11 = .ok (.imul, 1) := by decide +kernel
theorem dX4_multiply_12 : decode cX4_multiply 12 = .ok (.istore 5, 2) := by decide +kernel
theorem dX4_multiply_14 : decode cX4_multiply 14 = .ok (.iconst 0, 1) := by decide +kernel
theorem dX4_multiply_15 : decode cX4_multiply 15 = .ok (.istore 6, 2) := by decide +kernel
theorem dX4_multiply_17 : decode cX4_multiply 17 = .ok (.iload 6, 2) := by decide +kernel
theorem dX4_multiply_19 : decode cX4_multiply 19 = .ok (.bipush 6, 2) := by decide +kernel
theorem dX4_multiply_21 : decode cX4_multiply 21 = .ok (.if_icmp .ge 67, 3) := by decide +kernel
theorem dX4_multiply_24 : decode cX4_multiply 24 = .ok (.iload 4, 2) := by decide +kernel
theorem dX4_multiply_26 : decode cX4_multiply 26 = .ok (.ifCond .le 62, 3) := by decide +kernel
theorem dX4_multiply_29 : decode cX4_multiply 29 = .ok (.getstatic 74, 3) := by decide +kernel
theorem dX4_multiply_32 : decode cX4_multiply 32 = .ok (.iload 6, 2) := by decide +kernel
theorem dX4_multiply_34 : decode cX4_multiply 34 = .ok (.iaload, 1) := by decide +kernel
theorem dX4_multiply_35 : decode cX4_multiply 35 = .ok (.istore 7, 2) := by decide +kernel
theorem dX4_multiply_37 : decode cX4_multiply 37 = .ok (.iconst 0, 1) := by decide +kernel
theorem dX4_multiply_38 : decode cX4_multiply 38 = .ok (.istore 8, 2) := by decide +kernel
theorem dX4_multiply_40 : decode cX4_multiply 40 = .ok (.iload 8, 2) := by decide +kernel
theorem dX4_multiply_42 : decode cX4_multiply 42 = .ok (.bipush 20, 2) := by decide +kernel
theorem dX4_multiply_44 : decode cX4_multiply 44 = .ok (.if_icmp .ge 38, 3) := by decide +kernel
theorem dX4_multiply_47 : decode cX4_multiply 47 = .ok (.iload 4, 2) := by decide +kernel
theorem dX4_multiply_49 : decode cX4_multiply 49 = .ok (.iload 7, 2) := by decide +kernel
theorem dX4_multiply_51 : decode cX4_multiply 51 = .ok (.irem, 1) := by decide +kernel
theorem dX4_multiply_52 : decode cX4_multiply 52 = .ok (.ifCond .ne 30, 3) := by decide +kernel
theorem dX4_multiply_55 : decode cX4_multiply 55 = .ok (.iload 4, 2) := by decide +kernel
theorem dX4_multiply_57 : decode cX4_multiply 57 = .ok (.iload 7, 2) := by decide +kernel
theorem dX4_multiply_59 : decode cX4_multiply 59 = .ok (.idiv, 1) := by decide +kernel
theorem dX4_multiply_60 : decode cX4_multiply 60 = .ok (.istore 4, 2) := by decide +kernel
theorem dX4_multiply_62 : decode cX4_multiply 62 = .ok (.aload_n 0, 1) := by decide +kernel
theorem dX4_multiply_63 : decode cX4_multiply 63 = .ok (.getfield 15, 3) := by decide +kernel
theorem dX4_multiply_66 : decode cX4_multiply 66 = .ok (.iload 5, 2) := by decide +kernel
theorem dX4_multiply_68 : decode cX4_multiply 68 = .ok (.iload 6, 2) := by decide +kernel
theorem dX4_multiply_70 : decode cX4_multiply 70 = .ok (.iadd, 1) := by decide +kernel
theorem dX4_multiply_71 : decode cX4_multiply 71 = .ok (.dup2, 1) := by decide +kernel
theorem dX4_multiply_72 : decode cX4_multiply 72 = .ok (.iaload, 1) := by decide +kernel
theorem dX4_multiply_73 : decode cX4_multiply 73 = .ok (.iload_n 2, 1) := by decide +kernel
theorem dX4_multiply_74 : decode cX4_multiply 74 = .ok (.iadd, 1) := by decide +kernel
theorem dX4_multiply_75 : decode cX4_multiply 75 = .ok (.iastore, 1) := by decide +kernel
theorem dX4_multiply_76 : decode cX4_multiply 76 = .ok (.iinc 8 1, 3) := by decide +kernel
theorem dX4_multiply_79 : decode cX4_multiply 79 = .ok (.goto (-39), 3) := by decide +kernel
theorem dX4_multiply_82 : decode cX4_multiply 82 = .ok (.iinc 6 1, 3) := by decide +kernel
theorem dX4_multiply_85 : decode cX4_multiply 85 = .ok (.goto (-68), 3) := by decide +kernel
theorem dX4_multiply_88 : decode cX4_multiply 88 = .ok (.iload 4, 2) := by decide +kernel
theorem dX4_multiply_90 : decode cX4_multiply 90 = .ok (.iconst 1, 1) := by decide +kernel
theorem dX4_multiply_91 : decode cX4_multiply 91 = .ok (.if_icmp .eq 9, 3) := by decide +kernel
theorem dX4_multiply_94 : decode cX4_multiply 94 = .ok (.aload_n 0, 1) := by decide +kernel
theorem dX4_multiply_95 : decode cX4_multiply 95 = .ok (.iconst 3, 1) := by decide +kernel
theorem dX4_multiply_96 : decode cX4_multiply 96 = .ok (.iload_n 3, 1) := by decide +kernel
theorem dX4_multiply_97 : decode cX4_multiply 97 = .ok (.invokevirtual 60, 3) := by decide +kernel
theorem dX4_multiply_100 : decode cX4_multiply 100 = .ok (.return_, 1) := by decide +kernel
theorem dX4_endsWithPeriod_0 : decode cX4_endsWithPeriod 0 = .ok (.aload_n 0, 1) := by decide +kernel
theorem dX4_endsWithPeriod_1 : decode cX4_endsWithPeriod 1 = .ok (.getfield 27, 3) := by decide +kernel
theorem dX4_endsWithPeriod_4 : decode cX4_endsWithPeriod 4 = .ok (.iconst 1, 1) := by decide +kernel
theorem dX4_endsWithPeriod_5 : decode cX4_endsWithPeriod 5 = .ok (.isub, 1) := by decide +kernel
theorem dX4_endsWithPeriod_6 : decode cX4_endsWithPeriod 6 = .ok (.bipush 6, 2) := by decide +kernel
theorem dX4_endsWithPeriod_8 : decode cX4_endsWithPeriod 8 = .ok (.imul, 1) := by decide +kernel
theorem dX4_endsWithPeriod_9 : decode cX4_endsWithPeriod 9 = .ok (.istore_n 1, 1) := by decide +kernel
theorem dX4_endsWithPeriod_10 : decode cX4_endsWithPeriod 10 = .ok (.iconst 1, 1) := by decide +kernel
theorem dX4_endsWithPeriod_11 : decode cX4_endsWithPeriod 11 = .ok (.istore_n 2, 1) := by decide +kernel
theorem dX4_endsWithPeriod_12 : decode cX4_endsWithPeriod 12 = .ok (.iconst 0, 1) := by decide +kernel
theorem dX4_endsWithPeriod_13 : decode cX4_endsWithPeriod 13 = .ok (.istore_n 3, 1) := by decide +kernel
theorem dX4_endsWithPeriod_14 : decode cX4_endsWithPeriod 14 = .ok (.iload_n 3, 1) := by decide +kernel
theorem dX4_endsWithPeriod_15 : decode cX4_endsWithPeriod 15 = .ok (.bipush 6, 2) := by decide +kernel
theorem dX4_endsWithPeriod_17 : decode cX4_endsWithPeriod 17 = .ok (.if_icmp .ge 50, 3) := by decide +kernel
theorem dX4_endsWithPeriod_20 : decode cX4_endsWithPeriod 20 = .ok (.aload_n 0, 1) := by decide +kernel
theorem dX4_endsWithPeriod_21 : decode cX4_endsWithPeriod 21 = .ok (.getfield 15, 3) := by decide +kernel
theorem dX4_endsWithPeriod_24 : decode cX4_endsWithPeriod 24 = .ok (.iload_n 1, 1) := by decide +kernel
theorem dX4_endsWithPeriod_25 : decode cX4_endsWithPeriod 25 = .ok (.iload_n 3, 1) := by decide +kernel
theorem dX4_endsWithPeriod_26 : decode cX4_endsWithPeriod 26 = .ok (.iadd, 1) := by decide +kernel
theorem dX4_endsWithPeriod_27 : decode cX4_endsWithPeriod 27 = .ok (.iaload, 1) := by decide +kernel
theorem dX4_endsWithPeriod_28 : decode cX4_endsWithPeriod 28 = .ok (.istore 4, 2) := by decide +kernel
theorem dX4_endsWithPeriod_30 : decode cX4_endsWithPeriod 30 = .ok (.iload 4, 2) := by decide +kernel
theorem dX4_endsWithPeriod_32 : decode cX4_endsWithPeriod 32 = .ok (.ifCond .ge 5, 3) := by decide +kernel
theorem dX4_endsWithPeriod_35 : decode cX4_endsWithPeriod 35 = .ok (.iconst 0, 1) := by decide +kernel
theorem dX4_endsWithPeriod_36 : decode cX4_endsWithPeriod 36 = .ok (.ireturn, 1) := by decide +kernel
theorem dX4_endsWithPeriod_37 : decode cX4_endsWithPeriod 37 = .ok (.iconst 0, 1) := by decide +kernel
theorem dX4_endsWithPeriod_38 : decode cX4_endsWithPeriod 38 = .ok (.istore 5, 2) := by decide +kernel
theorem dX4_endsWithPeriod_40 : decode cX4_endsWithPeriod 40 = .ok (.iload 5, 2) := by decide +kernel
theorem dX4_endsWithPeriod_42 : decode cX4_endsWithPeriod 42 = .ok (.iload 4, 2) := by decide +kernel
theorem dX4_endsWithPeriod_44 : decode cX4_endsWithPeriod 44 = .ok (.if_icmp .ge 17, 3) := by decide +kernel
theorem dX4_endsWithPeriod_47 : decode cX4_endsWithPeriod 47 = .ok (.iload_n 2, 1) := by decide +kernel
theorem dX4_endsWithPeriod_48 : decode cX4_endsWithPeriod 48 = .ok (.getstatic 74, 3) := by decide +kernel
theorem dX4_endsWithPeriod_51 : decode cX4_endsWithPeriod 51 = .ok (.iload_n 3, 1) := by decide +kernel
theorem dX4_endsWithPeriod_52 : decode cX4_endsWithPeriod 52 = .ok (.iaload, 1) := by decide +kernel
theorem dX4_endsWithPeriod_53 : decode cX4_endsWithPeriod 53 = .ok (.imul, 1) := by decide +kernel
theorem dX4_endsWithPeriod_54 : decode cX4_endsWithPeriod 54 = .ok (.istore_n 2, 1) := by decide +kernel
theorem dX4_endsWithPeriod_55 : decode cX4_endsWithPeriod 55 = .ok (.iinc 5 1, 3) := by decide +kernel
theorem dX4_endsWithPeriod_58 : decode cX4_endsWithPeriod 58 = .ok (.goto (-18), 3) := by decide +kernel
theorem dX4_endsWithPeriod_61 : decode cX4_endsWithPeriod 61 = .ok (.iinc 3 1, 3) := by decide +kernel
theorem dX4_endsWithPeriod_64 : decode cX4_endsWithPeriod 64 = .ok (.goto (-50), 3) := by decide +kernel
theorem dX4_endsWithPeriod_67 : decode cX4_endsWithPeriod 67 = .ok (.iload_n 2, 1) := by decide +kernel
theorem dX4_endsWithPeriod_68 : decode cX4_endsWithPeriod 68 = .ok (.iconst 2, 1) := by decide +kernel
theorem dX4_endsWithPeriod_69 : decode cX4_endsWithPeriod 69 = .ok (.if_icmp .lt 13, 3) := by decide +kernel
theorem dX4_endsWithPeriod_72 : decode cX4_endsWithPeriod 72 = .ok (.iload_n 2, 1) := by decide +kernel
theorem dX4_endsWithPeriod_73 : decode cX4_endsWithPeriod 73 = .ok (.bipush 13, 2) := by decide +kernel
theorem dX4_endsWithPeriod_75 : decode cX4_endsWithPeriod 75 = .ok (.if_icmp .gt 7, 3) := by decide +kernel
theorem dX4_endsWithPeriod_78 : decode cX4_endsWithPeriod 78 = .ok (.iconst 1, 1) := by decide +kernel
theorem dX4_endsWithPeriod_79 : decode cX4_endsWithPeriod 79 = .ok (.goto 4, 3) := by decide +kernel
theorem dX4_endsWithPeriod_82 : decode cX4_endsWithPeriod 82 = .ok (.iconst 0, 1) := by decide +kernel
theorem dX4_endsWithPeriod_83 : decode cX4_endsWithPeriod 83 = .ok (.ireturn, 1) := by decide +kernel
theorem prs_eq {k : Nat} (hk : k < 6) : xPrs k = nI (prm k) ∧ 2 ≤ prm k ∧ prm k ≤ 13 := by
  rcases (by omega : k = 0 ∨ k = 1 ∨ k = 2 ∨ k = 3 ∨ k = 4 ∨ k = 5) with rfl | rfl | rfl | rfl | rfl | rfl <;> exact ⟨rfl, by decide, by decide⟩
theorem pw_pos (p : Nat) : ∀ k v, 0 < v → 0 < (pw p k v).2 ∧ (pw p k v).2 ≤ v
  | 0, v, h => ⟨h, Nat.le_refl _⟩
  | k + 1, v, h => by
    simp only [pw]
    split
    · rename_i hm
      have hd : 0 < v / p := by
        rcases Nat.eq_zero_or_pos (v / p) with q | q
        · have := Nat.div_add_mod v p
          rw [q, hm] at this
          omega
        · exact q
      have := pw_pos p k (v / p) hd
      have h2 := Nat.div_le_self v p
      exact ⟨this.1, by omega⟩
    · exact ⟨h, Nat.le_refl _⟩
theorem pw_le (p : Nat) : ∀ k v, (pw p k v).1 ≤ k
  | 0, v => Nat.le_refl _
  | k + 1, v => by
    simp only [pw]
    split
    · have := pw_le p k (v / p); simp only; omega
    · simp
theorem rst_pos {v : Nat} (h : 0 < v) : ∀ k, 0 < rst v k ∧ rst v k ≤ v
  | 0 => ⟨h, Nat.le_refl _⟩
  | k + 1 => by
    have h1 := rst_pos h k
    have h2 := pw_pos (prm k) 20 (rst v k) h1.1
    simp only [rst]
    omega
def mulK (pt : Nat → xZ) (r v : Nat) (s : Int) (k i : Nat) : Nat → xZ := fun j q => if j = r then (if q < k then pt j q + s * (mlt v q : Int) else if q = k then pt j q + s * (i : Int) else pt j q) else pt j q
theorem mulK_next (pt : Nat → xZ) (r v : Nat) (s : Int) (k j q : Nat) : mulK pt r v s k (mlt v k) j q = mulK pt r v s (k + 1) 0 j q := by
  simp only [mulK]
  by_cases e : j = r
  · rw [if_pos e, if_pos e]
    by_cases e1 : q < k
    · rw [if_pos e1, if_pos (by omega)]
    · rw [if_neg e1]
      by_cases e2 : q = k
      · rw [if_pos e2, if_pos (by omega), e2]
      · rw [if_neg e2, if_neg (by omega)]
        by_cases e3 : q = k + 1
        · rw [if_pos e3]; simp
        · rw [if_neg e3]
  · rw [if_neg e, if_neg e]
set_option maxRecDepth 100000 in
set_option maxHeartbeats 8000000 in
theorem c_multiply (V : xV) {w z c v at' : Nat} {f : xH} {s a2 a4 a5 a6 a7 a8 : Int32} {g : Nat → Int32} {pt : Nat → xZ} {post : Option Value → xH → Nat → Prop} (hT : f (w + 1) = some (xTx w a2 (nI c) a4 a5 a6 a7 a8)) (hg : f (w + 3) = some (xI 144 g)) (hc1 : 1 ≤ c) (hc : c ≤ 24) (hpt : Pit g pt c) (hv : v ≤ 999999) (hs : s.toInt = 1 ∨ s.toInt = -1) (hb : ∀ k, k < 6 → -100 ≤ pt (c - 1) k ∧ pt (c - 1) k ≤ 100)
    (hp1 : ∀ g', rst v 6 = 1 → Pit g' (mulP pt (c - 1) v s.toInt) c → post none (xu f (w + 3) (xI 144 g')) z) (hp0 : ∀ g', rst v 6 ≠ 1 → post none (xu (xu f (w + 3) (xI 144 g')) (w + 1) (xTx w a2 (nI c) 3 (nI at') a6 a7 a8)) z) :
    xMet V yX4_multiply cX4_multiply 9 none 2 0 0 [.ref (w + 1), .int (nI v), .int s, .int (nI at')] f z post := by
  refine xMet_of false (by decide) (Nat.le_of_ble_eq_true rfl) (fun h => by cases h) (fun X hX O Rt => ?_)
  have O : xO X cX4_multiply 9 RX4 2 0 0 false := O
  show xG X 0 [some (.ref (w + 1)), some (.int (nI v)), some (.int s), some (.int (nI at')), none, none, none, none, none] [] f (z, 0, 0)
  have six : (6 : Int32).toInt = 6 := rfl
  have c20 : (20 : Int32).toInt = 20 := rfl
  have e1 : (1 : Int32) = nI 1 := rfl
  have u1 : ∀ e2, xu f (w + 3) e2 (w + 1) = f (w + 1) := fun e2 => xu_n (by omega)
  have fin : ∀ g' R u6 u7 u8, R = rst v 6 → R ≤ 999999 → (rst v 6 = 1 → Pit g' (mulP pt (c - 1) v s.toInt) c) → xG X 88 [some (.ref (w + 1)), some (.int (nI v)), some (.int s), some (.int (nI at')), some (.int (nI R)), some (.int (nI ((c - 1) * 6))), u6, u7, u8] [] (xu f (w + 3) (xI 144 g')) (z, 0, 0) := by
    intro g' R u6 u7 u8 hR hR2 hP
    refine xgo O Rt xplX4_q xclX4_q [17, 40, 88] 30 ?_
    simp (maxSteps := 10000000) (disch := omega) only [↓reduceIte, ↓xrun_s, ↓xck_e, xdo_e, xlg_0, xlg_c, xst1_0, xst1_1, xst1_c, xst2_0, xst2_1, xst2_c, xk2_n, xk2_i, xk2_a, xk2_l, xct_i, xct_a, xct_l, xf4_0, xf4_1, xf4_2, xf4_3, List.contains_cons, List.contains_nil, Bool.or_false, Bool.false_or, Bool.or_self, Bool.true_or, Bool.or_true, cond_true, cond_false, List.set_cons_zero, List.set_cons_succ, List.length_cons, List.length_nil, true_and, and_true, xu_s, xu_u, xeqs, Nat.le_refl, not_true_eq_false, xq_10, xq_01, Int32.reduceAdd, Int32.reduceMul, Int32.reduceSub, Int32.reduceLE, Int32.reduceLT, Int32.reduceToNatClampNeg, Nat.reduceAdd, Nat.reduceMul, Nat.reduceBEq, Nat.reduceLT, Nat.reduceLeDiff, Nat.reduceEqDiff, Nat.zero_add, Bool.false_eq_true, reduceCtorEq, if_false, if_true, not_false_eq_true, true_imp_iff, false_imp_iff, imp_self, ↓xil_e, ↓xll_e, ↓xal_e, ↓xs1i_e, ↓xs2i_e, ↓xs1l_e, ↓xs2l_e, ↓xsil_e, ↓xs1_e, ↓xs2_e, ↓xs1a_e, ↓xsia_e, ↓xsiia_e, ↓xslia_e, ↓xsaia_e, ↓xsva_e, ↓xse1i_e, ↓xse1l_e, ↓xse1a_e, ↓xse0_e, ↓xfv_0, ↓xfv_c, ↓xgf_e, ↓xpf_e, ↓xia_e, ↓xia_n, ↓xba_e, ↓xba_n, ↓xla_e, ↓xla_n, ↓xob_e, ↓xra_e, ↓xno_e, ↓xle_e, ↓xnr_i, ↓xnr_b0, ↓xnr_b1, ↓xnr_n, ↓xdo_e, ↓xkl_0, ↓xe_iconst, ↓xe_bipush, ↓xe_iadd, ↓xe_isub, ↓xe_imul, ↓xe_idiv, ↓xe_irem, ↓xe_dup2, ↓xe_iload, ↓xe_iload_n, ↓xe_aload_n, ↓xe_istore, ↓xe_iinc, ↓xe_goto, ↓xe_getfield, ↓xe_iaload, ↓xe_iastore, ↓xe_return_, ↓xe_icmp_eq, ↓xe_if_ne, ↓xe_icmp_ge, ↓xe_if_le, ↓xe_invokevirtual, ↓xe_getstatic, dX4_multiply_0, dX4_multiply_1, dX4_multiply_3, dX4_multiply_4, dX4_multiply_7, dX4_multiply_8, dX4_multiply_9, dX4_multiply_11, dX4_multiply_12, dX4_multiply_14, dX4_multiply_15, dX4_multiply_17, dX4_multiply_19, dX4_multiply_21, dX4_multiply_24, dX4_multiply_26, dX4_multiply_29, dX4_multiply_32, dX4_multiply_34, dX4_multiply_35, dX4_multiply_37, dX4_multiply_38, dX4_multiply_40, dX4_multiply_42, dX4_multiply_44, dX4_multiply_47, dX4_multiply_49, dX4_multiply_51, dX4_multiply_52, dX4_multiply_55, dX4_multiply_57, dX4_multiply_59, dX4_multiply_60, dX4_multiply_62, dX4_multiply_63, dX4_multiply_66, dX4_multiply_68, dX4_multiply_70, dX4_multiply_71, dX4_multiply_72, dX4_multiply_73, dX4_multiply_74, dX4_multiply_75, dX4_multiply_76, dX4_multiply_79, dX4_multiply_82, dX4_multiply_85, dX4_multiply_88, dX4_multiply_90, dX4_multiply_91, dX4_multiply_94, dX4_multiply_95, dX4_multiply_96, dX4_multiply_97, dX4_multiply_100, xpX4_15, xpX4_27, xkb_20, xkb_6, xki_0, xki_1, xki_3, xt_21_67, xtc_21_67, xt_26_62, xtc_26_62, xt_44_38, xtc_44_38, xt_52_30, xtc_52_30, xt_79_m39, xtc_79_m39, xt_85_m68, xtc_85_m68, xt_91_9, xtc_91_9]
    refine ⟨fun q => ?_, fun q => ?_⟩
    · rw [e1, nI_eq (by omega) (by omega)] at q
      exact hp1 g' (by omega) (hP (by omega))
    · rw [e1, nI_eq (by omega) (by omega)] at q
      have hT2 : xu f (w + 3) (xI 144 g') (w + 1) = some (xTx w a2 (nI c) a4 a5 a6 a7 a8) := by rw [u1]; exact hT
      refine xg_callVv (Qp := fun f' => f' = xu (xu f (w + 3) (xI 144 g')) (w + 1) (xTx w a2 (nI c) 3 (nI at') a6 a7 a8)) O dX4_multiply_97 xl_X4_60 xk_X4_refuse (c_refuse _ hT2 ⟨rfl, rfl, rfl⟩) hT2 rfl rfl rfl (Nat.le_of_ble_eq_true rfl) rfl (Nat.le_of_ble_eq_true rfl) (Nat.le_of_ble_eq_true rfl) (Nat.le_of_ble_eq_true rfl) (fun f1 hq => ?_)
      subst hq
      refine xgo O Rt xplX4_q xclX4_q [17, 40, 88] 30 ?_
      simp (maxSteps := 10000000) (disch := omega) only [↓reduceIte, ↓xrun_s, ↓xck_e, xdo_e, xlg_0, xlg_c, xst1_0, xst1_1, xst1_c, xst2_0, xst2_1, xst2_c, xk2_n, xk2_i, xk2_a, xk2_l, xct_i, xct_a, xct_l, xf4_0, xf4_1, xf4_2, xf4_3, List.contains_cons, List.contains_nil, Bool.or_false, Bool.false_or, Bool.or_self, Bool.true_or, Bool.or_true, cond_true, cond_false, List.set_cons_zero, List.set_cons_succ, List.length_cons, List.length_nil, true_and, and_true, xu_s, xu_u, xeqs, Nat.le_refl, not_true_eq_false, xq_10, xq_01, Int32.reduceAdd, Int32.reduceMul, Int32.reduceSub, Int32.reduceLE, Int32.reduceLT, Int32.reduceToNatClampNeg, Nat.reduceAdd, Nat.reduceMul, Nat.reduceBEq, Nat.reduceLT, Nat.reduceLeDiff, Nat.reduceEqDiff, Nat.zero_add, Bool.false_eq_true, reduceCtorEq, if_false, if_true, not_false_eq_true, true_imp_iff, false_imp_iff, imp_self, ↓xil_e, ↓xll_e, ↓xal_e, ↓xs1i_e, ↓xs2i_e, ↓xs1l_e, ↓xs2l_e, ↓xsil_e, ↓xs1_e, ↓xs2_e, ↓xs1a_e, ↓xsia_e, ↓xsiia_e, ↓xslia_e, ↓xsaia_e, ↓xsva_e, ↓xse1i_e, ↓xse1l_e, ↓xse1a_e, ↓xse0_e, ↓xfv_0, ↓xfv_c, ↓xgf_e, ↓xpf_e, ↓xia_e, ↓xia_n, ↓xba_e, ↓xba_n, ↓xla_e, ↓xla_n, ↓xob_e, ↓xra_e, ↓xno_e, ↓xle_e, ↓xnr_i, ↓xnr_b0, ↓xnr_b1, ↓xnr_n, ↓xdo_e, ↓xkl_0, ↓xe_iconst, ↓xe_bipush, ↓xe_iadd, ↓xe_isub, ↓xe_imul, ↓xe_idiv, ↓xe_irem, ↓xe_dup2, ↓xe_iload, ↓xe_iload_n, ↓xe_aload_n, ↓xe_istore, ↓xe_iinc, ↓xe_goto, ↓xe_getfield, ↓xe_iaload, ↓xe_iastore, ↓xe_return_, ↓xe_icmp_eq, ↓xe_if_ne, ↓xe_icmp_ge, ↓xe_if_le, ↓xe_invokevirtual, ↓xe_getstatic, dX4_multiply_0, dX4_multiply_1, dX4_multiply_3, dX4_multiply_4, dX4_multiply_7, dX4_multiply_8, dX4_multiply_9, dX4_multiply_11, dX4_multiply_12, dX4_multiply_14, dX4_multiply_15, dX4_multiply_17, dX4_multiply_19, dX4_multiply_21, dX4_multiply_24, dX4_multiply_26, dX4_multiply_29, dX4_multiply_32, dX4_multiply_34, dX4_multiply_35, dX4_multiply_37, dX4_multiply_38, dX4_multiply_40, dX4_multiply_42, dX4_multiply_44, dX4_multiply_47, dX4_multiply_49, dX4_multiply_51, dX4_multiply_52, dX4_multiply_55, dX4_multiply_57, dX4_multiply_59, dX4_multiply_60, dX4_multiply_62, dX4_multiply_63, dX4_multiply_66, dX4_multiply_68, dX4_multiply_70, dX4_multiply_71, dX4_multiply_72, dX4_multiply_73, dX4_multiply_74, dX4_multiply_75, dX4_multiply_76, dX4_multiply_79, dX4_multiply_82, dX4_multiply_85, dX4_multiply_88, dX4_multiply_90, dX4_multiply_91, dX4_multiply_94, dX4_multiply_95, dX4_multiply_96, dX4_multiply_97, dX4_multiply_100, xpX4_15, xpX4_27, xkb_20, xkb_6, xki_0, xki_1, xki_3, xt_21_67, xtc_21_67, xt_26_62, xtc_26_62, xt_44_38, xtc_44_38, xt_52_30, xtc_52_30, xt_79_m39, xtc_79_m39, xt_85_m68, xtc_85_m68, xt_91_9, xtc_91_9]
      exact hp0 g' (by omega)
  have cm1 : nI c - 1 = nI (c - 1) := pk_sub (b := 1) hc1
  have c6 : nI (c - 1) * 6 = nI ((c - 1) * 6) := pk_mul _ 6
  by_cases hv0 : v = 0
  · subst hv0
    have hz : (nI 0 ≤ 0) = True := eq_true (by decide)
    have r0 : rst 0 6 = 0 := by decide
    refine xgo O Rt xplX4_q xclX4_q [88] 60 ?_
    simp (maxSteps := 10000000) (disch := omega) only [↓reduceIte, ↓xrun_s, ↓xck_e, xdo_e, xlg_0, xlg_c, xst1_0, xst1_1, xst1_c, xst2_0, xst2_1, xst2_c, xk2_n, xk2_i, xk2_a, xk2_l, xct_i, xct_a, xct_l, xf4_0, xf4_1, xf4_2, xf4_3, List.contains_cons, List.contains_nil, Bool.or_false, Bool.false_or, Bool.or_self, Bool.true_or, Bool.or_true, cond_true, cond_false, List.set_cons_zero, List.set_cons_succ, List.length_cons, List.length_nil, true_and, and_true, xu_s, xu_u, xeqs, Nat.le_refl, not_true_eq_false, xq_10, xq_01, Int32.reduceAdd, Int32.reduceMul, Int32.reduceSub, Int32.reduceLE, Int32.reduceLT, Int32.reduceToNatClampNeg, Nat.reduceAdd, Nat.reduceMul, Nat.reduceBEq, Nat.reduceLT, Nat.reduceLeDiff, Nat.reduceEqDiff, Nat.zero_add, Bool.false_eq_true, reduceCtorEq, if_false, if_true, not_false_eq_true, true_imp_iff, false_imp_iff, imp_self, ↓xil_e, ↓xll_e, ↓xal_e, ↓xs1i_e, ↓xs2i_e, ↓xs1l_e, ↓xs2l_e, ↓xsil_e, ↓xs1_e, ↓xs2_e, ↓xs1a_e, ↓xsia_e, ↓xsiia_e, ↓xslia_e, ↓xsaia_e, ↓xsva_e, ↓xse1i_e, ↓xse1l_e, ↓xse1a_e, ↓xse0_e, ↓xfv_0, ↓xfv_c, ↓xgf_e, ↓xpf_e, ↓xia_e, ↓xia_n, ↓xba_e, ↓xba_n, ↓xla_e, ↓xla_n, ↓xob_e, ↓xra_e, ↓xno_e, ↓xle_e, ↓xnr_i, ↓xnr_b0, ↓xnr_b1, ↓xnr_n, ↓xdo_e, ↓xkl_0, ↓xe_iconst, ↓xe_bipush, ↓xe_iadd, ↓xe_isub, ↓xe_imul, ↓xe_idiv, ↓xe_irem, ↓xe_dup2, ↓xe_iload, ↓xe_iload_n, ↓xe_aload_n, ↓xe_istore, ↓xe_iinc, ↓xe_goto, ↓xe_getfield, ↓xe_iaload, ↓xe_iastore, ↓xe_return_, ↓xe_icmp_eq, ↓xe_if_ne, ↓xe_icmp_ge, ↓xe_if_le, ↓xe_invokevirtual, ↓xe_getstatic, dX4_multiply_0, dX4_multiply_1, dX4_multiply_3, dX4_multiply_4, dX4_multiply_7, dX4_multiply_8, dX4_multiply_9, dX4_multiply_11, dX4_multiply_12, dX4_multiply_14, dX4_multiply_15, dX4_multiply_17, dX4_multiply_19, dX4_multiply_21, dX4_multiply_24, dX4_multiply_26, dX4_multiply_29, dX4_multiply_32, dX4_multiply_34, dX4_multiply_35, dX4_multiply_37, dX4_multiply_38, dX4_multiply_40, dX4_multiply_42, dX4_multiply_44, dX4_multiply_47, dX4_multiply_49, dX4_multiply_51, dX4_multiply_52, dX4_multiply_55, dX4_multiply_57, dX4_multiply_59, dX4_multiply_60, dX4_multiply_62, dX4_multiply_63, dX4_multiply_66, dX4_multiply_68, dX4_multiply_70, dX4_multiply_71, dX4_multiply_72, dX4_multiply_73, dX4_multiply_74, dX4_multiply_75, dX4_multiply_76, dX4_multiply_79, dX4_multiply_82, dX4_multiply_85, dX4_multiply_88, dX4_multiply_90, dX4_multiply_91, dX4_multiply_94, dX4_multiply_95, dX4_multiply_96, dX4_multiply_97, dX4_multiply_100, xpX4_15, xpX4_27, xkb_20, xkb_6, xki_0, xki_1, xki_3, hT, cm1, c6, hz, xt_21_67, xtc_21_67, xt_26_62, xtc_26_62, xt_44_38, xtc_44_38, xt_52_30, xtc_52_30, xt_79_m39, xtc_79_m39, xt_85_m68, xtc_85_m68, xt_91_9, xtc_91_9]
    have := fin g 0 (some (.int 0)) none none r0.symm (by omega) (fun q => by omega)
    rw [xu_id hg] at this
    exact this
  have hvp : 0 < v := by omega
  have outer : ∀ k i, i + k = 6 → ∀ g' u7 u8, Pit g' (mulK pt (c - 1) v s.toInt i 0) c → xG X 17 [some (.ref (w + 1)), some (.int (nI v)), some (.int s), some (.int (nI at')), some (.int (nI (rst v i))), some (.int (nI ((c - 1) * 6))), some (.int (nI i)), u7, u8] [] (xu f (w + 3) (xI 144 g')) (z, 0, 0) := by
    intro k
    induction k with
    | zero =>
      intro i hi g' u7 u8 hP
      have hi6 : i = 6 := by omega
      subst hi6
      have hti : (nI 6).toInt = 6 := rfl
      have hr := rst_pos hvp 6
      refine xgo O Rt xplX4_q xclX4_q [17, 40, 88] 30 ?_
      simp (maxSteps := 10000000) (disch := omega) only [↓reduceIte, ↓xrun_s, ↓xck_e, xdo_e, xlg_0, xlg_c, xst1_0, xst1_1, xst1_c, xst2_0, xst2_1, xst2_c, xk2_n, xk2_i, xk2_a, xk2_l, xct_i, xct_a, xct_l, xf4_0, xf4_1, xf4_2, xf4_3, List.contains_cons, List.contains_nil, Bool.or_false, Bool.false_or, Bool.or_self, Bool.true_or, Bool.or_true, cond_true, cond_false, List.set_cons_zero, List.set_cons_succ, List.length_cons, List.length_nil, true_and, and_true, xu_s, xu_u, xeqs, Nat.le_refl, not_true_eq_false, xq_10, xq_01, Int32.reduceAdd, Int32.reduceMul, Int32.reduceSub, Int32.reduceLE, Int32.reduceLT, Int32.reduceToNatClampNeg, Nat.reduceAdd, Nat.reduceMul, Nat.reduceBEq, Nat.reduceLT, Nat.reduceLeDiff, Nat.reduceEqDiff, Nat.zero_add, Bool.false_eq_true, reduceCtorEq, if_false, if_true, not_false_eq_true, true_imp_iff, false_imp_iff, imp_self, ↓xil_e, ↓xll_e, ↓xal_e, ↓xs1i_e, ↓xs2i_e, ↓xs1l_e, ↓xs2l_e, ↓xsil_e, ↓xs1_e, ↓xs2_e, ↓xs1a_e, ↓xsia_e, ↓xsiia_e, ↓xslia_e, ↓xsaia_e, ↓xsva_e, ↓xse1i_e, ↓xse1l_e, ↓xse1a_e, ↓xse0_e, ↓xfv_0, ↓xfv_c, ↓xgf_e, ↓xpf_e, ↓xia_e, ↓xia_n, ↓xba_e, ↓xba_n, ↓xla_e, ↓xla_n, ↓xob_e, ↓xra_e, ↓xno_e, ↓xle_e, ↓xnr_i, ↓xnr_b0, ↓xnr_b1, ↓xnr_n, ↓xdo_e, ↓xkl_0, ↓xe_iconst, ↓xe_bipush, ↓xe_iadd, ↓xe_isub, ↓xe_imul, ↓xe_idiv, ↓xe_irem, ↓xe_dup2, ↓xe_iload, ↓xe_iload_n, ↓xe_aload_n, ↓xe_istore, ↓xe_iinc, ↓xe_goto, ↓xe_getfield, ↓xe_iaload, ↓xe_iastore, ↓xe_return_, ↓xe_icmp_eq, ↓xe_if_ne, ↓xe_icmp_ge, ↓xe_if_le, ↓xe_invokevirtual, ↓xe_getstatic, dX4_multiply_0, dX4_multiply_1, dX4_multiply_3, dX4_multiply_4, dX4_multiply_7, dX4_multiply_8, dX4_multiply_9, dX4_multiply_11, dX4_multiply_12, dX4_multiply_14, dX4_multiply_15, dX4_multiply_17, dX4_multiply_19, dX4_multiply_21, dX4_multiply_24, dX4_multiply_26, dX4_multiply_29, dX4_multiply_32, dX4_multiply_34, dX4_multiply_35, dX4_multiply_37, dX4_multiply_38, dX4_multiply_40, dX4_multiply_42, dX4_multiply_44, dX4_multiply_47, dX4_multiply_49, dX4_multiply_51, dX4_multiply_52, dX4_multiply_55, dX4_multiply_57, dX4_multiply_59, dX4_multiply_60, dX4_multiply_62, dX4_multiply_63, dX4_multiply_66, dX4_multiply_68, dX4_multiply_70, dX4_multiply_71, dX4_multiply_72, dX4_multiply_73, dX4_multiply_74, dX4_multiply_75, dX4_multiply_76, dX4_multiply_79, dX4_multiply_82, dX4_multiply_85, dX4_multiply_88, dX4_multiply_90, dX4_multiply_91, dX4_multiply_94, dX4_multiply_95, dX4_multiply_96, dX4_multiply_97, dX4_multiply_100, xpX4_15, xpX4_27, xkb_20, xkb_6, xki_0, xki_1, xki_3, n_le, six, hti, xt_21_67, xtc_21_67, xt_26_62, xtc_26_62, xt_44_38, xtc_44_38, xt_52_30, xtc_52_30, xt_79_m39, xtc_79_m39, xt_85_m68, xtc_85_m68, xt_91_9, xtc_91_9]
      refine ⟨fun _ => fin g' _ _ u7 u8 rfl (by omega) (fun _ j q hj hq => ?_), fun q => absurd (by omega) q⟩
      rw [hP j q hj hq]
      simp only [mulK, mulP, if_pos hq]
    | succ k ih =>
      intro i hi g' u7 u8 hP
      have hti : (nI i).toInt = (i : Int) := nI_toInt (by omega)
      have hr := rst_pos hvp i
      have hr0 : ((nI (rst v i)).toInt ≤ (0 : Int32).toInt) = False := eq_false (fun q => nI_nle hr.1 (by omega) ((n_le _ _).mpr q))
      obtain ⟨hpr, hp2, hp13⟩ := prs_eq (k := i) (by omega)
      have ni : nI i + 1 = nI (i + 1) := nI_1 i
      have nri : nI ((c - 1) * 6) + nI i = nI ((c - 1) * 6 + i) := nI_add _ _
      have v0 : vp_in (nI ((c - 1) * 6 + i)) 144 := vp_in_nI (by omega) (by omega)
      have v1 : (nI ((c - 1) * 6 + i)).toNatClampNeg = (c - 1) * 6 + i := nI_clamp (by omega)
      have hp0n : (nI (prm i) = 0) = False := eq_false (nI_ne0 (by omega) (by omega))
      have inner : ∀ m j, j + m = 20 → ∀ R g', 0 < R → R ≤ 999999 → mlt v i = j + (pw (prm i) m R).1 → rst v (i + 1) = (pw (prm i) m R).2 → Pit g' (mulK pt (c - 1) v s.toInt i j) c → xG X 40 [some (.ref (w + 1)), some (.int (nI v)), some (.int s), some (.int (nI at')), some (.int (nI R)), some (.int (nI ((c - 1) * 6))), some (.int (nI i)), some (.int (nI (prm i))), some (.int (nI j))] [] (xu f (w + 3) (xI 144 g')) (z, 0, 0) := by
        intro m
        induction m with
        | zero =>
          intro j hj R g' h1 h2 h3 h4 h5
          have htj : (nI j).toInt = 20 := by rw [nI_toInt (by omega)]; omega
          refine xgo O Rt xplX4_q xclX4_q [17, 40, 88] 30 ?_
          simp (maxSteps := 10000000) (disch := omega) only [↓reduceIte, ↓xrun_s, ↓xck_e, xdo_e, xlg_0, xlg_c, xst1_0, xst1_1, xst1_c, xst2_0, xst2_1, xst2_c, xk2_n, xk2_i, xk2_a, xk2_l, xct_i, xct_a, xct_l, xf4_0, xf4_1, xf4_2, xf4_3, List.contains_cons, List.contains_nil, Bool.or_false, Bool.false_or, Bool.or_self, Bool.true_or, Bool.or_true, cond_true, cond_false, List.set_cons_zero, List.set_cons_succ, List.length_cons, List.length_nil, true_and, and_true, xu_s, xu_u, xeqs, Nat.le_refl, not_true_eq_false, xq_10, xq_01, Int32.reduceAdd, Int32.reduceMul, Int32.reduceSub, Int32.reduceLE, Int32.reduceLT, Int32.reduceToNatClampNeg, Nat.reduceAdd, Nat.reduceMul, Nat.reduceBEq, Nat.reduceLT, Nat.reduceLeDiff, Nat.reduceEqDiff, Nat.zero_add, Bool.false_eq_true, reduceCtorEq, if_false, if_true, not_false_eq_true, true_imp_iff, false_imp_iff, imp_self, ↓xil_e, ↓xll_e, ↓xal_e, ↓xs1i_e, ↓xs2i_e, ↓xs1l_e, ↓xs2l_e, ↓xsil_e, ↓xs1_e, ↓xs2_e, ↓xs1a_e, ↓xsia_e, ↓xsiia_e, ↓xslia_e, ↓xsaia_e, ↓xsva_e, ↓xse1i_e, ↓xse1l_e, ↓xse1a_e, ↓xse0_e, ↓xfv_0, ↓xfv_c, ↓xgf_e, ↓xpf_e, ↓xia_e, ↓xia_n, ↓xba_e, ↓xba_n, ↓xla_e, ↓xla_n, ↓xob_e, ↓xra_e, ↓xno_e, ↓xle_e, ↓xnr_i, ↓xnr_b0, ↓xnr_b1, ↓xnr_n, ↓xdo_e, ↓xkl_0, ↓xe_iconst, ↓xe_bipush, ↓xe_iadd, ↓xe_isub, ↓xe_imul, ↓xe_idiv, ↓xe_irem, ↓xe_dup2, ↓xe_iload, ↓xe_iload_n, ↓xe_aload_n, ↓xe_istore, ↓xe_iinc, ↓xe_goto, ↓xe_getfield, ↓xe_iaload, ↓xe_iastore, ↓xe_return_, ↓xe_icmp_eq, ↓xe_if_ne, ↓xe_icmp_ge, ↓xe_if_le, ↓xe_invokevirtual, ↓xe_getstatic, dX4_multiply_0, dX4_multiply_1, dX4_multiply_3, dX4_multiply_4, dX4_multiply_7, dX4_multiply_8, dX4_multiply_9, dX4_multiply_11, dX4_multiply_12, dX4_multiply_14, dX4_multiply_15, dX4_multiply_17, dX4_multiply_19, dX4_multiply_21, dX4_multiply_24, dX4_multiply_26, dX4_multiply_29, dX4_multiply_32, dX4_multiply_34, dX4_multiply_35, dX4_multiply_37, dX4_multiply_38, dX4_multiply_40, dX4_multiply_42, dX4_multiply_44, dX4_multiply_47, dX4_multiply_49, dX4_multiply_51, dX4_multiply_52, dX4_multiply_55, dX4_multiply_57, dX4_multiply_59, dX4_multiply_60, dX4_multiply_62, dX4_multiply_63, dX4_multiply_66, dX4_multiply_68, dX4_multiply_70, dX4_multiply_71, dX4_multiply_72, dX4_multiply_73, dX4_multiply_74, dX4_multiply_75, dX4_multiply_76, dX4_multiply_79, dX4_multiply_82, dX4_multiply_85, dX4_multiply_88, dX4_multiply_90, dX4_multiply_91, dX4_multiply_94, dX4_multiply_95, dX4_multiply_96, dX4_multiply_97, dX4_multiply_100, xpX4_15, xpX4_27, xkb_20, xkb_6, xki_0, xki_1, xki_3, n_le, c20, htj, ni, xt_21_67, xtc_21_67, xt_26_62, xtc_26_62, xt_44_38, xtc_44_38, xt_52_30, xtc_52_30, xt_79_m39, xtc_79_m39, xt_85_m68, xtc_85_m68, xt_91_9, xtc_91_9]
          refine ⟨fun _ => ?_, fun q => absurd (by omega) q⟩
          simp only [pw] at h3 h4
          rw [← h4]
          refine ih (i + 1) (by omega) g' _ _ (fun j' q hj' hq => ?_)
          rw [← mulK_next, h3, Nat.add_zero]
          exact h5 j' q hj' hq
        | succ m ihm =>
          intro j hj R g' h1 h2 h3 h4 h5
          have htj : (nI j).toInt = (j : Int) := nI_toInt (by omega)
          have nj : nI j + 1 = nI (j + 1) := nI_1 j
          have hdiv : nI R / nI (prm i) = nI (R / prm i) := pk_div (by omega) (by omega) (by omega)
          have hrem : nI R - nI (R / prm i) * nI (prm i) = nI (R % prm i) := by rw [← hdiv]; exact pk_rem (by omega) (by omega) (by omega)
          have hml : R % prm i < 13 := Nat.lt_of_lt_of_le (Nat.mod_lt _ (by omega)) hp13
          refine xgo O Rt xplX4_q xclX4_q [17, 40, 88] 50 ?_
          simp (maxSteps := 10000000) (disch := omega) only [↓reduceIte, ↓xrun_s, ↓xck_e, xdo_e, xlg_0, xlg_c, xst1_0, xst1_1, xst1_c, xst2_0, xst2_1, xst2_c, xk2_n, xk2_i, xk2_a, xk2_l, xct_i, xct_a, xct_l, xf4_0, xf4_1, xf4_2, xf4_3, List.contains_cons, List.contains_nil, Bool.or_false, Bool.false_or, Bool.or_self, Bool.true_or, Bool.or_true, cond_true, cond_false, List.set_cons_zero, List.set_cons_succ, List.length_cons, List.length_nil, true_and, and_true, xu_s, xu_u, xeqs, Nat.le_refl, not_true_eq_false, xq_10, xq_01, Int32.reduceAdd, Int32.reduceMul, Int32.reduceSub, Int32.reduceLE, Int32.reduceLT, Int32.reduceToNatClampNeg, Nat.reduceAdd, Nat.reduceMul, Nat.reduceBEq, Nat.reduceLT, Nat.reduceLeDiff, Nat.reduceEqDiff, Nat.zero_add, Bool.false_eq_true, reduceCtorEq, if_false, if_true, not_false_eq_true, true_imp_iff, false_imp_iff, imp_self, ↓xil_e, ↓xll_e, ↓xal_e, ↓xs1i_e, ↓xs2i_e, ↓xs1l_e, ↓xs2l_e, ↓xsil_e, ↓xs1_e, ↓xs2_e, ↓xs1a_e, ↓xsia_e, ↓xsiia_e, ↓xslia_e, ↓xsaia_e, ↓xsva_e, ↓xse1i_e, ↓xse1l_e, ↓xse1a_e, ↓xse0_e, ↓xfv_0, ↓xfv_c, ↓xgf_e, ↓xpf_e, ↓xia_e, ↓xia_n, ↓xba_e, ↓xba_n, ↓xla_e, ↓xla_n, ↓xob_e, ↓xra_e, ↓xno_e, ↓xle_e, ↓xnr_i, ↓xnr_b0, ↓xnr_b1, ↓xnr_n, ↓xdo_e, ↓xkl_0, ↓xe_iconst, ↓xe_bipush, ↓xe_iadd, ↓xe_isub, ↓xe_imul, ↓xe_idiv, ↓xe_irem, ↓xe_dup2, ↓xe_iload, ↓xe_iload_n, ↓xe_aload_n, ↓xe_istore, ↓xe_iinc, ↓xe_goto, ↓xe_getfield, ↓xe_iaload, ↓xe_iastore, ↓xe_return_, ↓xe_icmp_eq, ↓xe_if_ne, ↓xe_icmp_ge, ↓xe_if_le, ↓xe_invokevirtual, ↓xe_getstatic, dX4_multiply_0, dX4_multiply_1, dX4_multiply_3, dX4_multiply_4, dX4_multiply_7, dX4_multiply_8, dX4_multiply_9, dX4_multiply_11, dX4_multiply_12, dX4_multiply_14, dX4_multiply_15, dX4_multiply_17, dX4_multiply_19, dX4_multiply_21, dX4_multiply_24, dX4_multiply_26, dX4_multiply_29, dX4_multiply_32, dX4_multiply_34, dX4_multiply_35, dX4_multiply_37, dX4_multiply_38, dX4_multiply_40, dX4_multiply_42, dX4_multiply_44, dX4_multiply_47, dX4_multiply_49, dX4_multiply_51, dX4_multiply_52, dX4_multiply_55, dX4_multiply_57, dX4_multiply_59, dX4_multiply_60, dX4_multiply_62, dX4_multiply_63, dX4_multiply_66, dX4_multiply_68, dX4_multiply_70, dX4_multiply_71, dX4_multiply_72, dX4_multiply_73, dX4_multiply_74, dX4_multiply_75, dX4_multiply_76, dX4_multiply_79, dX4_multiply_82, dX4_multiply_85, dX4_multiply_88, dX4_multiply_90, dX4_multiply_91, dX4_multiply_94, dX4_multiply_95, dX4_multiply_96, dX4_multiply_97, dX4_multiply_100, xpX4_15, xpX4_27, xkb_20, xkb_6, xki_0, xki_1, xki_3, n_le, c20, htj, hdiv, hrem, hp0n, u1, hT, nri, v0, v1, nj, ni, xt_21_67, xtc_21_67, xt_26_62, xtc_26_62, xt_44_38, xtc_44_38, xt_52_30, xtc_52_30, xt_79_m39, xtc_79_m39, xt_85_m68, xtc_85_m68, xt_91_9, xtc_91_9]
          refine ⟨fun q => absurd q (by omega), fun _ => ⟨fun q => ?_, fun q => ?_⟩⟩
          · have hm0 : R % prm i = 0 := (nI_eq (a := R % prm i) (b := 0) (by omega) (by omega)).mp q
            have hd0 : 0 < R / prm i := by
              rcases Nat.eq_zero_or_pos (R / prm i) with w0 | w0
              · have := Nat.div_add_mod R (prm i)
                rw [w0, hm0] at this
                omega
              · exact w0
            have hdl := Nat.div_le_self R (prm i)
            simp only [pw, if_pos hm0] at h3 h4
            refine ihm (j + 1) (by omega) (R / prm i) _ hd0 (by omega) (by omega) h4 (fun j' q' hj' hq' => ?_)
            have hold := h5 j' q' hj' hq'
            by_cases e : j' * 6 + q' = (c - 1) * 6 + i
            · have ej : j' = c - 1 := by omega
              have eq' : q' = i := by omega
              have hbi := hb i (by omega)
              rw [ej, eq'] at hold ⊢
              simp only [upd, if_true]
              simp only [mulK, if_true, if_neg (Nat.lt_irrefl i)] at hold ⊢
              rw [n_add (by rw [hold]; rcases hs with hs | hs <;> rw [hs] <;> omega) (by rw [hold]; rcases hs with hs | hs <;> rw [hs] <;> omega), hold]
              rcases hs with hs | hs <;> rw [hs] <;> omega
            · simp only [upd, if_neg e]
              rw [hold]
              simp only [mulK]
              by_cases ej : j' = c - 1
              · rw [if_pos ej, if_pos ej]
                by_cases eq' : q' < i
                · rw [if_pos eq', if_pos eq']
                · rw [if_neg eq', if_neg eq', if_neg (show ¬ q' = i by omega), if_neg (show ¬ q' = i by omega)]
              · rw [if_neg ej, if_neg ej]
          · have hm0 : ¬ R % prm i = 0 := fun q2 => q (by rw [q2]; rfl)
            simp only [pw, if_neg hm0] at h3 h4
            rw [← h4]
            refine ih (i + 1) (by omega) g' _ _ (fun j' q' hj' hq' => ?_)
            rw [← mulK_next, h3, Nat.add_zero]
            exact h5 j' q' hj' hq'
      refine xgo O Rt xplX4_q xclX4_q [17, 40, 88] 30 ?_
      simp (maxSteps := 10000000) (disch := omega) only [↓reduceIte, ↓xrun_s, ↓xck_e, xdo_e, xlg_0, xlg_c, xst1_0, xst1_1, xst1_c, xst2_0, xst2_1, xst2_c, xk2_n, xk2_i, xk2_a, xk2_l, xct_i, xct_a, xct_l, xf4_0, xf4_1, xf4_2, xf4_3, List.contains_cons, List.contains_nil, Bool.or_false, Bool.false_or, Bool.or_self, Bool.true_or, Bool.or_true, cond_true, cond_false, List.set_cons_zero, List.set_cons_succ, List.length_cons, List.length_nil, true_and, and_true, xu_s, xu_u, xeqs, Nat.le_refl, not_true_eq_false, xq_10, xq_01, Int32.reduceAdd, Int32.reduceMul, Int32.reduceSub, Int32.reduceLE, Int32.reduceLT, Int32.reduceToNatClampNeg, Nat.reduceAdd, Nat.reduceMul, Nat.reduceBEq, Nat.reduceLT, Nat.reduceLeDiff, Nat.reduceEqDiff, Nat.zero_add, Bool.false_eq_true, reduceCtorEq, if_false, if_true, not_false_eq_true, true_imp_iff, false_imp_iff, imp_self, ↓xil_e, ↓xll_e, ↓xal_e, ↓xs1i_e, ↓xs2i_e, ↓xs1l_e, ↓xs2l_e, ↓xsil_e, ↓xs1_e, ↓xs2_e, ↓xs1a_e, ↓xsia_e, ↓xsiia_e, ↓xslia_e, ↓xsaia_e, ↓xsva_e, ↓xse1i_e, ↓xse1l_e, ↓xse1a_e, ↓xse0_e, ↓xfv_0, ↓xfv_c, ↓xgf_e, ↓xpf_e, ↓xia_e, ↓xia_n, ↓xba_e, ↓xba_n, ↓xla_e, ↓xla_n, ↓xob_e, ↓xra_e, ↓xno_e, ↓xle_e, ↓xnr_i, ↓xnr_b0, ↓xnr_b1, ↓xnr_n, ↓xdo_e, ↓xkl_0, ↓xe_iconst, ↓xe_bipush, ↓xe_iadd, ↓xe_isub, ↓xe_imul, ↓xe_idiv, ↓xe_irem, ↓xe_dup2, ↓xe_iload, ↓xe_iload_n, ↓xe_aload_n, ↓xe_istore, ↓xe_iinc, ↓xe_goto, ↓xe_getfield, ↓xe_iaload, ↓xe_iastore, ↓xe_return_, ↓xe_icmp_eq, ↓xe_if_ne, ↓xe_icmp_ge, ↓xe_if_le, ↓xe_invokevirtual, ↓xe_getstatic, dX4_multiply_0, dX4_multiply_1, dX4_multiply_3, dX4_multiply_4, dX4_multiply_7, dX4_multiply_8, dX4_multiply_9, dX4_multiply_11, dX4_multiply_12, dX4_multiply_14, dX4_multiply_15, dX4_multiply_17, dX4_multiply_19, dX4_multiply_21, dX4_multiply_24, dX4_multiply_26, dX4_multiply_29, dX4_multiply_32, dX4_multiply_34, dX4_multiply_35, dX4_multiply_37, dX4_multiply_38, dX4_multiply_40, dX4_multiply_42, dX4_multiply_44, dX4_multiply_47, dX4_multiply_49, dX4_multiply_51, dX4_multiply_52, dX4_multiply_55, dX4_multiply_57, dX4_multiply_59, dX4_multiply_60, dX4_multiply_62, dX4_multiply_63, dX4_multiply_66, dX4_multiply_68, dX4_multiply_70, dX4_multiply_71, dX4_multiply_72, dX4_multiply_73, dX4_multiply_74, dX4_multiply_75, dX4_multiply_76, dX4_multiply_79, dX4_multiply_82, dX4_multiply_85, dX4_multiply_88, dX4_multiply_90, dX4_multiply_91, dX4_multiply_94, dX4_multiply_95, dX4_multiply_96, dX4_multiply_97, dX4_multiply_100, xpX4_15, xpX4_27, xkb_20, xkb_6, xki_0, xki_1, xki_3, n_le, six, hti, hr0, xt_21_67, xtc_21_67, xt_26_62, xtc_26_62, xt_44_38, xtc_44_38, xt_52_30, xtc_52_30, xt_79_m39, xtc_79_m39, xt_85_m68, xtc_85_m68, xt_91_9, xtc_91_9]
      refine ⟨fun q => absurd q (by omega), fun _ => ?_⟩
      refine xg_getPrs O rfl dX4_multiply_29 ?_
      refine xg_out O (fun o1 o2 => ?_)
      refine xgo O Rt xplX4_q xclX4_q [17, 40, 88] 30 ?_
      simp (maxSteps := 10000000) (disch := omega) only [↓reduceIte, ↓xrun_s, ↓xck_e, xdo_e, xlg_0, xlg_c, xst1_0, xst1_1, xst1_c, xst2_0, xst2_1, xst2_c, xk2_n, xk2_i, xk2_a, xk2_l, xct_i, xct_a, xct_l, xf4_0, xf4_1, xf4_2, xf4_3, List.contains_cons, List.contains_nil, Bool.or_false, Bool.false_or, Bool.or_self, Bool.true_or, Bool.or_true, cond_true, cond_false, List.set_cons_zero, List.set_cons_succ, List.length_cons, List.length_nil, true_and, and_true, xu_s, xu_u, xeqs, Nat.le_refl, not_true_eq_false, xq_10, xq_01, Int32.reduceAdd, Int32.reduceMul, Int32.reduceSub, Int32.reduceLE, Int32.reduceLT, Int32.reduceToNatClampNeg, Nat.reduceAdd, Nat.reduceMul, Nat.reduceBEq, Nat.reduceLT, Nat.reduceLeDiff, Nat.reduceEqDiff, Nat.zero_add, Bool.false_eq_true, reduceCtorEq, if_false, if_true, not_false_eq_true, true_imp_iff, false_imp_iff, imp_self, ↓xil_e, ↓xll_e, ↓xal_e, ↓xs1i_e, ↓xs2i_e, ↓xs1l_e, ↓xs2l_e, ↓xsil_e, ↓xs1_e, ↓xs2_e, ↓xs1a_e, ↓xsia_e, ↓xsiia_e, ↓xslia_e, ↓xsaia_e, ↓xsva_e, ↓xse1i_e, ↓xse1l_e, ↓xse1a_e, ↓xse0_e, ↓xfv_0, ↓xfv_c, ↓xgf_e, ↓xpf_e, ↓xia_e, ↓xia_n, ↓xba_e, ↓xba_n, ↓xla_e, ↓xla_n, ↓xob_e, ↓xra_e, ↓xno_e, ↓xle_e, ↓xnr_i, ↓xnr_b0, ↓xnr_b1, ↓xnr_n, ↓xdo_e, ↓xkl_0, ↓xe_iconst, ↓xe_bipush, ↓xe_iadd, ↓xe_isub, ↓xe_imul, ↓xe_idiv, ↓xe_irem, ↓xe_dup2, ↓xe_iload, ↓xe_iload_n, ↓xe_aload_n, ↓xe_istore, ↓xe_iinc, ↓xe_goto, ↓xe_getfield, ↓xe_iaload, ↓xe_iastore, ↓xe_return_, ↓xe_icmp_eq, ↓xe_if_ne, ↓xe_icmp_ge, ↓xe_if_le, ↓xe_invokevirtual, ↓xe_getstatic, dX4_multiply_0, dX4_multiply_1, dX4_multiply_3, dX4_multiply_4, dX4_multiply_7, dX4_multiply_8, dX4_multiply_9, dX4_multiply_11, dX4_multiply_12, dX4_multiply_14, dX4_multiply_15, dX4_multiply_17, dX4_multiply_19, dX4_multiply_21, dX4_multiply_24, dX4_multiply_26, dX4_multiply_29, dX4_multiply_32, dX4_multiply_34, dX4_multiply_35, dX4_multiply_37, dX4_multiply_38, dX4_multiply_40, dX4_multiply_42, dX4_multiply_44, dX4_multiply_47, dX4_multiply_49, dX4_multiply_51, dX4_multiply_52, dX4_multiply_55, dX4_multiply_57, dX4_multiply_59, dX4_multiply_60, dX4_multiply_62, dX4_multiply_63, dX4_multiply_66, dX4_multiply_68, dX4_multiply_70, dX4_multiply_71, dX4_multiply_72, dX4_multiply_73, dX4_multiply_74, dX4_multiply_75, dX4_multiply_76, dX4_multiply_79, dX4_multiply_82, dX4_multiply_85, dX4_multiply_88, dX4_multiply_90, dX4_multiply_91, dX4_multiply_94, dX4_multiply_95, dX4_multiply_96, dX4_multiply_97, dX4_multiply_100, xpX4_15, xpX4_27, xkb_20, xkb_6, xki_0, xki_1, xki_3, o2, xt_21_67, xtc_21_67, xt_26_62, xtc_26_62, xt_44_38, xtc_44_38, xt_52_30, xtc_52_30, xt_79_m39, xtc_79_m39, xt_85_m68, xtc_85_m68, xt_91_9, xtc_91_9]
      have vi : vp_in (nI i) 6 := vp_in_nI (by omega) (by omega)
      refine xg_ialoadS O dX4_multiply_34 vi ?_
      rw [nI_clamp (by omega), hpr]
      refine xgo O Rt xplX4_q xclX4_q [17, 40, 88] 30 ?_
      simp (maxSteps := 10000000) (disch := omega) only [↓reduceIte, ↓xrun_s, ↓xck_e, xdo_e, xlg_0, xlg_c, xst1_0, xst1_1, xst1_c, xst2_0, xst2_1, xst2_c, xk2_n, xk2_i, xk2_a, xk2_l, xct_i, xct_a, xct_l, xf4_0, xf4_1, xf4_2, xf4_3, List.contains_cons, List.contains_nil, Bool.or_false, Bool.false_or, Bool.or_self, Bool.true_or, Bool.or_true, cond_true, cond_false, List.set_cons_zero, List.set_cons_succ, List.length_cons, List.length_nil, true_and, and_true, xu_s, xu_u, xeqs, Nat.le_refl, not_true_eq_false, xq_10, xq_01, Int32.reduceAdd, Int32.reduceMul, Int32.reduceSub, Int32.reduceLE, Int32.reduceLT, Int32.reduceToNatClampNeg, Nat.reduceAdd, Nat.reduceMul, Nat.reduceBEq, Nat.reduceLT, Nat.reduceLeDiff, Nat.reduceEqDiff, Nat.zero_add, Bool.false_eq_true, reduceCtorEq, if_false, if_true, not_false_eq_true, true_imp_iff, false_imp_iff, imp_self, ↓xil_e, ↓xll_e, ↓xal_e, ↓xs1i_e, ↓xs2i_e, ↓xs1l_e, ↓xs2l_e, ↓xsil_e, ↓xs1_e, ↓xs2_e, ↓xs1a_e, ↓xsia_e, ↓xsiia_e, ↓xslia_e, ↓xsaia_e, ↓xsva_e, ↓xse1i_e, ↓xse1l_e, ↓xse1a_e, ↓xse0_e, ↓xfv_0, ↓xfv_c, ↓xgf_e, ↓xpf_e, ↓xia_e, ↓xia_n, ↓xba_e, ↓xba_n, ↓xla_e, ↓xla_n, ↓xob_e, ↓xra_e, ↓xno_e, ↓xle_e, ↓xnr_i, ↓xnr_b0, ↓xnr_b1, ↓xnr_n, ↓xdo_e, ↓xkl_0, ↓xe_iconst, ↓xe_bipush, ↓xe_iadd, ↓xe_isub, ↓xe_imul, ↓xe_idiv, ↓xe_irem, ↓xe_dup2, ↓xe_iload, ↓xe_iload_n, ↓xe_aload_n, ↓xe_istore, ↓xe_iinc, ↓xe_goto, ↓xe_getfield, ↓xe_iaload, ↓xe_iastore, ↓xe_return_, ↓xe_icmp_eq, ↓xe_if_ne, ↓xe_icmp_ge, ↓xe_if_le, ↓xe_invokevirtual, ↓xe_getstatic, dX4_multiply_0, dX4_multiply_1, dX4_multiply_3, dX4_multiply_4, dX4_multiply_7, dX4_multiply_8, dX4_multiply_9, dX4_multiply_11, dX4_multiply_12, dX4_multiply_14, dX4_multiply_15, dX4_multiply_17, dX4_multiply_19, dX4_multiply_21, dX4_multiply_24, dX4_multiply_26, dX4_multiply_29, dX4_multiply_32, dX4_multiply_34, dX4_multiply_35, dX4_multiply_37, dX4_multiply_38, dX4_multiply_40, dX4_multiply_42, dX4_multiply_44, dX4_multiply_47, dX4_multiply_49, dX4_multiply_51, dX4_multiply_52, dX4_multiply_55, dX4_multiply_57, dX4_multiply_59, dX4_multiply_60, dX4_multiply_62, dX4_multiply_63, dX4_multiply_66, dX4_multiply_68, dX4_multiply_70, dX4_multiply_71, dX4_multiply_72, dX4_multiply_73, dX4_multiply_74, dX4_multiply_75, dX4_multiply_76, dX4_multiply_79, dX4_multiply_82, dX4_multiply_85, dX4_multiply_88, dX4_multiply_90, dX4_multiply_91, dX4_multiply_94, dX4_multiply_95, dX4_multiply_96, dX4_multiply_97, dX4_multiply_100, xpX4_15, xpX4_27, xkb_20, xkb_6, xki_0, xki_1, xki_3, xt_21_67, xtc_21_67, xt_26_62, xtc_26_62, xt_44_38, xtc_44_38, xt_52_30, xtc_52_30, xt_79_m39, xtc_79_m39, xt_85_m68, xtc_85_m68, xt_91_9, xtc_91_9]
      exact inner 20 0 (by omega) (rst v i) g' hr.1 (by omega) (by simp only [mlt]; omega) rfl hP
  refine xgo O Rt xplX4_q xclX4_q [17] 60 ?_
  simp (maxSteps := 10000000) (disch := omega) only [↓reduceIte, ↓xrun_s, ↓xck_e, xdo_e, xlg_0, xlg_c, xst1_0, xst1_1, xst1_c, xst2_0, xst2_1, xst2_c, xk2_n, xk2_i, xk2_a, xk2_l, xct_i, xct_a, xct_l, xf4_0, xf4_1, xf4_2, xf4_3, List.contains_cons, List.contains_nil, Bool.or_false, Bool.false_or, Bool.or_self, Bool.true_or, Bool.or_true, cond_true, cond_false, List.set_cons_zero, List.set_cons_succ, List.length_cons, List.length_nil, true_and, and_true, xu_s, xu_u, xeqs, Nat.le_refl, not_true_eq_false, xq_10, xq_01, Int32.reduceAdd, Int32.reduceMul, Int32.reduceSub, Int32.reduceLE, Int32.reduceLT, Int32.reduceToNatClampNeg, Nat.reduceAdd, Nat.reduceMul, Nat.reduceBEq, Nat.reduceLT, Nat.reduceLeDiff, Nat.reduceEqDiff, Nat.zero_add, Bool.false_eq_true, reduceCtorEq, if_false, if_true, not_false_eq_true, true_imp_iff, false_imp_iff, imp_self, ↓xil_e, ↓xll_e, ↓xal_e, ↓xs1i_e, ↓xs2i_e, ↓xs1l_e, ↓xs2l_e, ↓xsil_e, ↓xs1_e, ↓xs2_e, ↓xs1a_e, ↓xsia_e, ↓xsiia_e, ↓xslia_e, ↓xsaia_e, ↓xsva_e, ↓xse1i_e, ↓xse1l_e, ↓xse1a_e, ↓xse0_e, ↓xfv_0, ↓xfv_c, ↓xgf_e, ↓xpf_e, ↓xia_e, ↓xia_n, ↓xba_e, ↓xba_n, ↓xla_e, ↓xla_n, ↓xob_e, ↓xra_e, ↓xno_e, ↓xle_e, ↓xnr_i, ↓xnr_b0, ↓xnr_b1, ↓xnr_n, ↓xdo_e, ↓xkl_0, ↓xe_iconst, ↓xe_bipush, ↓xe_iadd, ↓xe_isub, ↓xe_imul, ↓xe_idiv, ↓xe_irem, ↓xe_dup2, ↓xe_iload, ↓xe_iload_n, ↓xe_aload_n, ↓xe_istore, ↓xe_iinc, ↓xe_goto, ↓xe_getfield, ↓xe_iaload, ↓xe_iastore, ↓xe_return_, ↓xe_icmp_eq, ↓xe_if_ne, ↓xe_icmp_ge, ↓xe_if_le, ↓xe_invokevirtual, ↓xe_getstatic, dX4_multiply_0, dX4_multiply_1, dX4_multiply_3, dX4_multiply_4, dX4_multiply_7, dX4_multiply_8, dX4_multiply_9, dX4_multiply_11, dX4_multiply_12, dX4_multiply_14, dX4_multiply_15, dX4_multiply_17, dX4_multiply_19, dX4_multiply_21, dX4_multiply_24, dX4_multiply_26, dX4_multiply_29, dX4_multiply_32, dX4_multiply_34, dX4_multiply_35, dX4_multiply_37, dX4_multiply_38, dX4_multiply_40, dX4_multiply_42, dX4_multiply_44, dX4_multiply_47, dX4_multiply_49, dX4_multiply_51, dX4_multiply_52, dX4_multiply_55, dX4_multiply_57, dX4_multiply_59, dX4_multiply_60, dX4_multiply_62, dX4_multiply_63, dX4_multiply_66, dX4_multiply_68, dX4_multiply_70, dX4_multiply_71, dX4_multiply_72, dX4_multiply_73, dX4_multiply_74, dX4_multiply_75, dX4_multiply_76, dX4_multiply_79, dX4_multiply_82, dX4_multiply_85, dX4_multiply_88, dX4_multiply_90, dX4_multiply_91, dX4_multiply_94, dX4_multiply_95, dX4_multiply_96, dX4_multiply_97, dX4_multiply_100, xpX4_15, xpX4_27, xkb_20, xkb_6, xki_0, xki_1, xki_3, hT, cm1, c6, xt_21_67, xtc_21_67, xt_26_62, xtc_26_62, xt_44_38, xtc_44_38, xt_52_30, xtc_52_30, xt_79_m39, xtc_79_m39, xt_85_m68, xtc_85_m68, xt_91_9, xtc_91_9]
  have := outer 6 0 (by omega) g none none (fun j q hj hq => by
    rw [hpt j q hj hq]
    simp only [mulK, if_neg (Nat.not_lt_zero q)]
    by_cases e : j = c - 1
    · rw [if_pos e]
      by_cases e2 : q = 0
      · rw [if_pos e2]; simp
      · rw [if_neg e2]
    · rw [if_neg e])
  rw [xu_id hg] at this
  exact this
/-- the product of the powers so far -/
def pvk (x : xZ) : Nat → Nat
  | 0 => 1
  | k + 1 => pvk x k * prm k ^ (x k).toNat
theorem pvk_6 (x : xZ) : pvk x 6 = pval x := by simp [pvk, pval, prm]
set_option maxRecDepth 100000 in
set_option maxHeartbeats 8000000 in
theorem c_endsWithPeriod (V : xV) {w z c : Nat} {f : xH} {a2 a4 a5 a6 a7 a8 : Int32} {g : Nat → Int32} {pt : Nat → xZ} {post : Option Value → xH → Nat → Prop} (hT : f (w + 1) = some (xTx w a2 (nI c) a4 a5 a6 a7 a8)) (hg : f (w + 3) = some (xI 144 g)) (hc1 : 1 ≤ c) (hc : c ≤ 24) (hpt : Pit g pt c) (hb : ∀ k, k < 6 → -100 ≤ pt (c - 1) k ∧ pt (c - 1) k ≤ 100) (hv : (∀ k, k < 6 → 0 ≤ pt (c - 1) k) → pval (pt (c - 1)) ≤ 999999)
    (hp1 : perB (pt (c - 1)) = true → post (some (.int 1)) f z) (hp0 : ¬ perB (pt (c - 1)) = true → post (some (.int 0)) f z) :
    xMet V yX4_endsWithPeriod cX4_endsWithPeriod 6 (some .boolean) 2 0 0 [.ref (w + 1)] f z post := by
  refine xMet_of false (by decide) (Nat.le_of_ble_eq_true rfl) (fun h => by cases h) (fun X hX O Rt => ?_)
  have O : xO X cX4_endsWithPeriod 6 RX4 2 0 0 false := O
  show xG X 0 [some (.ref (w + 1)), none, none, none, none, none] [] f (z, 0, 0)
  generalize hx : pt (c - 1) = x at *
  have six : (6 : Int32).toInt = 6 := rfl
  have two : (2 : Int32).toInt = 2 := rfl
  have c13 : (13 : Int32).toInt = 13 := rfl
  have cm1 : nI c - 1 = nI (c - 1) := pk_sub (b := 1) hc1
  have c6 : nI (c - 1) * 6 = nI ((c - 1) * 6) := pk_mul _ 6
  have perB_iff : perB x = true ↔ (∀ k, k < 6 → 0 ≤ x k) ∧ 2 ≤ pval x ∧ pval x ≤ 13 := by
    simp only [perB, Bool.and_eq_true, decide_eq_true_eq]
    constructor
    · rintro ⟨⟨⟨⟨⟨⟨⟨h0, h1⟩, h2⟩, h3⟩, h4⟩, h5⟩, h6⟩, h7⟩
      refine ⟨fun k hk => ?_, h6, h7⟩
      rcases (by omega : k = 0 ∨ k = 1 ∨ k = 2 ∨ k = 3 ∨ k = 4 ∨ k = 5) with rfl | rfl | rfl | rfl | rfl | rfl <;> assumption
    · rintro ⟨h, h6, h7⟩
      exact ⟨⟨⟨⟨⟨⟨⟨h 0 (by omega), h 1 (by omega)⟩, h 2 (by omega)⟩, h 3 (by omega)⟩, h 4 (by omega)⟩, h 5 (by omega)⟩, h6⟩, h7⟩
  have pos : ∀ k, 0 < pvk x k := by
    intro k
    induction k with
    | zero => simp [pvk]
    | succ k ih =>
      have : 0 < prm k := by unfold prm; split <;> omega
      exact Nat.mul_pos ih (Nat.pow_pos this)
  have mono : ∀ m k, pvk x k ≤ pvk x (k + m) := by
    intro m
    induction m with
    | zero => intro k; exact Nat.le_refl _
    | succ m ih =>
      intro k
      have h1 := ih k
      have h2 : 0 < prm (k + m) ^ (x (k + m)).toNat := Nat.pow_pos (by unfold prm; split <;> omega)
      have h3 : pvk x (k + (m + 1)) = pvk x (k + m) * prm (k + m) ^ (x (k + m)).toNat := rfl
      have h4 := Nat.le_mul_of_pos_right (pvk x (k + m)) h2
      omega
  have outer : ∀ k i, i + k = 6 → (∀ q, q < i → 0 ≤ x q) → ∀ (V' : Int32) u4 u5, ((∀ q, q < 6 → 0 ≤ x q) → V' = nI (pvk x i)) → xG X 14 [some (.ref (w + 1)), some (.int (nI ((c - 1) * 6))), some (.int V'), some (.int (nI i)), u4, u5] [] f (z, 0, 0) := by
    intro k
    induction k with
    | zero =>
      intro i hi hnn V' u4 u5 hV
      have hi6 : i = 6 := by omega
      subst hi6
      have hall : ∀ q, q < 6 → 0 ≤ x q := hnn
      have hV2 := hV hall
      have hle : pval x ≤ 999999 := hv hall
      have hti : (nI 6).toInt = 6 := rfl
      have hVi : (nI (pvk x 6)).toInt = (pvk x 6 : Int) := nI_toInt (by rw [pvk_6]; omega)
      rw [hV2]
      refine xgo O Rt xplX4_q xclX4_q [14, 40] 30 ?_
      simp (maxSteps := 10000000) (disch := omega) only [↓reduceIte, ↓xrun_s, ↓xck_e, xdo_e, xlg_0, xlg_c, xst1_0, xst1_1, xst1_c, xst2_0, xst2_1, xst2_c, xk2_n, xk2_i, xk2_a, xk2_l, xct_i, xct_a, xct_l, xf4_0, xf4_1, xf4_2, xf4_3, List.contains_cons, List.contains_nil, Bool.or_false, Bool.false_or, Bool.or_self, Bool.true_or, Bool.or_true, cond_true, cond_false, List.set_cons_zero, List.set_cons_succ, List.length_cons, List.length_nil, true_and, and_true, xu_s, xu_u, xeqs, Nat.le_refl, not_true_eq_false, xq_10, xq_01, Int32.reduceAdd, Int32.reduceMul, Int32.reduceSub, Int32.reduceLE, Int32.reduceLT, Int32.reduceToNatClampNeg, Nat.reduceAdd, Nat.reduceMul, Nat.reduceBEq, Nat.reduceLT, Nat.reduceLeDiff, Nat.reduceEqDiff, Nat.zero_add, Bool.false_eq_true, reduceCtorEq, if_false, if_true, not_false_eq_true, true_imp_iff, false_imp_iff, imp_self, ↓xil_e, ↓xll_e, ↓xal_e, ↓xs1i_e, ↓xs2i_e, ↓xs1l_e, ↓xs2l_e, ↓xsil_e, ↓xs1_e, ↓xs2_e, ↓xs1a_e, ↓xsia_e, ↓xsiia_e, ↓xslia_e, ↓xsaia_e, ↓xsva_e, ↓xse1i_e, ↓xse1l_e, ↓xse1a_e, ↓xse0_e, ↓xfv_0, ↓xfv_c, ↓xgf_e, ↓xpf_e, ↓xia_e, ↓xia_n, ↓xba_e, ↓xba_n, ↓xla_e, ↓xla_n, ↓xob_e, ↓xra_e, ↓xno_e, ↓xle_e, ↓xnr_i, ↓xnr_b0, ↓xnr_b1, ↓xnr_n, ↓xdo_e, ↓xkl_0, ↓xe_iconst, ↓xe_bipush, ↓xe_iadd, ↓xe_isub, ↓xe_imul, ↓xe_iload, ↓xe_iload_n, ↓xe_aload_n, ↓xe_istore, ↓xe_istore_n, ↓xe_iinc, ↓xe_goto, ↓xe_getfield, ↓xe_iaload, ↓xe_ireturn, ↓xe_icmp_lt, ↓xe_if_ge, ↓xe_icmp_ge, ↓xe_icmp_gt, ↓xe_getstatic, dX4_endsWithPeriod_0, dX4_endsWithPeriod_1, dX4_endsWithPeriod_4, dX4_endsWithPeriod_5, dX4_endsWithPeriod_6, dX4_endsWithPeriod_8, dX4_endsWithPeriod_9, dX4_endsWithPeriod_10, dX4_endsWithPeriod_11, dX4_endsWithPeriod_12, dX4_endsWithPeriod_13, dX4_endsWithPeriod_14, dX4_endsWithPeriod_15, dX4_endsWithPeriod_17, dX4_endsWithPeriod_20, dX4_endsWithPeriod_21, dX4_endsWithPeriod_24, dX4_endsWithPeriod_25, dX4_endsWithPeriod_26, dX4_endsWithPeriod_27, dX4_endsWithPeriod_28, dX4_endsWithPeriod_30, dX4_endsWithPeriod_32, dX4_endsWithPeriod_35, dX4_endsWithPeriod_36, dX4_endsWithPeriod_37, dX4_endsWithPeriod_38, dX4_endsWithPeriod_40, dX4_endsWithPeriod_42, dX4_endsWithPeriod_44, dX4_endsWithPeriod_47, dX4_endsWithPeriod_48, dX4_endsWithPeriod_51, dX4_endsWithPeriod_52, dX4_endsWithPeriod_53, dX4_endsWithPeriod_54, dX4_endsWithPeriod_55, dX4_endsWithPeriod_58, dX4_endsWithPeriod_61, dX4_endsWithPeriod_64, dX4_endsWithPeriod_67, dX4_endsWithPeriod_68, dX4_endsWithPeriod_69, dX4_endsWithPeriod_72, dX4_endsWithPeriod_73, dX4_endsWithPeriod_75, dX4_endsWithPeriod_78, dX4_endsWithPeriod_79, dX4_endsWithPeriod_82, dX4_endsWithPeriod_83, xpX4_15, xpX4_27, xkb_13, xkb_6, xki_0, xki_1, xki_2, n_le, n_lt, six, hti, two, c13, hVi, xt_17_50, xtc_17_50, xt_32_5, xtc_32_5, xt_44_17, xtc_44_17, xt_58_m18, xtc_58_m18, xt_64_m50, xtc_64_m50, xt_69_13, xtc_69_13, xt_75_7, xtc_75_7, xt_79_4, xtc_79_4]
      refine ⟨fun _ => ⟨fun q => hp0 (fun h => ?_), fun q => ⟨fun q2 => hp0 (fun h => ?_), fun q2 => hp1 (perB_iff.mpr ⟨hall, ?_, ?_⟩)⟩⟩, fun q => absurd (by omega) q⟩
      · have := (perB_iff.mp h).2.1
        rw [← pvk_6] at this
        omega
      · have := (perB_iff.mp h).2.2
        rw [← pvk_6] at this
        omega
      · rw [← pvk_6]; omega
      · rw [← pvk_6]; omega
    | succ k ih =>
      intro i hi hnn V' u4 u5 hV
      have hti : (nI i).toInt = (i : Int) := nI_toInt (by omega)
      have ni : nI i + 1 = nI (i + 1) := nI_1 i
      have nri : nI ((c - 1) * 6) + nI i = nI ((c - 1) * 6 + i) := nI_add _ _
      have v0 : vp_in (nI ((c - 1) * 6 + i)) 144 := vp_in_nI (by omega) (by omega)
      have v1 : (nI ((c - 1) * 6 + i)).toNatClampNeg = (c - 1) * 6 + i := nI_clamp (by omega)
      have hgi : (g ((c - 1) * 6 + i)).toInt = x i := by rw [hpt (c - 1) i (by omega) (by omega), hx]
      have zero : (0 : Int32).toInt = 0 := rfl
      obtain ⟨hpr, hp2, hp13⟩ := prs_eq (k := i) (by omega)
      have hbi := hb i (by omega)
      refine xgo O Rt xplX4_q xclX4_q [14, 40] 30 ?_
      simp (maxSteps := 10000000) (disch := omega) only [↓reduceIte, ↓xrun_s, ↓xck_e, xdo_e, xlg_0, xlg_c, xst1_0, xst1_1, xst1_c, xst2_0, xst2_1, xst2_c, xk2_n, xk2_i, xk2_a, xk2_l, xct_i, xct_a, xct_l, xf4_0, xf4_1, xf4_2, xf4_3, List.contains_cons, List.contains_nil, Bool.or_false, Bool.false_or, Bool.or_self, Bool.true_or, Bool.or_true, cond_true, cond_false, List.set_cons_zero, List.set_cons_succ, List.length_cons, List.length_nil, true_and, and_true, xu_s, xu_u, xeqs, Nat.le_refl, not_true_eq_false, xq_10, xq_01, Int32.reduceAdd, Int32.reduceMul, Int32.reduceSub, Int32.reduceLE, Int32.reduceLT, Int32.reduceToNatClampNeg, Nat.reduceAdd, Nat.reduceMul, Nat.reduceBEq, Nat.reduceLT, Nat.reduceLeDiff, Nat.reduceEqDiff, Nat.zero_add, Bool.false_eq_true, reduceCtorEq, if_false, if_true, not_false_eq_true, true_imp_iff, false_imp_iff, imp_self, ↓xil_e, ↓xll_e, ↓xal_e, ↓xs1i_e, ↓xs2i_e, ↓xs1l_e, ↓xs2l_e, ↓xsil_e, ↓xs1_e, ↓xs2_e, ↓xs1a_e, ↓xsia_e, ↓xsiia_e, ↓xslia_e, ↓xsaia_e, ↓xsva_e, ↓xse1i_e, ↓xse1l_e, ↓xse1a_e, ↓xse0_e, ↓xfv_0, ↓xfv_c, ↓xgf_e, ↓xpf_e, ↓xia_e, ↓xia_n, ↓xba_e, ↓xba_n, ↓xla_e, ↓xla_n, ↓xob_e, ↓xra_e, ↓xno_e, ↓xle_e, ↓xnr_i, ↓xnr_b0, ↓xnr_b1, ↓xnr_n, ↓xdo_e, ↓xkl_0, ↓xe_iconst, ↓xe_bipush, ↓xe_iadd, ↓xe_isub, ↓xe_imul, ↓xe_iload, ↓xe_iload_n, ↓xe_aload_n, ↓xe_istore, ↓xe_istore_n, ↓xe_iinc, ↓xe_goto, ↓xe_getfield, ↓xe_iaload, ↓xe_ireturn, ↓xe_icmp_lt, ↓xe_if_ge, ↓xe_icmp_ge, ↓xe_icmp_gt, ↓xe_getstatic, dX4_endsWithPeriod_0, dX4_endsWithPeriod_1, dX4_endsWithPeriod_4, dX4_endsWithPeriod_5, dX4_endsWithPeriod_6, dX4_endsWithPeriod_8, dX4_endsWithPeriod_9, dX4_endsWithPeriod_10, dX4_endsWithPeriod_11, dX4_endsWithPeriod_12, dX4_endsWithPeriod_13, dX4_endsWithPeriod_14, dX4_endsWithPeriod_15, dX4_endsWithPeriod_17, dX4_endsWithPeriod_20, dX4_endsWithPeriod_21, dX4_endsWithPeriod_24, dX4_endsWithPeriod_25, dX4_endsWithPeriod_26, dX4_endsWithPeriod_27, dX4_endsWithPeriod_28, dX4_endsWithPeriod_30, dX4_endsWithPeriod_32, dX4_endsWithPeriod_35, dX4_endsWithPeriod_36, dX4_endsWithPeriod_37, dX4_endsWithPeriod_38, dX4_endsWithPeriod_40, dX4_endsWithPeriod_42, dX4_endsWithPeriod_44, dX4_endsWithPeriod_47, dX4_endsWithPeriod_48, dX4_endsWithPeriod_51, dX4_endsWithPeriod_52, dX4_endsWithPeriod_53, dX4_endsWithPeriod_54, dX4_endsWithPeriod_55, dX4_endsWithPeriod_58, dX4_endsWithPeriod_61, dX4_endsWithPeriod_64, dX4_endsWithPeriod_67, dX4_endsWithPeriod_68, dX4_endsWithPeriod_69, dX4_endsWithPeriod_72, dX4_endsWithPeriod_73, dX4_endsWithPeriod_75, dX4_endsWithPeriod_78, dX4_endsWithPeriod_79, dX4_endsWithPeriod_82, dX4_endsWithPeriod_83, xpX4_15, xpX4_27, xkb_13, xkb_6, xki_0, xki_1, xki_2, n_le, six, hti, hT, hg, nri, v0, v1, hgi, zero, xt_17_50, xtc_17_50, xt_32_5, xtc_32_5, xt_44_17, xtc_44_17, xt_58_m18, xtc_58_m18, xt_64_m50, xtc_64_m50, xt_69_13, xtc_69_13, xt_75_7, xtc_75_7, xt_79_4, xtc_79_4]
      refine ⟨fun q => absurd q (by omega), fun _ => ⟨fun q => ?_, fun q => hp0 (fun h => ?_)⟩⟩
      · have inner : ∀ m j : Nat, (j : Int) + m = x i → ∀ (V2 : Int32), ((∀ q, q < 6 → 0 ≤ x q) → V2 = nI (pvk x i * prm i ^ j)) → xG X 40 [some (.ref (w + 1)), some (.int (nI ((c - 1) * 6))), some (.int V2), some (.int (nI i)), some (.int (g ((c - 1) * 6 + i))), some (.int (nI j))] [] f (z, 0, 0) := by
          intro m
          induction m with
          | zero =>
            intro j hj V2 hV2
            have htj : (nI j).toInt = x i := by rw [nI_toInt (by omega)]; omega
            refine xgo O Rt xplX4_q xclX4_q [14, 40] 30 ?_
            simp (maxSteps := 10000000) (disch := omega) only [↓reduceIte, ↓xrun_s, ↓xck_e, xdo_e, xlg_0, xlg_c, xst1_0, xst1_1, xst1_c, xst2_0, xst2_1, xst2_c, xk2_n, xk2_i, xk2_a, xk2_l, xct_i, xct_a, xct_l, xf4_0, xf4_1, xf4_2, xf4_3, List.contains_cons, List.contains_nil, Bool.or_false, Bool.false_or, Bool.or_self, Bool.true_or, Bool.or_true, cond_true, cond_false, List.set_cons_zero, List.set_cons_succ, List.length_cons, List.length_nil, true_and, and_true, xu_s, xu_u, xeqs, Nat.le_refl, not_true_eq_false, xq_10, xq_01, Int32.reduceAdd, Int32.reduceMul, Int32.reduceSub, Int32.reduceLE, Int32.reduceLT, Int32.reduceToNatClampNeg, Nat.reduceAdd, Nat.reduceMul, Nat.reduceBEq, Nat.reduceLT, Nat.reduceLeDiff, Nat.reduceEqDiff, Nat.zero_add, Bool.false_eq_true, reduceCtorEq, if_false, if_true, not_false_eq_true, true_imp_iff, false_imp_iff, imp_self, ↓xil_e, ↓xll_e, ↓xal_e, ↓xs1i_e, ↓xs2i_e, ↓xs1l_e, ↓xs2l_e, ↓xsil_e, ↓xs1_e, ↓xs2_e, ↓xs1a_e, ↓xsia_e, ↓xsiia_e, ↓xslia_e, ↓xsaia_e, ↓xsva_e, ↓xse1i_e, ↓xse1l_e, ↓xse1a_e, ↓xse0_e, ↓xfv_0, ↓xfv_c, ↓xgf_e, ↓xpf_e, ↓xia_e, ↓xia_n, ↓xba_e, ↓xba_n, ↓xla_e, ↓xla_n, ↓xob_e, ↓xra_e, ↓xno_e, ↓xle_e, ↓xnr_i, ↓xnr_b0, ↓xnr_b1, ↓xnr_n, ↓xdo_e, ↓xkl_0, ↓xe_iconst, ↓xe_bipush, ↓xe_iadd, ↓xe_isub, ↓xe_imul, ↓xe_iload, ↓xe_iload_n, ↓xe_aload_n, ↓xe_istore, ↓xe_istore_n, ↓xe_iinc, ↓xe_goto, ↓xe_getfield, ↓xe_iaload, ↓xe_ireturn, ↓xe_icmp_lt, ↓xe_if_ge, ↓xe_icmp_ge, ↓xe_icmp_gt, ↓xe_getstatic, dX4_endsWithPeriod_0, dX4_endsWithPeriod_1, dX4_endsWithPeriod_4, dX4_endsWithPeriod_5, dX4_endsWithPeriod_6, dX4_endsWithPeriod_8, dX4_endsWithPeriod_9, dX4_endsWithPeriod_10, dX4_endsWithPeriod_11, dX4_endsWithPeriod_12, dX4_endsWithPeriod_13, dX4_endsWithPeriod_14, dX4_endsWithPeriod_15, dX4_endsWithPeriod_17, dX4_endsWithPeriod_20, dX4_endsWithPeriod_21, dX4_endsWithPeriod_24, dX4_endsWithPeriod_25, dX4_endsWithPeriod_26, dX4_endsWithPeriod_27, dX4_endsWithPeriod_28, dX4_endsWithPeriod_30, dX4_endsWithPeriod_32, dX4_endsWithPeriod_35, dX4_endsWithPeriod_36, dX4_endsWithPeriod_37, dX4_endsWithPeriod_38, dX4_endsWithPeriod_40, dX4_endsWithPeriod_42, dX4_endsWithPeriod_44, dX4_endsWithPeriod_47, dX4_endsWithPeriod_48, dX4_endsWithPeriod_51, dX4_endsWithPeriod_52, dX4_endsWithPeriod_53, dX4_endsWithPeriod_54, dX4_endsWithPeriod_55, dX4_endsWithPeriod_58, dX4_endsWithPeriod_61, dX4_endsWithPeriod_64, dX4_endsWithPeriod_67, dX4_endsWithPeriod_68, dX4_endsWithPeriod_69, dX4_endsWithPeriod_72, dX4_endsWithPeriod_73, dX4_endsWithPeriod_75, dX4_endsWithPeriod_78, dX4_endsWithPeriod_79, dX4_endsWithPeriod_82, dX4_endsWithPeriod_83, xpX4_15, xpX4_27, xkb_13, xkb_6, xki_0, xki_1, xki_2, n_le, htj, hgi, ni, xt_17_50, xtc_17_50, xt_32_5, xtc_32_5, xt_44_17, xtc_44_17, xt_58_m18, xtc_58_m18, xt_64_m50, xtc_64_m50, xt_69_13, xtc_69_13, xt_75_7, xtc_75_7, xt_79_4, xtc_79_4]
            refine ⟨fun _ => ih (i + 1) (by omega) (fun q' hq' => ?_) V2 _ _ (fun hall => ?_), fun q => absurd (by omega) q⟩
            · by_cases e : q' = i
              · rw [e]; exact q
              · exact hnn q' (by omega)
            · rw [hV2 hall]
              have : j = (x i).toNat := by omega
              rw [this]; rfl
          | succ m ihm =>
            intro j hj V2 hV2
            have htj : (nI j).toInt = (j : Int) := nI_toInt (by omega)
            have nj : nI j + 1 = nI (j + 1) := nI_1 j
            refine xgo O Rt xplX4_q xclX4_q [14, 40] 30 ?_
            simp (maxSteps := 10000000) (disch := omega) only [↓reduceIte, ↓xrun_s, ↓xck_e, xdo_e, xlg_0, xlg_c, xst1_0, xst1_1, xst1_c, xst2_0, xst2_1, xst2_c, xk2_n, xk2_i, xk2_a, xk2_l, xct_i, xct_a, xct_l, xf4_0, xf4_1, xf4_2, xf4_3, List.contains_cons, List.contains_nil, Bool.or_false, Bool.false_or, Bool.or_self, Bool.true_or, Bool.or_true, cond_true, cond_false, List.set_cons_zero, List.set_cons_succ, List.length_cons, List.length_nil, true_and, and_true, xu_s, xu_u, xeqs, Nat.le_refl, not_true_eq_false, xq_10, xq_01, Int32.reduceAdd, Int32.reduceMul, Int32.reduceSub, Int32.reduceLE, Int32.reduceLT, Int32.reduceToNatClampNeg, Nat.reduceAdd, Nat.reduceMul, Nat.reduceBEq, Nat.reduceLT, Nat.reduceLeDiff, Nat.reduceEqDiff, Nat.zero_add, Bool.false_eq_true, reduceCtorEq, if_false, if_true, not_false_eq_true, true_imp_iff, false_imp_iff, imp_self, ↓xil_e, ↓xll_e, ↓xal_e, ↓xs1i_e, ↓xs2i_e, ↓xs1l_e, ↓xs2l_e, ↓xsil_e, ↓xs1_e, ↓xs2_e, ↓xs1a_e, ↓xsia_e, ↓xsiia_e, ↓xslia_e, ↓xsaia_e, ↓xsva_e, ↓xse1i_e, ↓xse1l_e, ↓xse1a_e, ↓xse0_e, ↓xfv_0, ↓xfv_c, ↓xgf_e, ↓xpf_e, ↓xia_e, ↓xia_n, ↓xba_e, ↓xba_n, ↓xla_e, ↓xla_n, ↓xob_e, ↓xra_e, ↓xno_e, ↓xle_e, ↓xnr_i, ↓xnr_b0, ↓xnr_b1, ↓xnr_n, ↓xdo_e, ↓xkl_0, ↓xe_iconst, ↓xe_bipush, ↓xe_iadd, ↓xe_isub, ↓xe_imul, ↓xe_iload, ↓xe_iload_n, ↓xe_aload_n, ↓xe_istore, ↓xe_istore_n, ↓xe_iinc, ↓xe_goto, ↓xe_getfield, ↓xe_iaload, ↓xe_ireturn, ↓xe_icmp_lt, ↓xe_if_ge, ↓xe_icmp_ge, ↓xe_icmp_gt, ↓xe_getstatic, dX4_endsWithPeriod_0, dX4_endsWithPeriod_1, dX4_endsWithPeriod_4, dX4_endsWithPeriod_5, dX4_endsWithPeriod_6, dX4_endsWithPeriod_8, dX4_endsWithPeriod_9, dX4_endsWithPeriod_10, dX4_endsWithPeriod_11, dX4_endsWithPeriod_12, dX4_endsWithPeriod_13, dX4_endsWithPeriod_14, dX4_endsWithPeriod_15, dX4_endsWithPeriod_17, dX4_endsWithPeriod_20, dX4_endsWithPeriod_21, dX4_endsWithPeriod_24, dX4_endsWithPeriod_25, dX4_endsWithPeriod_26, dX4_endsWithPeriod_27, dX4_endsWithPeriod_28, dX4_endsWithPeriod_30, dX4_endsWithPeriod_32, dX4_endsWithPeriod_35, dX4_endsWithPeriod_36, dX4_endsWithPeriod_37, dX4_endsWithPeriod_38, dX4_endsWithPeriod_40, dX4_endsWithPeriod_42, dX4_endsWithPeriod_44, dX4_endsWithPeriod_47, dX4_endsWithPeriod_48, dX4_endsWithPeriod_51, dX4_endsWithPeriod_52, dX4_endsWithPeriod_53, dX4_endsWithPeriod_54, dX4_endsWithPeriod_55, dX4_endsWithPeriod_58, dX4_endsWithPeriod_61, dX4_endsWithPeriod_64, dX4_endsWithPeriod_67, dX4_endsWithPeriod_68, dX4_endsWithPeriod_69, dX4_endsWithPeriod_72, dX4_endsWithPeriod_73, dX4_endsWithPeriod_75, dX4_endsWithPeriod_78, dX4_endsWithPeriod_79, dX4_endsWithPeriod_82, dX4_endsWithPeriod_83, xpX4_15, xpX4_27, xkb_13, xkb_6, xki_0, xki_1, xki_2, n_le, htj, hgi, xt_17_50, xtc_17_50, xt_32_5, xtc_32_5, xt_44_17, xtc_44_17, xt_58_m18, xtc_58_m18, xt_64_m50, xtc_64_m50, xt_69_13, xtc_69_13, xt_75_7, xtc_75_7, xt_79_4, xtc_79_4]
            refine ⟨fun q => absurd q (by omega), fun _ => ?_⟩
            refine xg_getPrs O rfl dX4_endsWithPeriod_48 ?_
            refine xg_out O (fun o1 o2 => ?_)
            refine xgo O Rt xplX4_q xclX4_q [14, 40] 30 ?_
            simp (maxSteps := 10000000) (disch := omega) only [↓reduceIte, ↓xrun_s, ↓xck_e, xdo_e, xlg_0, xlg_c, xst1_0, xst1_1, xst1_c, xst2_0, xst2_1, xst2_c, xk2_n, xk2_i, xk2_a, xk2_l, xct_i, xct_a, xct_l, xf4_0, xf4_1, xf4_2, xf4_3, List.contains_cons, List.contains_nil, Bool.or_false, Bool.false_or, Bool.or_self, Bool.true_or, Bool.or_true, cond_true, cond_false, List.set_cons_zero, List.set_cons_succ, List.length_cons, List.length_nil, true_and, and_true, xu_s, xu_u, xeqs, Nat.le_refl, not_true_eq_false, xq_10, xq_01, Int32.reduceAdd, Int32.reduceMul, Int32.reduceSub, Int32.reduceLE, Int32.reduceLT, Int32.reduceToNatClampNeg, Nat.reduceAdd, Nat.reduceMul, Nat.reduceBEq, Nat.reduceLT, Nat.reduceLeDiff, Nat.reduceEqDiff, Nat.zero_add, Bool.false_eq_true, reduceCtorEq, if_false, if_true, not_false_eq_true, true_imp_iff, false_imp_iff, imp_self, ↓xil_e, ↓xll_e, ↓xal_e, ↓xs1i_e, ↓xs2i_e, ↓xs1l_e, ↓xs2l_e, ↓xsil_e, ↓xs1_e, ↓xs2_e, ↓xs1a_e, ↓xsia_e, ↓xsiia_e, ↓xslia_e, ↓xsaia_e, ↓xsva_e, ↓xse1i_e, ↓xse1l_e, ↓xse1a_e, ↓xse0_e, ↓xfv_0, ↓xfv_c, ↓xgf_e, ↓xpf_e, ↓xia_e, ↓xia_n, ↓xba_e, ↓xba_n, ↓xla_e, ↓xla_n, ↓xob_e, ↓xra_e, ↓xno_e, ↓xle_e, ↓xnr_i, ↓xnr_b0, ↓xnr_b1, ↓xnr_n, ↓xdo_e, ↓xkl_0, ↓xe_iconst, ↓xe_bipush, ↓xe_iadd, ↓xe_isub, ↓xe_imul, ↓xe_iload, ↓xe_iload_n, ↓xe_aload_n, ↓xe_istore, ↓xe_istore_n, ↓xe_iinc, ↓xe_goto, ↓xe_getfield, ↓xe_iaload, ↓xe_ireturn, ↓xe_icmp_lt, ↓xe_if_ge, ↓xe_icmp_ge, ↓xe_icmp_gt, ↓xe_getstatic, dX4_endsWithPeriod_0, dX4_endsWithPeriod_1, dX4_endsWithPeriod_4, dX4_endsWithPeriod_5, dX4_endsWithPeriod_6, dX4_endsWithPeriod_8, dX4_endsWithPeriod_9, dX4_endsWithPeriod_10, dX4_endsWithPeriod_11, dX4_endsWithPeriod_12, dX4_endsWithPeriod_13, dX4_endsWithPeriod_14, dX4_endsWithPeriod_15, dX4_endsWithPeriod_17, dX4_endsWithPeriod_20, dX4_endsWithPeriod_21, dX4_endsWithPeriod_24, dX4_endsWithPeriod_25, dX4_endsWithPeriod_26, dX4_endsWithPeriod_27, dX4_endsWithPeriod_28, dX4_endsWithPeriod_30, dX4_endsWithPeriod_32, dX4_endsWithPeriod_35, dX4_endsWithPeriod_36, dX4_endsWithPeriod_37, dX4_endsWithPeriod_38, dX4_endsWithPeriod_40, dX4_endsWithPeriod_42, dX4_endsWithPeriod_44, dX4_endsWithPeriod_47, dX4_endsWithPeriod_48, dX4_endsWithPeriod_51, dX4_endsWithPeriod_52, dX4_endsWithPeriod_53, dX4_endsWithPeriod_54, dX4_endsWithPeriod_55, dX4_endsWithPeriod_58, dX4_endsWithPeriod_61, dX4_endsWithPeriod_64, dX4_endsWithPeriod_67, dX4_endsWithPeriod_68, dX4_endsWithPeriod_69, dX4_endsWithPeriod_72, dX4_endsWithPeriod_73, dX4_endsWithPeriod_75, dX4_endsWithPeriod_78, dX4_endsWithPeriod_79, dX4_endsWithPeriod_82, dX4_endsWithPeriod_83, xpX4_15, xpX4_27, xkb_13, xkb_6, xki_0, xki_1, xki_2, o2, xt_17_50, xtc_17_50, xt_32_5, xtc_32_5, xt_44_17, xtc_44_17, xt_58_m18, xtc_58_m18, xt_64_m50, xtc_64_m50, xt_69_13, xtc_69_13, xt_75_7, xtc_75_7, xt_79_4, xtc_79_4]
            refine xg_ialoadS O dX4_endsWithPeriod_52 (vp_in_nI (by omega) (by omega)) ?_
            rw [nI_clamp (by omega), hpr]
            refine xgo O Rt xplX4_q xclX4_q [14, 40] 30 ?_
            simp (maxSteps := 10000000) (disch := omega) only [↓reduceIte, ↓xrun_s, ↓xck_e, xdo_e, xlg_0, xlg_c, xst1_0, xst1_1, xst1_c, xst2_0, xst2_1, xst2_c, xk2_n, xk2_i, xk2_a, xk2_l, xct_i, xct_a, xct_l, xf4_0, xf4_1, xf4_2, xf4_3, List.contains_cons, List.contains_nil, Bool.or_false, Bool.false_or, Bool.or_self, Bool.true_or, Bool.or_true, cond_true, cond_false, List.set_cons_zero, List.set_cons_succ, List.length_cons, List.length_nil, true_and, and_true, xu_s, xu_u, xeqs, Nat.le_refl, not_true_eq_false, xq_10, xq_01, Int32.reduceAdd, Int32.reduceMul, Int32.reduceSub, Int32.reduceLE, Int32.reduceLT, Int32.reduceToNatClampNeg, Nat.reduceAdd, Nat.reduceMul, Nat.reduceBEq, Nat.reduceLT, Nat.reduceLeDiff, Nat.reduceEqDiff, Nat.zero_add, Bool.false_eq_true, reduceCtorEq, if_false, if_true, not_false_eq_true, true_imp_iff, false_imp_iff, imp_self, ↓xil_e, ↓xll_e, ↓xal_e, ↓xs1i_e, ↓xs2i_e, ↓xs1l_e, ↓xs2l_e, ↓xsil_e, ↓xs1_e, ↓xs2_e, ↓xs1a_e, ↓xsia_e, ↓xsiia_e, ↓xslia_e, ↓xsaia_e, ↓xsva_e, ↓xse1i_e, ↓xse1l_e, ↓xse1a_e, ↓xse0_e, ↓xfv_0, ↓xfv_c, ↓xgf_e, ↓xpf_e, ↓xia_e, ↓xia_n, ↓xba_e, ↓xba_n, ↓xla_e, ↓xla_n, ↓xob_e, ↓xra_e, ↓xno_e, ↓xle_e, ↓xnr_i, ↓xnr_b0, ↓xnr_b1, ↓xnr_n, ↓xdo_e, ↓xkl_0, ↓xe_iconst, ↓xe_bipush, ↓xe_iadd, ↓xe_isub, ↓xe_imul, ↓xe_iload, ↓xe_iload_n, ↓xe_aload_n, ↓xe_istore, ↓xe_istore_n, ↓xe_iinc, ↓xe_goto, ↓xe_getfield, ↓xe_iaload, ↓xe_ireturn, ↓xe_icmp_lt, ↓xe_if_ge, ↓xe_icmp_ge, ↓xe_icmp_gt, ↓xe_getstatic, dX4_endsWithPeriod_0, dX4_endsWithPeriod_1, dX4_endsWithPeriod_4, dX4_endsWithPeriod_5, dX4_endsWithPeriod_6, dX4_endsWithPeriod_8, dX4_endsWithPeriod_9, dX4_endsWithPeriod_10, dX4_endsWithPeriod_11, dX4_endsWithPeriod_12, dX4_endsWithPeriod_13, dX4_endsWithPeriod_14, dX4_endsWithPeriod_15, dX4_endsWithPeriod_17, dX4_endsWithPeriod_20, dX4_endsWithPeriod_21, dX4_endsWithPeriod_24, dX4_endsWithPeriod_25, dX4_endsWithPeriod_26, dX4_endsWithPeriod_27, dX4_endsWithPeriod_28, dX4_endsWithPeriod_30, dX4_endsWithPeriod_32, dX4_endsWithPeriod_35, dX4_endsWithPeriod_36, dX4_endsWithPeriod_37, dX4_endsWithPeriod_38, dX4_endsWithPeriod_40, dX4_endsWithPeriod_42, dX4_endsWithPeriod_44, dX4_endsWithPeriod_47, dX4_endsWithPeriod_48, dX4_endsWithPeriod_51, dX4_endsWithPeriod_52, dX4_endsWithPeriod_53, dX4_endsWithPeriod_54, dX4_endsWithPeriod_55, dX4_endsWithPeriod_58, dX4_endsWithPeriod_61, dX4_endsWithPeriod_64, dX4_endsWithPeriod_67, dX4_endsWithPeriod_68, dX4_endsWithPeriod_69, dX4_endsWithPeriod_72, dX4_endsWithPeriod_73, dX4_endsWithPeriod_75, dX4_endsWithPeriod_78, dX4_endsWithPeriod_79, dX4_endsWithPeriod_82, dX4_endsWithPeriod_83, xpX4_15, xpX4_27, xkb_13, xkb_6, xki_0, xki_1, xki_2, nj, xt_17_50, xtc_17_50, xt_32_5, xtc_32_5, xt_44_17, xtc_44_17, xt_58_m18, xtc_58_m18, xt_64_m50, xtc_64_m50, xt_69_13, xtc_69_13, xt_75_7, xtc_75_7, xt_79_4, xtc_79_4]
            refine ihm (j + 1) (by omega) _ (fun hall => ?_)
            rw [hV2 hall, pk_mul, Nat.mul_assoc, ← Nat.pow_succ]
        have e0 : nI 0 = 0 := rfl
        have := inner (x i).toNat 0 (by omega) V' (fun hall => by rw [hV hall]; simp)
        exact this
      · have := (perB_iff.mp h).1 i (by omega)
        omega
  have e1 : (1 : Int32) = nI 1 := rfl
  refine xgo O Rt xplX4_q xclX4_q [14] 60 ?_
  simp (maxSteps := 10000000) (disch := omega) only [↓reduceIte, ↓xrun_s, ↓xck_e, xdo_e, xlg_0, xlg_c, xst1_0, xst1_1, xst1_c, xst2_0, xst2_1, xst2_c, xk2_n, xk2_i, xk2_a, xk2_l, xct_i, xct_a, xct_l, xf4_0, xf4_1, xf4_2, xf4_3, List.contains_cons, List.contains_nil, Bool.or_false, Bool.false_or, Bool.or_self, Bool.true_or, Bool.or_true, cond_true, cond_false, List.set_cons_zero, List.set_cons_succ, List.length_cons, List.length_nil, true_and, and_true, xu_s, xu_u, xeqs, Nat.le_refl, not_true_eq_false, xq_10, xq_01, Int32.reduceAdd, Int32.reduceMul, Int32.reduceSub, Int32.reduceLE, Int32.reduceLT, Int32.reduceToNatClampNeg, Nat.reduceAdd, Nat.reduceMul, Nat.reduceBEq, Nat.reduceLT, Nat.reduceLeDiff, Nat.reduceEqDiff, Nat.zero_add, Bool.false_eq_true, reduceCtorEq, if_false, if_true, not_false_eq_true, true_imp_iff, false_imp_iff, imp_self, ↓xil_e, ↓xll_e, ↓xal_e, ↓xs1i_e, ↓xs2i_e, ↓xs1l_e, ↓xs2l_e, ↓xsil_e, ↓xs1_e, ↓xs2_e, ↓xs1a_e, ↓xsia_e, ↓xsiia_e, ↓xslia_e, ↓xsaia_e, ↓xsva_e, ↓xse1i_e, ↓xse1l_e, ↓xse1a_e, ↓xse0_e, ↓xfv_0, ↓xfv_c, ↓xgf_e, ↓xpf_e, ↓xia_e, ↓xia_n, ↓xba_e, ↓xba_n, ↓xla_e, ↓xla_n, ↓xob_e, ↓xra_e, ↓xno_e, ↓xle_e, ↓xnr_i, ↓xnr_b0, ↓xnr_b1, ↓xnr_n, ↓xdo_e, ↓xkl_0, ↓xe_iconst, ↓xe_bipush, ↓xe_iadd, ↓xe_isub, ↓xe_imul, ↓xe_iload, ↓xe_iload_n, ↓xe_aload_n, ↓xe_istore, ↓xe_istore_n, ↓xe_iinc, ↓xe_goto, ↓xe_getfield, ↓xe_iaload, ↓xe_ireturn, ↓xe_icmp_lt, ↓xe_if_ge, ↓xe_icmp_ge, ↓xe_icmp_gt, ↓xe_getstatic, dX4_endsWithPeriod_0, dX4_endsWithPeriod_1, dX4_endsWithPeriod_4, dX4_endsWithPeriod_5, dX4_endsWithPeriod_6, dX4_endsWithPeriod_8, dX4_endsWithPeriod_9, dX4_endsWithPeriod_10, dX4_endsWithPeriod_11, dX4_endsWithPeriod_12, dX4_endsWithPeriod_13, dX4_endsWithPeriod_14, dX4_endsWithPeriod_15, dX4_endsWithPeriod_17, dX4_endsWithPeriod_20, dX4_endsWithPeriod_21, dX4_endsWithPeriod_24, dX4_endsWithPeriod_25, dX4_endsWithPeriod_26, dX4_endsWithPeriod_27, dX4_endsWithPeriod_28, dX4_endsWithPeriod_30, dX4_endsWithPeriod_32, dX4_endsWithPeriod_35, dX4_endsWithPeriod_36, dX4_endsWithPeriod_37, dX4_endsWithPeriod_38, dX4_endsWithPeriod_40, dX4_endsWithPeriod_42, dX4_endsWithPeriod_44, dX4_endsWithPeriod_47, dX4_endsWithPeriod_48, dX4_endsWithPeriod_51, dX4_endsWithPeriod_52, dX4_endsWithPeriod_53, dX4_endsWithPeriod_54, dX4_endsWithPeriod_55, dX4_endsWithPeriod_58, dX4_endsWithPeriod_61, dX4_endsWithPeriod_64, dX4_endsWithPeriod_67, dX4_endsWithPeriod_68, dX4_endsWithPeriod_69, dX4_endsWithPeriod_72, dX4_endsWithPeriod_73, dX4_endsWithPeriod_75, dX4_endsWithPeriod_78, dX4_endsWithPeriod_79, dX4_endsWithPeriod_82, dX4_endsWithPeriod_83, xpX4_15, xpX4_27, xkb_13, xkb_6, xki_0, xki_1, xki_2, hT, cm1, c6, xt_17_50, xtc_17_50, xt_32_5, xtc_32_5, xt_44_17, xtc_44_17, xt_58_m18, xtc_58_m18, xt_64_m50, xtc_64_m50, xt_69_13, xtc_69_13, xt_75_7, xtc_75_7, xt_79_4, xtc_79_4]
  exact outer 6 0 (by omega) (fun q hq => absurd hq (by omega)) 1 none none (fun _ => rfl)
