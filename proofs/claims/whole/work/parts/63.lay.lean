/-! ===== TuningTablesModel: its world's fixed parts; within, logOf, lay ===== -/
theorem dX6_within_0 : decode cX6_within 0 = .ok (.iload_n 0, 1) := by decide +kernel
theorem dX6_within_1 : decode cX6_within 1 = .ok (.iload_n 1, 1) := by decide +kernel
theorem dX6_within_2 : decode cX6_within 2 = .ok (.if_icmp .lt 12, 3) := by decide +kernel
theorem dX6_within_5 : decode cX6_within 5 = .ok (.iload_n 0, 1) := by decide +kernel
theorem dX6_within_6 : decode cX6_within 6 = .ok (.iload_n 2, 1) := by decide +kernel
theorem dX6_within_7 : decode cX6_within 7 = .ok (.if_icmp .gt 7, 3) := by decide +kernel
theorem dX6_within_10 : decode cX6_within 10 = .ok (.iconst 1, 1) := by decide +kernel
theorem dX6_within_11 : decode cX6_within 11 = .ok (.goto 4, 3) := by decide +kernel
theorem dX6_within_14 : decode cX6_within 14 = .ok (.iconst 0, 1) := by decide +kernel
theorem dX6_within_15 : decode cX6_within 15 = .ok (.ireturn, 1) := by decide +kernel
theorem dX6_logOf_0 : decode cX6_logOf 0 = .ok (.lconst 0, 1) := by decide +kernel
theorem dX6_logOf_1 : decode cX6_logOf 1 = .ok (.lstore_n 2, 1) := by decide +kernel
theorem dX6_logOf_2 : decode cX6_logOf 2 = .ok (.iconst 0, 1) := by decide +kernel
theorem dX6_logOf_3 : decode cX6_logOf 3 = .ok (.istore 4, 2) := by decide +kernel
theorem dX6_logOf_5 : decode cX6_logOf 5 = .ok (.iload 4, 2) := by decide +kernel
theorem dX6_logOf_7 : decode cX6_logOf 7 = .ok (.bipush 6, 2) := by decide +kernel
theorem dX6_logOf_9 : decode cX6_logOf 9 = .ok (.if_icmp .ge 26, 3) := by decide +kernel
theorem dX6_logOf_12 : decode cX6_logOf 12 = .ok (.lload_n 2, 1) := by decide +kernel
theorem dX6_logOf_13 : decode cX6_logOf 13 = .ok (.aload_n 1, 1) := by decide +kernel
theorem dX6_logOf_14 : decode cX6_logOf 14 = .ok (.iload 4, 2) := by decide +kernel
theorem dX6_logOf_16 : decode cX6_logOf 16 = .ok (.iaload, 1) := by decide +kernel
theorem dX6_logOf_17 : decode cX6_logOf 17 = .ok (.i2l, 1) := by decide +kernel
theorem dX6_logOf_18 : decode cX6_logOf 18 = .ok (.aload_n 0, 1) := by decide +kernel
theorem dX6_logOf_19 : decode cX6_logOf 19 = .ok (.getfield 19, 3) := by decide +kernel
theorem dX6_logOf_22 : decode cX6_logOf 22 = .ok (.iload 4, 2) := by decide +kernel
theorem dX6_logOf_24 : decode cX6_logOf 24 = .ok (.iaload, 1) := by decide +kernel
theorem dX6_logOf_25 : decode cX6_logOf 25 = .ok (.i2l, 1) := by decide +kernel
theorem dX6_logOf_26 : decode cX6_logOf 26 = .ok (.lmul, 1) := by decide +kernel
theorem dX6_logOf_27 : decode cX6_logOf 27 = .ok (.ladd, 1) := by decide +kernel
theorem dX6_logOf_28 : decode cX6_logOf 28 = .ok (.lstore_n 2, 1) := by decide +kernel
theorem dX6_logOf_29 : decode cX6_logOf 29 = .ok (.iinc 4 1, 3) := by decide +kernel
theorem dX6_logOf_32 : decode cX6_logOf 32 = .ok (.goto (-27), 3) := by decide +kernel
theorem dX6_logOf_35 : decode cX6_logOf 35 = .ok (.lload_n 2, 1) := by decide +kernel
theorem dX6_logOf_36 : decode cX6_logOf 36 = .ok (.lreturn, 1) := by decide +kernel
theorem dX6_lay_0 : decode cX6_lay 0 = .ok (.iconst 1, 1) := by decide +kernel
theorem dX6_lay_1 : decode cX6_lay 1 = .ok (.istore 4, 2) := by decide +kernel
theorem dX6_lay_3 : decode cX6_lay 3 = .ok (.aload_n 3, 1) := by decide +kernel
theorem dX6_lay_4 : decode cX6_lay 4 = .ok (.iconst 0, 1) := by decide +kernel
theorem dX6_lay_5 : decode cX6_lay 5 = .ok (.lconst 1, 1) := by decide +kernel
theorem dX6_lay_6 : decode cX6_lay 6 = .ok (.lastore, 1) := by decide +kernel
theorem dX6_lay_7 : decode cX6_lay 7 = .ok (.iconst 0, 1) := by decide +kernel
theorem dX6_lay_8 : decode cX6_lay 8 = .ok (.istore 5, 2) := by decide +kernel
theorem dX6_lay_10 : decode cX6_lay 10 = .ok (.iload 5, 2) := by decide +kernel
theorem dX6_lay_12 : decode cX6_lay 12 = .ok (.bipush 6, 2) := by decide +kernel
theorem dX6_lay_14 : decode cX6_lay 14 = .ok (.if_icmp .ge 80, 3) := by decide +kernel
theorem dX6_lay_17 : decode cX6_lay 17 = .ok (.iload_n 2, 1) := by decide +kernel
theorem dX6_lay_18 : decode cX6_lay 18 = .ok (.aload_n 1, 1) := by decide +kernel
theorem dX6_lay_19 : decode cX6_lay 19 = .ok (.iload 5, 2) := by decide +kernel
theorem dX6_lay_21 : decode cX6_lay 21 = .ok (.iaload, 1) := by decide +kernel
theorem dX6_lay_22 : decode cX6_lay 22 = .ok (.imul, 1) := by decide +kernel
theorem dX6_lay_23 : decode cX6_lay 23 = .ok (.istore 6, 2) := by decide +kernel
theorem dX6_lay_25 : decode cX6_lay 25 = .ok (.iload 6, 2) := by decide +kernel
theorem dX6_lay_27 : decode cX6_lay 27 = .ok (.ifCond .le 61, 3) := by decide +kernel
theorem dX6_lay_30 : decode cX6_lay 30 = .ok (.lconst 1, 1) := by decide +kernel
theorem dX6_lay_31 : decode cX6_lay 31 = .ok (.lstore 7, 2) := by decide +kernel
theorem dX6_lay_33 : decode cX6_lay 33 = .ok (.iload 6, 2) := by decide +kernel
theorem dX6_lay_35 : decode cX6_lay 35 = .ok (.ifCond .le 40, 3) := by decide +kernel
theorem dX6_lay_38 : decode cX6_lay 38 = .ok (.lload 7, 2) := by decide +kernel
theorem dX6_lay_40 : decode cX6_lay 40 = .ok (.aload_n 0, 1) := by decide +kernel
theorem dX6_lay_41 : decode cX6_lay 41 = .ok (.getfield 7, 3) := by decide +kernel
theorem dX6_lay_44 : decode cX6_lay 44 = .ok (.iload 5, 2) := by decide +kernel
theorem dX6_lay_46 : decode cX6_lay 46 = .ok (.iaload, 1) := by decide +kernel
theorem dX6_lay_47 : decode cX6_lay 47 = .ok (.i2l, 1) := by decide +kernel
theorem dX6_lay_48 : decode cX6_lay 48 = .ok (.lmul, 1) := by decide +kernel
theorem dX6_lay_49 : decode cX6_lay 49 = .ok (.ldc2_w 73, 3) := by decide +kernel
theorem dX6_lay_52 : decode cX6_lay 52 = .ok (.lcmp, 1) := by decide +kernel
theorem dX6_lay_53 : decode cX6_lay 53 = .ok (.ifCond .ge 22, 3) := by decide +kernel
theorem dX6_lay_56 : decode cX6_lay 56 = .ok (.lload 7, 2) := by decide +kernel
theorem dX6_lay_58 : decode cX6_lay 58 = .ok (.aload_n 0, 1) := by decide +kernel
theorem dX6_lay_59 : decode cX6_lay 59 = .ok (.getfield 7, 3) := by decide +kernel
theorem dX6_lay_62 : decode cX6_lay 62 = .ok (.iload 5, 2) := by decide +kernel
theorem dX6_lay_64 : decode cX6_lay 64 = .ok (.iaload, 1) := by decide +kernel
theorem dX6_lay_65 : decode cX6_lay 65 = .ok (.i2l, 1) := by decide +kernel
theorem dX6_lay_66 : decode cX6_lay 66 = .ok (.lmul, 1) := by decide +kernel
theorem dX6_lay_67 : decode cX6_lay 67 = .ok (.lstore 7, 2) := by decide +kernel
theorem dX6_lay_69 : decode cX6_lay 69 = .ok (.iinc 6 (-1), 3) := by decide +kernel
theorem dX6_lay_72 : decode cX6_lay 72 = .ok (.goto (-39), 3) := by decide +kernel
theorem dX6_lay_75 : decode cX6_lay 75 = .ok (.aload_n 3, 1) := by decide +kernel
theorem dX6_lay_76 : decode cX6_lay 76 = .ok (.iload 4, 2) := by decide +kernel
theorem dX6_lay_78 : decode cX6_lay 78 = .ok (.lload 7, 2) := by decide +kernel
theorem dX6_lay_80 : decode cX6_lay 80 = .ok (.invokestatic 75, 3) := by decide +kernel
theorem dX6_lay_83 : decode cX6_lay 83 = .ok (.istore 4, 2) := by decide +kernel
theorem dX6_lay_85 : decode cX6_lay 85 = .ok (.goto (-60), 3) := by decide +kernel
theorem dX6_lay_88 : decode cX6_lay 88 = .ok (.iinc 5 1, 3) := by decide +kernel
theorem dX6_lay_91 : decode cX6_lay 91 = .ok (.goto (-81), 3) := by decide +kernel
theorem dX6_lay_94 : decode cX6_lay 94 = .ok (.iload 4, 2) := by decide +kernel
theorem dX6_lay_96 : decode cX6_lay 96 = .ok (.ireturn, 1) := by decide +kernel
abbrev x6 (v : Nat) (i3 i4 i5 i14 i15 i16 i17 i18 i19 i21 i22 : Int32) : xE := xOb 6 [.ref (v + 1), .ref (v + 2), .ref (v + 3), .int i3, .int i4, .int i5, .ref (v + 4), .ref (v + 5), .ref (v + 6), .ref (v + 7), .int 0, .ref (v + 8), .ref (v + 9), .ref (v + 10), .int i14, .int i15, .int i16, .int i17, .int i18, .int i19, .ref (v + 11), .int i21, .int i22, .int 0, .int 0, .ref (v + 12), .ref (v + 13), .ref (v + 14), .ref (v + 15), .ref (v + 16)]
def lgn : Nat → Nat := fun k => match k with
  | 0 => 1048576 | 1 => 1661954 | 2 => 2434718 | 3 => 2943725 | 4 => 3627477 | _ => 3880192
theorem lgn_le {k : Nat} : lgn k ≤ 3880192 := by unfold lgn; split <;> omega
def RfC (f : xH) (v : Nat) : Prop := (∃ pr : Nat → Int32, f (v + 1) = some (xI 6 pr) ∧ ∀ k, k < 6 → pr k = nI (prm k)) ∧ ∃ lg : Nat → Int32, f (v + 2) = some (xI 6 lg) ∧ ∀ k, k < 6 → lg k = nI (lgn k)
theorem RfC.kept {f f' : xH} {v : Nat} (h : RfC f v) (k1 : f' (v + 1) = f (v + 1)) (k2 : f' (v + 2) = f (v + 2)) : RfC f' v := by
  obtain ⟨⟨pr, h1, h2⟩, lg, h3, h4⟩ := h
  exact ⟨⟨pr, k1.trans h1, h2⟩, lg, k2.trans h3, h4⟩
def RowOK (f : xH) (a : Nat) : Prop := ∃ d : Nat → Nat, f a = some (xJ 2000 (fun i => jN (d i)))
/-- an array of six holds a note -/
def E6 (f : xH) (a : Nat) (e : xZ) : Prop := ∃ ev : Nat → Int32, f a = some (xI 6 ev) ∧ ∀ k, k < 6 → (ev k).toInt = e k
theorem E6.kept {f f' : xH} {a : Nat} {e : xZ} (h : E6 f a e) (k : f' a = f a) : E6 f' a e := by
  obtain ⟨ev, h1, h2⟩ := h
  exact ⟨ev, k.trans h1, h2⟩
theorem i64_nI {n : Nat} (h : n < 2147483648) : (nI n).toInt64 = jN n := by
  apply Int64.toInt_inj.mp
  rw [Int32.toInt_toInt64, nI_toInt (by omega), jN_int (by omega)]
theorem nI_m1 {n : Nat} (h : 1 ≤ n) : nI n + (-1) = nI (n - 1) := by
  rw [← pk_sub (b := 1) h]
  exact (Int32.sub_eq_add_neg (nI n) (nI 1)).symm
set_option maxRecDepth 100000 in
set_option maxHeartbeats 4000000 in
theorem c6_within (V : xV) {z : Nat} {f : xH} {a lo hi : Int32} {post : Option Value → xH → Nat → Prop} (hp1 : lo.toInt ≤ a.toInt → a.toInt ≤ hi.toInt → post (some (.int 1)) f z) (hp0 : ¬ (lo.toInt ≤ a.toInt ∧ a.toInt ≤ hi.toInt) → post (some (.int 0)) f z) :
    xMet V yX6_within cX6_within 3 (some .boolean) 1 0 0 [.int a, .int lo, .int hi] f z post := by
  refine xMet_of false (by decide) (Nat.le_of_ble_eq_true rfl) (fun h => by cases h) (fun X hX O Rt => ?_)
  have O : xO X cX6_within 3 RX6 1 0 0 false := O
  show xG X 0 [some (.int a), some (.int lo), some (.int hi)] [] f (z, 0, 0)
  refine xgo O Rt xplX6_q xclX6_q [] 30 ?_
  simp (maxSteps := 10000000) (disch := omega) only [↓reduceIte, ↓xrun_s, ↓xck_e, xdo_e, xlg_0, xlg_c, xst1_0, xst1_1, xst1_c, xst2_0, xst2_1, xst2_c, xk2_n, xk2_i, xk2_a, xk2_l, xct_i, xct_a, xct_l, xf4_0, xf4_1, xf4_2, xf4_3, List.contains_cons, List.contains_nil, Bool.or_false, Bool.false_or, Bool.or_self, Bool.true_or, Bool.or_true, cond_true, cond_false, List.set_cons_zero, List.set_cons_succ, List.length_cons, List.length_nil, true_and, and_true, xu_s, xu_u, xeqs, Nat.le_refl, not_true_eq_false, xq_10, xq_01, Int32.reduceAdd, Int32.reduceMul, Int32.reduceSub, Int32.reduceLE, Int32.reduceLT, Int32.reduceToNatClampNeg, Nat.reduceAdd, Nat.reduceMul, Nat.reduceBEq, Nat.reduceLT, Nat.reduceLeDiff, Nat.reduceEqDiff, Nat.zero_add, Bool.false_eq_true, reduceCtorEq, if_false, if_true, not_false_eq_true, true_imp_iff, false_imp_iff, imp_self, ↓xil_e, ↓xll_e, ↓xal_e, ↓xs1i_e, ↓xs2i_e, ↓xs1l_e, ↓xs2l_e, ↓xsil_e, ↓xs1_e, ↓xs2_e, ↓xs1a_e, ↓xsia_e, ↓xsiia_e, ↓xslia_e, ↓xsaia_e, ↓xsva_e, ↓xse1i_e, ↓xse1l_e, ↓xse1a_e, ↓xse0_e, ↓xfv_0, ↓xfv_c, ↓xgf_e, ↓xpf_e, ↓xia_e, ↓xia_n, ↓xba_e, ↓xba_n, ↓xla_e, ↓xla_n, ↓xob_e, ↓xra_e, ↓xno_e, ↓xle_e, ↓xnr_i, ↓xnr_b0, ↓xnr_b1, ↓xnr_n, ↓xdo_e, ↓xkl_0, ↓xe_iconst, ↓xe_iload_n, ↓xe_goto, ↓xe_ireturn, ↓xe_icmp_lt, ↓xe_icmp_gt, dX6_within_0, dX6_within_1, dX6_within_2, dX6_within_5, dX6_within_6, dX6_within_7, dX6_within_10, dX6_within_11, dX6_within_14, dX6_within_15, xki_0, xki_1, n_lt, n_le, xt_2_12, xtc_2_12, xt_7_7, xtc_7_7, xt_11_4, xtc_11_4]
  exact ⟨fun q => hp0 (by omega), fun q => ⟨fun q2 => hp0 (by omega), fun q2 => hp1 (by omega) (by omega)⟩⟩
/-- the estimate of a logarithm -/
def lq (e : xZ) : Nat → Int
  | 0 => 0
  | k + 1 => lq e k + e k * (lgn k : Int)
theorem lq_bd {e : xZ} {B : Int} (h : bd e B) (hB : 0 ≤ B) : ∀ k : Nat, k ≤ 6 → -((k : Int) * (B * 3880192)) ≤ lq e k ∧ lq e k ≤ (k : Int) * (B * 3880192)
  | 0, _ => by simp [lq]
  | k + 1, hk => by
    have h1 := lq_bd h hB k (by omega)
    have h2 := h k (by omega)
    have h3 := lgn_le (k := k)
    have h4 := mulb (a := e k) (b := (lgn k : Int)) (A := B) (B := 3880192) h2.1 h2.2 (by omega) (by omega)
    show -(((k + 1 : Nat) : Int) * (B * 3880192)) ≤ lq e k + e k * (lgn k : Int) ∧ lq e k + e k * (lgn k : Int) ≤ ((k + 1 : Nat) : Int) * (B * 3880192)
    have e1 : ((k + 1 : Nat) : Int) * (B * 3880192) = (k : Int) * (B * 3880192) + B * 3880192 := by rw [Int.natCast_add, Int.add_mul]; omega
    rw [e1]
    omega
set_option maxRecDepth 100000 in
set_option maxHeartbeats 4000000 in
theorem c6_logOf (V : xV) {v z ea : Nat} {f : xH} {i3 i4 i5 i14 i15 i16 i17 i18 i19 i21 i22 : Int32} {e : xZ} {post : Option Value → xH → Nat → Prop} (h6 : f v = some (x6 v i3 i4 i5 i14 i15 i16 i17 i18 i19 i21 i22)) (hC : RfC f v) (he : E6 f ea e) (hb : bd e 80000) (hp : ∀ r : Int64, r.toInt = lq e 6 → post (some (.long r)) f z) :
    xMet V yX6_logOf cX6_logOf 5 (some .long) 1 0 0 [.ref v, .ref ea] f z post := by
  refine xMet_of false (by decide) (Nat.le_of_ble_eq_true rfl) (fun h => by cases h) (fun X hX O Rt => ?_)
  have O : xO X cX6_logOf 5 RX6 1 0 0 false := O
  show xG X 0 [some (.ref v), some (.ref ea), none, none, none] [] f (z, 0, 0)
  obtain ⟨-, lg, hl1, hl2⟩ := hC
  obtain ⟨ev, he1, he2⟩ := he
  have six : (6 : Int32).toInt = 6 := rfl
  have loop : ∀ n k : Nat, k + n = 6 → ∀ r : Int64, r.toInt = lq e k → xG X 5 [some (.ref v), some (.ref ea), some (.long r), none, some (.int (nI k))] [] f (z, 0, 0) := by
    intro n
    induction n with
    | zero =>
      intro k hk r hr
      have : k = 6 := by omega
      subst this
      have hti : (nI 6).toInt = 6 := rfl
      refine xgo O Rt xplX6_q xclX6_q [5] 30 ?_
      simp (maxSteps := 10000000) (disch := omega) only [↓reduceIte, ↓xrun_s, ↓xck_e, xdo_e, xlg_0, xlg_c, xst1_0, xst1_1, xst1_c, xst2_0, xst2_1, xst2_c, xk2_n, xk2_i, xk2_a, xk2_l, xct_i, xct_a, xct_l, xf4_0, xf4_1, xf4_2, xf4_3, List.contains_cons, List.contains_nil, Bool.or_false, Bool.false_or, Bool.or_self, Bool.true_or, Bool.or_true, cond_true, cond_false, List.set_cons_zero, List.set_cons_succ, List.length_cons, List.length_nil, true_and, and_true, xu_s, xu_u, xeqs, Nat.le_refl, not_true_eq_false, xq_10, xq_01, Int32.reduceAdd, Int32.reduceMul, Int32.reduceSub, Int32.reduceLE, Int32.reduceLT, Int32.reduceToNatClampNeg, Nat.reduceAdd, Nat.reduceMul, Nat.reduceBEq, Nat.reduceLT, Nat.reduceLeDiff, Nat.reduceEqDiff, Nat.zero_add, Bool.false_eq_true, reduceCtorEq, if_false, if_true, not_false_eq_true, true_imp_iff, false_imp_iff, imp_self, ↓xil_e, ↓xll_e, ↓xal_e, ↓xs1i_e, ↓xs2i_e, ↓xs1l_e, ↓xs2l_e, ↓xsil_e, ↓xs1_e, ↓xs2_e, ↓xs1a_e, ↓xsia_e, ↓xsiia_e, ↓xslia_e, ↓xsaia_e, ↓xsva_e, ↓xse1i_e, ↓xse1l_e, ↓xse1a_e, ↓xse0_e, ↓xfv_0, ↓xfv_c, ↓xgf_e, ↓xpf_e, ↓xia_e, ↓xia_n, ↓xba_e, ↓xba_n, ↓xla_e, ↓xla_n, ↓xob_e, ↓xra_e, ↓xno_e, ↓xle_e, ↓xnr_i, ↓xnr_b0, ↓xnr_b1, ↓xnr_n, ↓xdo_e, ↓xkl_0, ↓xe_iconst, ↓xe_bipush, ↓xe_lconst, ↓xe_ladd, ↓xe_lmul, ↓xe_i2l, ↓xe_iload, ↓xe_lload_n, ↓xe_aload_n, ↓xe_istore, ↓xe_lstore_n, ↓xe_iinc, ↓xe_goto, ↓xe_getfield, ↓xe_iaload, ↓xe_lreturn, ↓xe_icmp_ge, dX6_logOf_0, dX6_logOf_1, dX6_logOf_2, dX6_logOf_3, dX6_logOf_5, dX6_logOf_7, dX6_logOf_9, dX6_logOf_12, dX6_logOf_13, dX6_logOf_14, dX6_logOf_16, dX6_logOf_17, dX6_logOf_18, dX6_logOf_19, dX6_logOf_22, dX6_logOf_24, dX6_logOf_25, dX6_logOf_26, dX6_logOf_27, dX6_logOf_28, dX6_logOf_29, dX6_logOf_32, dX6_logOf_35, dX6_logOf_36, xpX6_19, xkb_6, xki_0, xki_1, xkl_0, xkl_1, n_le, six, hti, xt_9_26, xtc_9_26, xt_32_m27, xtc_32_m27]
      exact ⟨fun _ => hp r hr, fun q => absurd (by omega) q⟩
    | succ n ih =>
      intro k hk r hr
      have hti : (nI k).toInt = (k : Int) := nI_int (by omega)
      have nk : nI k + 1 = nI (k + 1) := nI_1 k
      have v0 : vp_in (nI k) 6 := vp_in_nI (by omega) (by omega)
      have v1 : (nI k).toNatClampNeg = k := nI_clamp (by omega)
      have hlk := hl2 k (by omega)
      refine xgo O Rt xplX6_q xclX6_q [5] 30 ?_
      simp (maxSteps := 10000000) (disch := omega) only [↓reduceIte, ↓xrun_s, ↓xck_e, xdo_e, xlg_0, xlg_c, xst1_0, xst1_1, xst1_c, xst2_0, xst2_1, xst2_c, xk2_n, xk2_i, xk2_a, xk2_l, xct_i, xct_a, xct_l, xf4_0, xf4_1, xf4_2, xf4_3, List.contains_cons, List.contains_nil, Bool.or_false, Bool.false_or, Bool.or_self, Bool.true_or, Bool.or_true, cond_true, cond_false, List.set_cons_zero, List.set_cons_succ, List.length_cons, List.length_nil, true_and, and_true, xu_s, xu_u, xeqs, Nat.le_refl, not_true_eq_false, xq_10, xq_01, Int32.reduceAdd, Int32.reduceMul, Int32.reduceSub, Int32.reduceLE, Int32.reduceLT, Int32.reduceToNatClampNeg, Nat.reduceAdd, Nat.reduceMul, Nat.reduceBEq, Nat.reduceLT, Nat.reduceLeDiff, Nat.reduceEqDiff, Nat.zero_add, Bool.false_eq_true, reduceCtorEq, if_false, if_true, not_false_eq_true, true_imp_iff, false_imp_iff, imp_self, ↓xil_e, ↓xll_e, ↓xal_e, ↓xs1i_e, ↓xs2i_e, ↓xs1l_e, ↓xs2l_e, ↓xsil_e, ↓xs1_e, ↓xs2_e, ↓xs1a_e, ↓xsia_e, ↓xsiia_e, ↓xslia_e, ↓xsaia_e, ↓xsva_e, ↓xse1i_e, ↓xse1l_e, ↓xse1a_e, ↓xse0_e, ↓xfv_0, ↓xfv_c, ↓xgf_e, ↓xpf_e, ↓xia_e, ↓xia_n, ↓xba_e, ↓xba_n, ↓xla_e, ↓xla_n, ↓xob_e, ↓xra_e, ↓xno_e, ↓xle_e, ↓xnr_i, ↓xnr_b0, ↓xnr_b1, ↓xnr_n, ↓xdo_e, ↓xkl_0, ↓xe_iconst, ↓xe_bipush, ↓xe_lconst, ↓xe_ladd, ↓xe_lmul, ↓xe_i2l, ↓xe_iload, ↓xe_lload_n, ↓xe_aload_n, ↓xe_istore, ↓xe_lstore_n, ↓xe_iinc, ↓xe_goto, ↓xe_getfield, ↓xe_iaload, ↓xe_lreturn, ↓xe_icmp_ge, dX6_logOf_0, dX6_logOf_1, dX6_logOf_2, dX6_logOf_3, dX6_logOf_5, dX6_logOf_7, dX6_logOf_9, dX6_logOf_12, dX6_logOf_13, dX6_logOf_14, dX6_logOf_16, dX6_logOf_17, dX6_logOf_18, dX6_logOf_19, dX6_logOf_22, dX6_logOf_24, dX6_logOf_25, dX6_logOf_26, dX6_logOf_27, dX6_logOf_28, dX6_logOf_29, dX6_logOf_32, dX6_logOf_35, dX6_logOf_36, xpX6_19, xkb_6, xki_0, xki_1, xkl_0, xkl_1, n_le, six, hti, h6, hl1, he1, v0, v1, nk, xt_9_26, xtc_9_26, xt_32_m27, xtc_32_m27]
      refine ⟨fun q => absurd q (by omega), fun _ => ih (k + 1) (by omega) _ ?_⟩
      have h1 := lq_bd hb (by omega) k (by omega)
      have h2 := hb k (by omega)
      have h3 := lgn_le (k := k)
      have h4 := mulb (a := e k) (b := (lgn k : Int)) (A := 80000) (B := 3880192) h2.1 h2.2 (by omega) (by omega)
      have e1 : (ev k).toInt64.toInt = e k := by rw [Int32.toInt_toInt64]; exact he2 k (by omega)
      have e2 : (lg k).toInt64.toInt = (lgn k : Int) := by rw [hlk, i64_nI (by omega), jN_int (by omega)]
      have e3 : ((ev k).toInt64 * (lg k).toInt64).toInt = e k * (lgn k : Int) := by rw [m_mul (by rw [e1, e2]; omega) (by rw [e1, e2]; omega), e1, e2]
      rw [m_add (by rw [hr, e3]; omega) (by rw [hr, e3]; omega), hr, e3]
      rfl
  have z0 : (0 : Int64).toInt = 0 := rfl
  refine xgo O Rt xplX6_q xclX6_q [5] 30 ?_
  simp (maxSteps := 10000000) (disch := omega) only [↓reduceIte, ↓xrun_s, ↓xck_e, xdo_e, xlg_0, xlg_c, xst1_0, xst1_1, xst1_c, xst2_0, xst2_1, xst2_c, xk2_n, xk2_i, xk2_a, xk2_l, xct_i, xct_a, xct_l, xf4_0, xf4_1, xf4_2, xf4_3, List.contains_cons, List.contains_nil, Bool.or_false, Bool.false_or, Bool.or_self, Bool.true_or, Bool.or_true, cond_true, cond_false, List.set_cons_zero, List.set_cons_succ, List.length_cons, List.length_nil, true_and, and_true, xu_s, xu_u, xeqs, Nat.le_refl, not_true_eq_false, xq_10, xq_01, Int32.reduceAdd, Int32.reduceMul, Int32.reduceSub, Int32.reduceLE, Int32.reduceLT, Int32.reduceToNatClampNeg, Nat.reduceAdd, Nat.reduceMul, Nat.reduceBEq, Nat.reduceLT, Nat.reduceLeDiff, Nat.reduceEqDiff, Nat.zero_add, Bool.false_eq_true, reduceCtorEq, if_false, if_true, not_false_eq_true, true_imp_iff, false_imp_iff, imp_self, ↓xil_e, ↓xll_e, ↓xal_e, ↓xs1i_e, ↓xs2i_e, ↓xs1l_e, ↓xs2l_e, ↓xsil_e, ↓xs1_e, ↓xs2_e, ↓xs1a_e, ↓xsia_e, ↓xsiia_e, ↓xslia_e, ↓xsaia_e, ↓xsva_e, ↓xse1i_e, ↓xse1l_e, ↓xse1a_e, ↓xse0_e, ↓xfv_0, ↓xfv_c, ↓xgf_e, ↓xpf_e, ↓xia_e, ↓xia_n, ↓xba_e, ↓xba_n, ↓xla_e, ↓xla_n, ↓xob_e, ↓xra_e, ↓xno_e, ↓xle_e, ↓xnr_i, ↓xnr_b0, ↓xnr_b1, ↓xnr_n, ↓xdo_e, ↓xkl_0, ↓xe_iconst, ↓xe_bipush, ↓xe_lconst, ↓xe_ladd, ↓xe_lmul, ↓xe_i2l, ↓xe_iload, ↓xe_lload_n, ↓xe_aload_n, ↓xe_istore, ↓xe_lstore_n, ↓xe_iinc, ↓xe_goto, ↓xe_getfield, ↓xe_iaload, ↓xe_lreturn, ↓xe_icmp_ge, dX6_logOf_0, dX6_logOf_1, dX6_logOf_2, dX6_logOf_3, dX6_logOf_5, dX6_logOf_7, dX6_logOf_9, dX6_logOf_12, dX6_logOf_13, dX6_logOf_14, dX6_logOf_16, dX6_logOf_17, dX6_logOf_18, dX6_logOf_19, dX6_logOf_22, dX6_logOf_24, dX6_logOf_25, dX6_logOf_26, dX6_logOf_27, dX6_logOf_28, dX6_logOf_29, dX6_logOf_32, dX6_logOf_35, dX6_logOf_36, xpX6_19, xkb_6, xki_0, xki_1, xkl_0, xkl_1, xt_9_26, xtc_9_26, xt_32_m27, xtc_32_m27]
  exact loop 6 0 (by omega) 0 z0
theorem prm_b (k : Nat) : 2 ≤ prm k ∧ prm k ≤ 13 := by unfold prm; split <;> omega
theorem pA_le (x : xZ) : ∀ {k l : Nat}, k ≤ l → pA x k ≤ pA x l := by
  intro k l h
  induction l with
  | zero => have : k = 0 := by omega
            subst this; exact Nat.le_refl _
  | succ l ih =>
    by_cases e : k = l + 1
    · rw [e]; exact Nat.le_refl _
    · have h1 := ih (by omega)
      have h2 : pA x l ≤ pA x l * prm l ^ (x l).toNat := Nat.le_mul_of_pos_right _ (Nat.pow_pos (by have := prm_b l; omega))
      exact Nat.le_trans h1 h2
theorem pA_pos (x : xZ) : ∀ k, 1 ≤ pA x k
  | 0 => Nat.le_refl _
  | k + 1 => Nat.mul_pos (pA_pos x k) (Nat.pow_pos (by have := prm_b k; omega))
set_option maxRecDepth 100000 in
set_option maxHeartbeats 8000000 in
theorem c6_lay (V : xV) {v z ea ra : Nat} {f : xH} {i3 i4 i5 i14 i15 i16 i17 i18 i19 i21 i22 sd : Int32} {e x : xZ} {post : Option Value → xH → Nat → Prop} (h6 : f v = some (x6 v i3 i4 i5 i14 i15 i16 i17 i18 i19 i21 i22)) (hC : RfC f v) (he : E6 f ea e) (hb : bd e 80000) (hsd : sd.toInt = 1 ∨ sd.toInt = -1) (hx : ∀ k, k < 6 → x k = sd.toInt * e k) (hr : RowOK f ra) (n1 : ra ≠ v) (n2 : ra ≠ v + 1) (n3 : ra ≠ ea) (hcap : pA x 6 < BB 1999)
    (hp : ∀ m d, 1 ≤ m → m ≤ 1999 → (∀ i, i < m → d i < 1000000000) → bv d m = pA x 6 → BB (m - 1) ≤ bv d m → post (some (.int (nI m))) (xu f ra (xJ 2000 (fun i => jN (d i)))) z) :
    xMet V yX6_lay cX6_lay 9 (some .int) 2 0 0 [.ref v, .ref ea, .int sd, .ref ra] f z post := by
  refine xMet_of false (by decide) (Nat.le_of_ble_eq_true rfl) (fun h => by cases h) (fun X hX O Rt => ?_)
  have O : xO X cX6_lay 9 RX6 2 0 0 false := O
  show xG X 0 [some (.ref v), some (.ref ea), some (.int sd), some (.ref ra), none, none, none, none, none] [] f (z, 0, 0)
  obtain ⟨⟨pr, hp1, hp2⟩, -⟩ := hC
  obtain ⟨ev, he1, he2⟩ := he
  obtain ⟨d0, hd0⟩ := hr
  have six : (6 : Int32).toInt = 6 := rfl
  have j1 : (1 : Int64) = jN 1 := rfl
  have big : (2147483648 : Int64).toInt = 2147483648 := rfl
  have outer : ∀ n k : Nat, k + n = 6 → ∀ (m : Nat) (d : Nat → Nat) u6 u7, 1 ≤ m → m ≤ 1999 → (∀ i, i < m → d i < 1000000000) → bv d m = pA x k → BB (m - 1) ≤ bv d m → xG X 10 [some (.ref v), some (.ref ea), some (.int sd), some (.ref ra), some (.int (nI m)), some (.int (nI k)), u6, u7, none] [] (xu f ra (xJ 2000 (fun i => jN (d i)))) (z, 0, 0) := by
    intro n
    induction n with
    | zero =>
      intro k hk m d u6 u7 hm1 hm hd hV htop
      have : k = 6 := by omega
      subst this
      have hti : (nI 6).toInt = 6 := rfl
      refine xgo O Rt xplX6_q xclX6_q [10, 25, 33] 30 ?_
      simp (maxSteps := 10000000) (disch := omega) only [↓reduceIte, ↓xrun_s, ↓xck_e, xdo_e, xlg_0, xlg_c, xst1_0, xst1_1, xst1_c, xst2_0, xst2_1, xst2_c, xk2_n, xk2_i, xk2_a, xk2_l, xct_i, xct_a, xct_l, xf4_0, xf4_1, xf4_2, xf4_3, List.contains_cons, List.contains_nil, Bool.or_false, Bool.false_or, Bool.or_self, Bool.true_or, Bool.or_true, cond_true, cond_false, List.set_cons_zero, List.set_cons_succ, List.length_cons, List.length_nil, true_and, and_true, xu_s, xu_u, xeqs, Nat.le_refl, not_true_eq_false, xq_10, xq_01, Int32.reduceAdd, Int32.reduceMul, Int32.reduceSub, Int32.reduceLE, Int32.reduceLT, Int32.reduceToNatClampNeg, Nat.reduceAdd, Nat.reduceMul, Nat.reduceBEq, Nat.reduceLT, Nat.reduceLeDiff, Nat.reduceEqDiff, Nat.zero_add, Bool.false_eq_true, reduceCtorEq, if_false, if_true, not_false_eq_true, true_imp_iff, false_imp_iff, imp_self, ↓xil_e, ↓xll_e, ↓xal_e, ↓xs1i_e, ↓xs2i_e, ↓xs1l_e, ↓xs2l_e, ↓xsil_e, ↓xs1_e, ↓xs2_e, ↓xs1a_e, ↓xsia_e, ↓xsiia_e, ↓xslia_e, ↓xsaia_e, ↓xsva_e, ↓xse1i_e, ↓xse1l_e, ↓xse1a_e, ↓xse0_e, ↓xfv_0, ↓xfv_c, ↓xgf_e, ↓xpf_e, ↓xia_e, ↓xia_n, ↓xba_e, ↓xba_n, ↓xla_e, ↓xla_n, ↓xob_e, ↓xra_e, ↓xno_e, ↓xle_e, ↓xnr_i, ↓xnr_b0, ↓xnr_b1, ↓xnr_n, ↓xdo_e, ↓xkl_0, ↓xe_iconst, ↓xe_bipush, ↓xe_lconst, ↓xe_imul, ↓xe_lmul, ↓xe_lcmp, ↓xe_i2l, ↓xe_iload, ↓xe_iload_n, ↓xe_lload, ↓xe_aload_n, ↓xe_istore, ↓xe_lstore, ↓xe_iinc, ↓xe_goto, ↓xe_ldc2_w, ↓xe_getfield, ↓xe_iaload, ↓xe_lastore, ↓xe_ireturn, ↓xe_if_ge, ↓xe_icmp_ge, ↓xe_if_le, ↓xe_invokestatic, dX6_lay_0, dX6_lay_1, dX6_lay_3, dX6_lay_4, dX6_lay_5, dX6_lay_6, dX6_lay_7, dX6_lay_8, dX6_lay_10, dX6_lay_12, dX6_lay_14, dX6_lay_17, dX6_lay_18, dX6_lay_19, dX6_lay_21, dX6_lay_22, dX6_lay_23, dX6_lay_25, dX6_lay_27, dX6_lay_30, dX6_lay_31, dX6_lay_33, dX6_lay_35, dX6_lay_38, dX6_lay_40, dX6_lay_41, dX6_lay_44, dX6_lay_46, dX6_lay_47, dX6_lay_48, dX6_lay_49, dX6_lay_52, dX6_lay_53, dX6_lay_56, dX6_lay_58, dX6_lay_59, dX6_lay_62, dX6_lay_64, dX6_lay_65, dX6_lay_66, dX6_lay_67, dX6_lay_69, dX6_lay_72, dX6_lay_75, dX6_lay_76, dX6_lay_78, dX6_lay_80, dX6_lay_83, dX6_lay_85, dX6_lay_88, dX6_lay_91, dX6_lay_94, dX6_lay_96, xpX6_7, xcX6_73, xkb_6, xki_0, xki_1, xki_m1, xkl_0, xkl_1, n_le, six, hti, xt_14_80, xtc_14_80, xt_27_61, xtc_27_61, xt_35_40, xtc_35_40, xt_53_22, xtc_53_22, xt_72_m39, xtc_72_m39, xt_85_m60, xtc_85_m60, xt_91_m81, xtc_91_m81]
      exact ⟨fun _ => hp m d hm1 hm hd hV htop, fun q => absurd (by omega) q⟩
    | succ n ih =>
      intro k hk m d u6 u7 hm1 hm hd hV htop
      have hti : (nI k).toInt = (k : Int) := nI_int (by omega)
      have nk : nI k + 1 = nI (k + 1) := nI_1 k
      have v0 : vp_in (nI k) 6 := vp_in_nI (by omega) (by omega)
      have v1 : (nI k).toNatClampNeg = k := nI_clamp (by omega)
      have hk6 : k < 6 := by omega
      have hpk := hp2 k hk6
      have hpb := prm_b k
      have ipk : (nI (prm k)).toInt64 = jN (prm k) := i64_nI (by omega)
      have hcap2 : pA x (k + 1) < BB 1999 := Nat.lt_of_le_of_lt (pA_le x (by omega)) hcap
      have hbk := hb k hk6
      have hevk := he2 k hk6
      have hxk := hx k hk6
      have hl : (sd * ev k).toInt = x k := by
        rw [hxk, n_mul (by rw [hevk]; rcases hsd with q | q <;> rw [q] <;> omega) (by rw [hevk]; rcases hsd with q | q <;> rw [q] <;> omega), hevk]
      have hxb : -80000 ≤ x k ∧ x k ≤ 80000 := by rw [hxk]; rcases hsd with q | q <;> rw [q] <;> omega
      have mid : ∀ L : Nat, L ≤ 80000 → ∀ (m : Nat) (d : Nat → Nat) u7, 1 ≤ m → m ≤ 1999 → (∀ i, i < m → d i < 1000000000) → bv d m * prm k ^ L = pA x (k + 1) → BB (m - 1) ≤ bv d m → xG X 25 [some (.ref v), some (.ref ea), some (.int sd), some (.ref ra), some (.int (nI m)), some (.int (nI k)), some (.int (nI L)), u7, none] [] (xu f ra (xJ 2000 (fun i => jN (d i)))) (z, 0, 0) := by
        intro L
        induction L using Nat.strongRecOn with
        | ind L ihL =>
          intro hL m d u7 hm1 hm hd hV htop
          by_cases L0 : L = 0
          · subst L0
            have hc0 : (nI 0 ≤ 0) = True := eq_true (by decide)
            refine xgo O Rt xplX6_q xclX6_q [10, 25, 33] 30 ?_
            simp (maxSteps := 10000000) (disch := omega) only [↓reduceIte, ↓xrun_s, ↓xck_e, xdo_e, xlg_0, xlg_c, xst1_0, xst1_1, xst1_c, xst2_0, xst2_1, xst2_c, xk2_n, xk2_i, xk2_a, xk2_l, xct_i, xct_a, xct_l, xf4_0, xf4_1, xf4_2, xf4_3, List.contains_cons, List.contains_nil, Bool.or_false, Bool.false_or, Bool.or_self, Bool.true_or, Bool.or_true, cond_true, cond_false, List.set_cons_zero, List.set_cons_succ, List.length_cons, List.length_nil, true_and, and_true, xu_s, xu_u, xeqs, Nat.le_refl, not_true_eq_false, xq_10, xq_01, Int32.reduceAdd, Int32.reduceMul, Int32.reduceSub, Int32.reduceLE, Int32.reduceLT, Int32.reduceToNatClampNeg, Nat.reduceAdd, Nat.reduceMul, Nat.reduceBEq, Nat.reduceLT, Nat.reduceLeDiff, Nat.reduceEqDiff, Nat.zero_add, Bool.false_eq_true, reduceCtorEq, if_false, if_true, not_false_eq_true, true_imp_iff, false_imp_iff, imp_self, ↓xil_e, ↓xll_e, ↓xal_e, ↓xs1i_e, ↓xs2i_e, ↓xs1l_e, ↓xs2l_e, ↓xsil_e, ↓xs1_e, ↓xs2_e, ↓xs1a_e, ↓xsia_e, ↓xsiia_e, ↓xslia_e, ↓xsaia_e, ↓xsva_e, ↓xse1i_e, ↓xse1l_e, ↓xse1a_e, ↓xse0_e, ↓xfv_0, ↓xfv_c, ↓xgf_e, ↓xpf_e, ↓xia_e, ↓xia_n, ↓xba_e, ↓xba_n, ↓xla_e, ↓xla_n, ↓xob_e, ↓xra_e, ↓xno_e, ↓xle_e, ↓xnr_i, ↓xnr_b0, ↓xnr_b1, ↓xnr_n, ↓xdo_e, ↓xkl_0, ↓xe_iconst, ↓xe_bipush, ↓xe_lconst, ↓xe_imul, ↓xe_lmul, ↓xe_lcmp, ↓xe_i2l, ↓xe_iload, ↓xe_iload_n, ↓xe_lload, ↓xe_aload_n, ↓xe_istore, ↓xe_lstore, ↓xe_iinc, ↓xe_goto, ↓xe_ldc2_w, ↓xe_getfield, ↓xe_iaload, ↓xe_lastore, ↓xe_ireturn, ↓xe_if_ge, ↓xe_icmp_ge, ↓xe_if_le, ↓xe_invokestatic, dX6_lay_0, dX6_lay_1, dX6_lay_3, dX6_lay_4, dX6_lay_5, dX6_lay_6, dX6_lay_7, dX6_lay_8, dX6_lay_10, dX6_lay_12, dX6_lay_14, dX6_lay_17, dX6_lay_18, dX6_lay_19, dX6_lay_21, dX6_lay_22, dX6_lay_23, dX6_lay_25, dX6_lay_27, dX6_lay_30, dX6_lay_31, dX6_lay_33, dX6_lay_35, dX6_lay_38, dX6_lay_40, dX6_lay_41, dX6_lay_44, dX6_lay_46, dX6_lay_47, dX6_lay_48, dX6_lay_49, dX6_lay_52, dX6_lay_53, dX6_lay_56, dX6_lay_58, dX6_lay_59, dX6_lay_62, dX6_lay_64, dX6_lay_65, dX6_lay_66, dX6_lay_67, dX6_lay_69, dX6_lay_72, dX6_lay_75, dX6_lay_76, dX6_lay_78, dX6_lay_80, dX6_lay_83, dX6_lay_85, dX6_lay_88, dX6_lay_91, dX6_lay_94, dX6_lay_96, xpX6_7, xcX6_73, xkb_6, xki_0, xki_1, xki_m1, xkl_0, xkl_1, hc0, nk, xt_14_80, xtc_14_80, xt_27_61, xtc_27_61, xt_35_40, xtc_35_40, xt_53_22, xtc_53_22, xt_72_m39, xtc_72_m39, xt_85_m60, xtc_85_m60, xt_91_m81, xtc_91_m81]
            exact ih (k + 1) (by omega) m d _ _ hm1 hm hd (by simpa using hV) htop
          · have hc0 : (nI L ≤ 0) = False := eq_false (fun q => by have := (n_le _ _).mp q; rw [nI_toInt (by omega), n_0] at this; omega)
            have inner : ∀ L' : Nat, L' ≤ L → ∀ b : Nat, 1 ≤ b → b < 2147483648 → bv d m * b * prm k ^ L' = pA x (k + 1) → (L' < L ∨ b = 1) → xG X 33 [some (.ref v), some (.ref ea), some (.int sd), some (.ref ra), some (.int (nI m)), some (.int (nI k)), some (.int (nI L')), some (.long (jN b)), none] [] (xu f ra (xJ 2000 (fun i => jN (d i)))) (z, 0, 0) := by
              intro L'
              have fin : ∀ b : Nat, L' < L → 1 ≤ b → b < 2147483648 → bv d m * b * prm k ^ L' = pA x (k + 1) → xG X 80 [some (.ref v), some (.ref ea), some (.int sd), some (.ref ra), some (.int (nI m)), some (.int (nI k)), some (.int (nI L')), some (.long (jN b)), none] [.long (jN b), .int (nI m), .ref ra] (xu f ra (xJ 2000 (fun i => jN (d i)))) (z, 0, 0) := by
                intro b hlt hb1 hb2 hW
                have hle : bv d m * b ≤ pA x (k + 1) := by rw [← hW]; exact Nat.le_mul_of_pos_right _ (Nat.pow_pos (by omega))
                refine xg_callSi (Qp := fun r f' => ∃ m' d', r = nI m' ∧ 1 ≤ m' ∧ m' ≤ 1999 ∧ (∀ i, i < m' → d' i < 1000000000) ∧ bv d' m' = bv d m * b ∧ BB (m' - 1) ≤ bv d' m' ∧ f' = xu (xu f ra (xJ 2000 (fun i => jN (d i)))) ra (xJ 2000 (fun i => jN (d' i)))) O dX6_lay_80 xl_X6_75 xk_X6_multiply (c6_multiply _ (a := ra) (m := m) (b := b) (d := d) (xu_s _ _ _) hm1 hm hd hb1 hb2 htop (Nat.lt_of_le_of_lt hle hcap2) (fun m' d' q1 q2 q3 q4 q5 => ⟨_, rfl, ⟨m', d', rfl, q1, q2, q3, q4, q5, rfl⟩, rfl⟩)) rfl (Nat.le_of_ble_eq_true rfl) rfl (Nat.le_of_ble_eq_true rfl) (Nat.le_of_ble_eq_true rfl) (Nat.le_of_ble_eq_true rfl) (fun r f1 hq => ?_)
                obtain ⟨m', d', rfl, q1, q2, q3, q4, q5, rfl⟩ := hq
                refine xgo O Rt xplX6_q xclX6_q [10, 25, 33] 30 ?_
                simp (maxSteps := 10000000) (disch := omega) only [↓reduceIte, ↓xrun_s, ↓xck_e, xdo_e, xlg_0, xlg_c, xst1_0, xst1_1, xst1_c, xst2_0, xst2_1, xst2_c, xk2_n, xk2_i, xk2_a, xk2_l, xct_i, xct_a, xct_l, xf4_0, xf4_1, xf4_2, xf4_3, List.contains_cons, List.contains_nil, Bool.or_false, Bool.false_or, Bool.or_self, Bool.true_or, Bool.or_true, cond_true, cond_false, List.set_cons_zero, List.set_cons_succ, List.length_cons, List.length_nil, true_and, and_true, xu_s, xu_u, xeqs, Nat.le_refl, not_true_eq_false, xq_10, xq_01, Int32.reduceAdd, Int32.reduceMul, Int32.reduceSub, Int32.reduceLE, Int32.reduceLT, Int32.reduceToNatClampNeg, Nat.reduceAdd, Nat.reduceMul, Nat.reduceBEq, Nat.reduceLT, Nat.reduceLeDiff, Nat.reduceEqDiff, Nat.zero_add, Bool.false_eq_true, reduceCtorEq, if_false, if_true, not_false_eq_true, true_imp_iff, false_imp_iff, imp_self, ↓xil_e, ↓xll_e, ↓xal_e, ↓xs1i_e, ↓xs2i_e, ↓xs1l_e, ↓xs2l_e, ↓xsil_e, ↓xs1_e, ↓xs2_e, ↓xs1a_e, ↓xsia_e, ↓xsiia_e, ↓xslia_e, ↓xsaia_e, ↓xsva_e, ↓xse1i_e, ↓xse1l_e, ↓xse1a_e, ↓xse0_e, ↓xfv_0, ↓xfv_c, ↓xgf_e, ↓xpf_e, ↓xia_e, ↓xia_n, ↓xba_e, ↓xba_n, ↓xla_e, ↓xla_n, ↓xob_e, ↓xra_e, ↓xno_e, ↓xle_e, ↓xnr_i, ↓xnr_b0, ↓xnr_b1, ↓xnr_n, ↓xdo_e, ↓xkl_0, ↓xe_iconst, ↓xe_bipush, ↓xe_lconst, ↓xe_imul, ↓xe_lmul, ↓xe_lcmp, ↓xe_i2l, ↓xe_iload, ↓xe_iload_n, ↓xe_lload, ↓xe_aload_n, ↓xe_istore, ↓xe_lstore, ↓xe_iinc, ↓xe_goto, ↓xe_ldc2_w, ↓xe_getfield, ↓xe_iaload, ↓xe_lastore, ↓xe_ireturn, ↓xe_if_ge, ↓xe_icmp_ge, ↓xe_if_le, ↓xe_invokestatic, dX6_lay_0, dX6_lay_1, dX6_lay_3, dX6_lay_4, dX6_lay_5, dX6_lay_6, dX6_lay_7, dX6_lay_8, dX6_lay_10, dX6_lay_12, dX6_lay_14, dX6_lay_17, dX6_lay_18, dX6_lay_19, dX6_lay_21, dX6_lay_22, dX6_lay_23, dX6_lay_25, dX6_lay_27, dX6_lay_30, dX6_lay_31, dX6_lay_33, dX6_lay_35, dX6_lay_38, dX6_lay_40, dX6_lay_41, dX6_lay_44, dX6_lay_46, dX6_lay_47, dX6_lay_48, dX6_lay_49, dX6_lay_52, dX6_lay_53, dX6_lay_56, dX6_lay_58, dX6_lay_59, dX6_lay_62, dX6_lay_64, dX6_lay_65, dX6_lay_66, dX6_lay_67, dX6_lay_69, dX6_lay_72, dX6_lay_75, dX6_lay_76, dX6_lay_78, dX6_lay_80, dX6_lay_83, dX6_lay_85, dX6_lay_88, dX6_lay_91, dX6_lay_94, dX6_lay_96, xpX6_7, xcX6_73, xkb_6, xki_0, xki_1, xki_m1, xkl_0, xkl_1, xt_14_80, xtc_14_80, xt_27_61, xtc_27_61, xt_35_40, xtc_35_40, xt_53_22, xtc_53_22, xt_72_m39, xtc_72_m39, xt_85_m60, xtc_85_m60, xt_91_m81, xtc_91_m81]
                exact ihL L' hlt (by omega) m' d' _ q1 q2 q3 (by rw [q4]; exact hW) q5
              induction L' with
              | zero =>
                intro hLL b hb1 hb2 hW hfl
                have hc1 : (nI 0 ≤ 0) = True := eq_true (by decide)
                refine xgo O Rt xplX6_q xclX6_q [10, 25, 33] 30 ?_
                simp (maxSteps := 10000000) (disch := omega) only [↓reduceIte, ↓xrun_s, ↓xck_e, xdo_e, xlg_0, xlg_c, xst1_0, xst1_1, xst1_c, xst2_0, xst2_1, xst2_c, xk2_n, xk2_i, xk2_a, xk2_l, xct_i, xct_a, xct_l, xf4_0, xf4_1, xf4_2, xf4_3, List.contains_cons, List.contains_nil, Bool.or_false, Bool.false_or, Bool.or_self, Bool.true_or, Bool.or_true, cond_true, cond_false, List.set_cons_zero, List.set_cons_succ, List.length_cons, List.length_nil, true_and, and_true, xu_s, xu_u, xeqs, Nat.le_refl, not_true_eq_false, xq_10, xq_01, Int32.reduceAdd, Int32.reduceMul, Int32.reduceSub, Int32.reduceLE, Int32.reduceLT, Int32.reduceToNatClampNeg, Nat.reduceAdd, Nat.reduceMul, Nat.reduceBEq, Nat.reduceLT, Nat.reduceLeDiff, Nat.reduceEqDiff, Nat.zero_add, Bool.false_eq_true, reduceCtorEq, if_false, if_true, not_false_eq_true, true_imp_iff, false_imp_iff, imp_self, ↓xil_e, ↓xll_e, ↓xal_e, ↓xs1i_e, ↓xs2i_e, ↓xs1l_e, ↓xs2l_e, ↓xsil_e, ↓xs1_e, ↓xs2_e, ↓xs1a_e, ↓xsia_e, ↓xsiia_e, ↓xslia_e, ↓xsaia_e, ↓xsva_e, ↓xse1i_e, ↓xse1l_e, ↓xse1a_e, ↓xse0_e, ↓xfv_0, ↓xfv_c, ↓xgf_e, ↓xpf_e, ↓xia_e, ↓xia_n, ↓xba_e, ↓xba_n, ↓xla_e, ↓xla_n, ↓xob_e, ↓xra_e, ↓xno_e, ↓xle_e, ↓xnr_i, ↓xnr_b0, ↓xnr_b1, ↓xnr_n, ↓xdo_e, ↓xkl_0, ↓xe_iconst, ↓xe_bipush, ↓xe_lconst, ↓xe_imul, ↓xe_lmul, ↓xe_lcmp, ↓xe_i2l, ↓xe_iload, ↓xe_iload_n, ↓xe_lload, ↓xe_aload_n, ↓xe_istore, ↓xe_lstore, ↓xe_iinc, ↓xe_goto, ↓xe_ldc2_w, ↓xe_getfield, ↓xe_iaload, ↓xe_lastore, ↓xe_ireturn, ↓xe_if_ge, ↓xe_icmp_ge, ↓xe_if_le, ↓xe_invokestatic, dX6_lay_0, dX6_lay_1, dX6_lay_3, dX6_lay_4, dX6_lay_5, dX6_lay_6, dX6_lay_7, dX6_lay_8, dX6_lay_10, dX6_lay_12, dX6_lay_14, dX6_lay_17, dX6_lay_18, dX6_lay_19, dX6_lay_21, dX6_lay_22, dX6_lay_23, dX6_lay_25, dX6_lay_27, dX6_lay_30, dX6_lay_31, dX6_lay_33, dX6_lay_35, dX6_lay_38, dX6_lay_40, dX6_lay_41, dX6_lay_44, dX6_lay_46, dX6_lay_47, dX6_lay_48, dX6_lay_49, dX6_lay_52, dX6_lay_53, dX6_lay_56, dX6_lay_58, dX6_lay_59, dX6_lay_62, dX6_lay_64, dX6_lay_65, dX6_lay_66, dX6_lay_67, dX6_lay_69, dX6_lay_72, dX6_lay_75, dX6_lay_76, dX6_lay_78, dX6_lay_80, dX6_lay_83, dX6_lay_85, dX6_lay_88, dX6_lay_91, dX6_lay_94, dX6_lay_96, xpX6_7, xcX6_73, xkb_6, xki_0, xki_1, xki_m1, xkl_0, xkl_1, hc1, xt_14_80, xtc_14_80, xt_27_61, xtc_27_61, xt_35_40, xtc_35_40, xt_53_22, xtc_53_22, xt_72_m39, xtc_72_m39, xt_85_m60, xtc_85_m60, xt_91_m81, xtc_91_m81]
                exact fin b (by omega) hb1 hb2 hW
              | succ L' ihI =>
                intro hLL b hb1 hb2 hW hfl
                have hc1 : (nI (L' + 1) ≤ 0) = False := eq_false (fun q => by have := (n_le _ _).mp q; rw [nI_toInt (by omega), n_0] at this; omega)
                have nm : nI (L' + 1) + (-1) = nI L' := nI_m1 (by omega)
                have hu1 : xu f ra (xJ 2000 (fun i => jN (d i))) v = f v := xu_n (Ne.symm n1)
                have hu2 : xu f ra (xJ 2000 (fun i => jN (d i))) (v + 1) = f (v + 1) := xu_n (Ne.symm n2)
                have hbp1 : b * prm k ≤ b * 13 := Nat.mul_le_mul_left _ hpb.2
                have hbp2 : b * 2 ≤ b * prm k := Nat.mul_le_mul_left _ hpb.1
                have hji : (jN (b * prm k)).toInt = ((b * prm k : Nat) : Int) := jN_int (by omega)
                by_cases hlt : b * prm k < 2147483648
                · have hc2 : ((2147483648 : Int64).toInt ≤ (jN (b * prm k)).toInt) = False := eq_false (by rw [hji, big]; omega)
                  refine xgo O Rt xplX6_q xclX6_q [10, 25, 33] 60 ?_
                  simp (maxSteps := 10000000) (disch := omega) only [↓reduceIte, ↓xrun_s, ↓xck_e, xdo_e, xlg_0, xlg_c, xst1_0, xst1_1, xst1_c, xst2_0, xst2_1, xst2_c, xk2_n, xk2_i, xk2_a, xk2_l, xct_i, xct_a, xct_l, xf4_0, xf4_1, xf4_2, xf4_3, List.contains_cons, List.contains_nil, Bool.or_false, Bool.false_or, Bool.or_self, Bool.true_or, Bool.or_true, cond_true, cond_false, List.set_cons_zero, List.set_cons_succ, List.length_cons, List.length_nil, true_and, and_true, xu_s, xu_u, xeqs, Nat.le_refl, not_true_eq_false, xq_10, xq_01, Int32.reduceAdd, Int32.reduceMul, Int32.reduceSub, Int32.reduceLE, Int32.reduceLT, Int32.reduceToNatClampNeg, Nat.reduceAdd, Nat.reduceMul, Nat.reduceBEq, Nat.reduceLT, Nat.reduceLeDiff, Nat.reduceEqDiff, Nat.zero_add, Bool.false_eq_true, reduceCtorEq, if_false, if_true, not_false_eq_true, true_imp_iff, false_imp_iff, imp_self, ↓xil_e, ↓xll_e, ↓xal_e, ↓xs1i_e, ↓xs2i_e, ↓xs1l_e, ↓xs2l_e, ↓xsil_e, ↓xs1_e, ↓xs2_e, ↓xs1a_e, ↓xsia_e, ↓xsiia_e, ↓xslia_e, ↓xsaia_e, ↓xsva_e, ↓xse1i_e, ↓xse1l_e, ↓xse1a_e, ↓xse0_e, ↓xfv_0, ↓xfv_c, ↓xgf_e, ↓xpf_e, ↓xia_e, ↓xia_n, ↓xba_e, ↓xba_n, ↓xla_e, ↓xla_n, ↓xob_e, ↓xra_e, ↓xno_e, ↓xle_e, ↓xnr_i, ↓xnr_b0, ↓xnr_b1, ↓xnr_n, ↓xdo_e, ↓xkl_0, ↓xe_iconst, ↓xe_bipush, ↓xe_lconst, ↓xe_imul, ↓xe_lmul, ↓xe_lcmp, ↓xe_i2l, ↓xe_iload, ↓xe_iload_n, ↓xe_lload, ↓xe_aload_n, ↓xe_istore, ↓xe_lstore, ↓xe_iinc, ↓xe_goto, ↓xe_ldc2_w, ↓xe_getfield, ↓xe_iaload, ↓xe_lastore, ↓xe_ireturn, ↓xe_if_ge, ↓xe_icmp_ge, ↓xe_if_le, ↓xe_invokestatic, dX6_lay_0, dX6_lay_1, dX6_lay_3, dX6_lay_4, dX6_lay_5, dX6_lay_6, dX6_lay_7, dX6_lay_8, dX6_lay_10, dX6_lay_12, dX6_lay_14, dX6_lay_17, dX6_lay_18, dX6_lay_19, dX6_lay_21, dX6_lay_22, dX6_lay_23, dX6_lay_25, dX6_lay_27, dX6_lay_30, dX6_lay_31, dX6_lay_33, dX6_lay_35, dX6_lay_38, dX6_lay_40, dX6_lay_41, dX6_lay_44, dX6_lay_46, dX6_lay_47, dX6_lay_48, dX6_lay_49, dX6_lay_52, dX6_lay_53, dX6_lay_56, dX6_lay_58, dX6_lay_59, dX6_lay_62, dX6_lay_64, dX6_lay_65, dX6_lay_66, dX6_lay_67, dX6_lay_69, dX6_lay_72, dX6_lay_75, dX6_lay_76, dX6_lay_78, dX6_lay_80, dX6_lay_83, dX6_lay_85, dX6_lay_88, dX6_lay_91, dX6_lay_94, dX6_lay_96, xpX6_7, xcX6_73, xkb_6, xki_0, xki_1, xki_m1, xkl_0, xkl_1, hc1, hu1, hu2, h6, hp1, hpk, v0, v1, ipk, jN_mul, lgc_ge, hc2, nm, xt_14_80, xtc_14_80, xt_27_61, xtc_27_61, xt_35_40, xtc_35_40, xt_53_22, xtc_53_22, xt_72_m39, xtc_72_m39, xt_85_m60, xtc_85_m60, xt_91_m81, xtc_91_m81]
                  refine ihI (fun b' h1 h2 h3 h4 => ?_) (by omega) (b * prm k) (by omega) hlt ?_ (Or.inl (by omega))
                  · have hle : bv d m * b' ≤ pA x (k + 1) := by rw [← h4]; exact Nat.le_mul_of_pos_right _ (Nat.pow_pos (by omega))
                    refine xg_callSi (Qp := fun r f' => ∃ m' d', r = nI m' ∧ 1 ≤ m' ∧ m' ≤ 1999 ∧ (∀ i, i < m' → d' i < 1000000000) ∧ bv d' m' = bv d m * b' ∧ BB (m' - 1) ≤ bv d' m' ∧ f' = xu (xu f ra (xJ 2000 (fun i => jN (d i)))) ra (xJ 2000 (fun i => jN (d' i)))) O dX6_lay_80 xl_X6_75 xk_X6_multiply (c6_multiply _ (a := ra) (m := m) (b := b') (d := d) (xu_s _ _ _) hm1 hm hd h2 h3 htop (Nat.lt_of_le_of_lt hle hcap2) (fun m' d' q1 q2 q3 q4 q5 => ⟨_, rfl, ⟨m', d', rfl, q1, q2, q3, q4, q5, rfl⟩, rfl⟩)) rfl (Nat.le_of_ble_eq_true rfl) rfl (Nat.le_of_ble_eq_true rfl) (Nat.le_of_ble_eq_true rfl) (Nat.le_of_ble_eq_true rfl) (fun r f1 hq => ?_)
                    obtain ⟨m', d', rfl, q1, q2, q3, q4, q5, rfl⟩ := hq
                    refine xgo O Rt xplX6_q xclX6_q [10, 25, 33] 30 ?_
                    simp (maxSteps := 10000000) (disch := omega) only [↓reduceIte, ↓xrun_s, ↓xck_e, xdo_e, xlg_0, xlg_c, xst1_0, xst1_1, xst1_c, xst2_0, xst2_1, xst2_c, xk2_n, xk2_i, xk2_a, xk2_l, xct_i, xct_a, xct_l, xf4_0, xf4_1, xf4_2, xf4_3, List.contains_cons, List.contains_nil, Bool.or_false, Bool.false_or, Bool.or_self, Bool.true_or, Bool.or_true, cond_true, cond_false, List.set_cons_zero, List.set_cons_succ, List.length_cons, List.length_nil, true_and, and_true, xu_s, xu_u, xeqs, Nat.le_refl, not_true_eq_false, xq_10, xq_01, Int32.reduceAdd, Int32.reduceMul, Int32.reduceSub, Int32.reduceLE, Int32.reduceLT, Int32.reduceToNatClampNeg, Nat.reduceAdd, Nat.reduceMul, Nat.reduceBEq, Nat.reduceLT, Nat.reduceLeDiff, Nat.reduceEqDiff, Nat.zero_add, Bool.false_eq_true, reduceCtorEq, if_false, if_true, not_false_eq_true, true_imp_iff, false_imp_iff, imp_self, ↓xil_e, ↓xll_e, ↓xal_e, ↓xs1i_e, ↓xs2i_e, ↓xs1l_e, ↓xs2l_e, ↓xsil_e, ↓xs1_e, ↓xs2_e, ↓xs1a_e, ↓xsia_e, ↓xsiia_e, ↓xslia_e, ↓xsaia_e, ↓xsva_e, ↓xse1i_e, ↓xse1l_e, ↓xse1a_e, ↓xse0_e, ↓xfv_0, ↓xfv_c, ↓xgf_e, ↓xpf_e, ↓xia_e, ↓xia_n, ↓xba_e, ↓xba_n, ↓xla_e, ↓xla_n, ↓xob_e, ↓xra_e, ↓xno_e, ↓xle_e, ↓xnr_i, ↓xnr_b0, ↓xnr_b1, ↓xnr_n, ↓xdo_e, ↓xkl_0, ↓xe_iconst, ↓xe_bipush, ↓xe_lconst, ↓xe_imul, ↓xe_lmul, ↓xe_lcmp, ↓xe_i2l, ↓xe_iload, ↓xe_iload_n, ↓xe_lload, ↓xe_aload_n, ↓xe_istore, ↓xe_lstore, ↓xe_iinc, ↓xe_goto, ↓xe_ldc2_w, ↓xe_getfield, ↓xe_iaload, ↓xe_lastore, ↓xe_ireturn, ↓xe_if_ge, ↓xe_icmp_ge, ↓xe_if_le, ↓xe_invokestatic, dX6_lay_0, dX6_lay_1, dX6_lay_3, dX6_lay_4, dX6_lay_5, dX6_lay_6, dX6_lay_7, dX6_lay_8, dX6_lay_10, dX6_lay_12, dX6_lay_14, dX6_lay_17, dX6_lay_18, dX6_lay_19, dX6_lay_21, dX6_lay_22, dX6_lay_23, dX6_lay_25, dX6_lay_27, dX6_lay_30, dX6_lay_31, dX6_lay_33, dX6_lay_35, dX6_lay_38, dX6_lay_40, dX6_lay_41, dX6_lay_44, dX6_lay_46, dX6_lay_47, dX6_lay_48, dX6_lay_49, dX6_lay_52, dX6_lay_53, dX6_lay_56, dX6_lay_58, dX6_lay_59, dX6_lay_62, dX6_lay_64, dX6_lay_65, dX6_lay_66, dX6_lay_67, dX6_lay_69, dX6_lay_72, dX6_lay_75, dX6_lay_76, dX6_lay_78, dX6_lay_80, dX6_lay_83, dX6_lay_85, dX6_lay_88, dX6_lay_91, dX6_lay_94, dX6_lay_96, xpX6_7, xcX6_73, xkb_6, xki_0, xki_1, xki_m1, xkl_0, xkl_1, xt_14_80, xtc_14_80, xt_27_61, xtc_27_61, xt_35_40, xtc_35_40, xt_53_22, xtc_53_22, xt_72_m39, xtc_72_m39, xt_85_m60, xtc_85_m60, xt_91_m81, xtc_91_m81]
                    exact ihL L' h1 (by omega) m' d' _ q1 q2 q3 (by rw [q4]; exact h4) q5
                  · rw [← hW, Nat.pow_succ']
                    simp only [Nat.mul_assoc]
                · have hc2 : ((2147483648 : Int64).toInt ≤ (jN (b * prm k)).toInt) = True := eq_true (by rw [hji, big]; omega)
                  refine xgo O Rt xplX6_q xclX6_q [10, 25, 33] 60 ?_
                  simp (maxSteps := 10000000) (disch := omega) only [↓reduceIte, ↓xrun_s, ↓xck_e, xdo_e, xlg_0, xlg_c, xst1_0, xst1_1, xst1_c, xst2_0, xst2_1, xst2_c, xk2_n, xk2_i, xk2_a, xk2_l, xct_i, xct_a, xct_l, xf4_0, xf4_1, xf4_2, xf4_3, List.contains_cons, List.contains_nil, Bool.or_false, Bool.false_or, Bool.or_self, Bool.true_or, Bool.or_true, cond_true, cond_false, List.set_cons_zero, List.set_cons_succ, List.length_cons, List.length_nil, true_and, and_true, xu_s, xu_u, xeqs, Nat.le_refl, not_true_eq_false, xq_10, xq_01, Int32.reduceAdd, Int32.reduceMul, Int32.reduceSub, Int32.reduceLE, Int32.reduceLT, Int32.reduceToNatClampNeg, Nat.reduceAdd, Nat.reduceMul, Nat.reduceBEq, Nat.reduceLT, Nat.reduceLeDiff, Nat.reduceEqDiff, Nat.zero_add, Bool.false_eq_true, reduceCtorEq, if_false, if_true, not_false_eq_true, true_imp_iff, false_imp_iff, imp_self, ↓xil_e, ↓xll_e, ↓xal_e, ↓xs1i_e, ↓xs2i_e, ↓xs1l_e, ↓xs2l_e, ↓xsil_e, ↓xs1_e, ↓xs2_e, ↓xs1a_e, ↓xsia_e, ↓xsiia_e, ↓xslia_e, ↓xsaia_e, ↓xsva_e, ↓xse1i_e, ↓xse1l_e, ↓xse1a_e, ↓xse0_e, ↓xfv_0, ↓xfv_c, ↓xgf_e, ↓xpf_e, ↓xia_e, ↓xia_n, ↓xba_e, ↓xba_n, ↓xla_e, ↓xla_n, ↓xob_e, ↓xra_e, ↓xno_e, ↓xle_e, ↓xnr_i, ↓xnr_b0, ↓xnr_b1, ↓xnr_n, ↓xdo_e, ↓xkl_0, ↓xe_iconst, ↓xe_bipush, ↓xe_lconst, ↓xe_imul, ↓xe_lmul, ↓xe_lcmp, ↓xe_i2l, ↓xe_iload, ↓xe_iload_n, ↓xe_lload, ↓xe_aload_n, ↓xe_istore, ↓xe_lstore, ↓xe_iinc, ↓xe_goto, ↓xe_ldc2_w, ↓xe_getfield, ↓xe_iaload, ↓xe_lastore, ↓xe_ireturn, ↓xe_if_ge, ↓xe_icmp_ge, ↓xe_if_le, ↓xe_invokestatic, dX6_lay_0, dX6_lay_1, dX6_lay_3, dX6_lay_4, dX6_lay_5, dX6_lay_6, dX6_lay_7, dX6_lay_8, dX6_lay_10, dX6_lay_12, dX6_lay_14, dX6_lay_17, dX6_lay_18, dX6_lay_19, dX6_lay_21, dX6_lay_22, dX6_lay_23, dX6_lay_25, dX6_lay_27, dX6_lay_30, dX6_lay_31, dX6_lay_33, dX6_lay_35, dX6_lay_38, dX6_lay_40, dX6_lay_41, dX6_lay_44, dX6_lay_46, dX6_lay_47, dX6_lay_48, dX6_lay_49, dX6_lay_52, dX6_lay_53, dX6_lay_56, dX6_lay_58, dX6_lay_59, dX6_lay_62, dX6_lay_64, dX6_lay_65, dX6_lay_66, dX6_lay_67, dX6_lay_69, dX6_lay_72, dX6_lay_75, dX6_lay_76, dX6_lay_78, dX6_lay_80, dX6_lay_83, dX6_lay_85, dX6_lay_88, dX6_lay_91, dX6_lay_94, dX6_lay_96, xpX6_7, xcX6_73, xkb_6, xki_0, xki_1, xki_m1, xkl_0, xkl_1, hc1, hu1, hu2, h6, hp1, hpk, v0, v1, ipk, jN_mul, lgc_ge, hc2, xt_14_80, xtc_14_80, xt_27_61, xtc_27_61, xt_35_40, xtc_35_40, xt_53_22, xtc_53_22, xt_72_m39, xtc_72_m39, xt_85_m60, xtc_85_m60, xt_91_m81, xtc_91_m81]
                  refine fin b ?_ hb1 hb2 hW
                  rcases hfl with q | q
                  · exact q
                  · subst q; omega
            refine xgo O Rt xplX6_q xclX6_q [10, 25, 33] 30 ?_
            simp (maxSteps := 10000000) (disch := omega) only [↓reduceIte, ↓xrun_s, ↓xck_e, xdo_e, xlg_0, xlg_c, xst1_0, xst1_1, xst1_c, xst2_0, xst2_1, xst2_c, xk2_n, xk2_i, xk2_a, xk2_l, xct_i, xct_a, xct_l, xf4_0, xf4_1, xf4_2, xf4_3, List.contains_cons, List.contains_nil, Bool.or_false, Bool.false_or, Bool.or_self, Bool.true_or, Bool.or_true, cond_true, cond_false, List.set_cons_zero, List.set_cons_succ, List.length_cons, List.length_nil, true_and, and_true, xu_s, xu_u, xeqs, Nat.le_refl, not_true_eq_false, xq_10, xq_01, Int32.reduceAdd, Int32.reduceMul, Int32.reduceSub, Int32.reduceLE, Int32.reduceLT, Int32.reduceToNatClampNeg, Nat.reduceAdd, Nat.reduceMul, Nat.reduceBEq, Nat.reduceLT, Nat.reduceLeDiff, Nat.reduceEqDiff, Nat.zero_add, Bool.false_eq_true, reduceCtorEq, if_false, if_true, not_false_eq_true, true_imp_iff, false_imp_iff, imp_self, ↓xil_e, ↓xll_e, ↓xal_e, ↓xs1i_e, ↓xs2i_e, ↓xs1l_e, ↓xs2l_e, ↓xsil_e, ↓xs1_e, ↓xs2_e, ↓xs1a_e, ↓xsia_e, ↓xsiia_e, ↓xslia_e, ↓xsaia_e, ↓xsva_e, ↓xse1i_e, ↓xse1l_e, ↓xse1a_e, ↓xse0_e, ↓xfv_0, ↓xfv_c, ↓xgf_e, ↓xpf_e, ↓xia_e, ↓xia_n, ↓xba_e, ↓xba_n, ↓xla_e, ↓xla_n, ↓xob_e, ↓xra_e, ↓xno_e, ↓xle_e, ↓xnr_i, ↓xnr_b0, ↓xnr_b1, ↓xnr_n, ↓xdo_e, ↓xkl_0, ↓xe_iconst, ↓xe_bipush, ↓xe_lconst, ↓xe_imul, ↓xe_lmul, ↓xe_lcmp, ↓xe_i2l, ↓xe_iload, ↓xe_iload_n, ↓xe_lload, ↓xe_aload_n, ↓xe_istore, ↓xe_lstore, ↓xe_iinc, ↓xe_goto, ↓xe_ldc2_w, ↓xe_getfield, ↓xe_iaload, ↓xe_lastore, ↓xe_ireturn, ↓xe_if_ge, ↓xe_icmp_ge, ↓xe_if_le, ↓xe_invokestatic, dX6_lay_0, dX6_lay_1, dX6_lay_3, dX6_lay_4, dX6_lay_5, dX6_lay_6, dX6_lay_7, dX6_lay_8, dX6_lay_10, dX6_lay_12, dX6_lay_14, dX6_lay_17, dX6_lay_18, dX6_lay_19, dX6_lay_21, dX6_lay_22, dX6_lay_23, dX6_lay_25, dX6_lay_27, dX6_lay_30, dX6_lay_31, dX6_lay_33, dX6_lay_35, dX6_lay_38, dX6_lay_40, dX6_lay_41, dX6_lay_44, dX6_lay_46, dX6_lay_47, dX6_lay_48, dX6_lay_49, dX6_lay_52, dX6_lay_53, dX6_lay_56, dX6_lay_58, dX6_lay_59, dX6_lay_62, dX6_lay_64, dX6_lay_65, dX6_lay_66, dX6_lay_67, dX6_lay_69, dX6_lay_72, dX6_lay_75, dX6_lay_76, dX6_lay_78, dX6_lay_80, dX6_lay_83, dX6_lay_85, dX6_lay_88, dX6_lay_91, dX6_lay_94, dX6_lay_96, xpX6_7, xcX6_73, xkb_6, xki_0, xki_1, xki_m1, xkl_0, xkl_1, hc0, j1, xt_14_80, xtc_14_80, xt_27_61, xtc_27_61, xt_35_40, xtc_35_40, xt_53_22, xtc_53_22, xt_72_m39, xtc_72_m39, xt_85_m60, xtc_85_m60, xt_91_m81, xtc_91_m81]
            exact inner L (Nat.le_refl _) 1 (by omega) (by omega) (by rw [Nat.mul_one]; exact hV) (Or.inr rfl)
      have hu1 : xu f ra (xJ 2000 (fun i => jN (d i))) ea = f ea := xu_n (Ne.symm n3)
      refine xgo O Rt xplX6_q xclX6_q [10, 25, 33] 30 ?_
      simp (maxSteps := 10000000) (disch := omega) only [↓reduceIte, ↓xrun_s, ↓xck_e, xdo_e, xlg_0, xlg_c, xst1_0, xst1_1, xst1_c, xst2_0, xst2_1, xst2_c, xk2_n, xk2_i, xk2_a, xk2_l, xct_i, xct_a, xct_l, xf4_0, xf4_1, xf4_2, xf4_3, List.contains_cons, List.contains_nil, Bool.or_false, Bool.false_or, Bool.or_self, Bool.true_or, Bool.or_true, cond_true, cond_false, List.set_cons_zero, List.set_cons_succ, List.length_cons, List.length_nil, true_and, and_true, xu_s, xu_u, xeqs, Nat.le_refl, not_true_eq_false, xq_10, xq_01, Int32.reduceAdd, Int32.reduceMul, Int32.reduceSub, Int32.reduceLE, Int32.reduceLT, Int32.reduceToNatClampNeg, Nat.reduceAdd, Nat.reduceMul, Nat.reduceBEq, Nat.reduceLT, Nat.reduceLeDiff, Nat.reduceEqDiff, Nat.zero_add, Bool.false_eq_true, reduceCtorEq, if_false, if_true, not_false_eq_true, true_imp_iff, false_imp_iff, imp_self, ↓xil_e, ↓xll_e, ↓xal_e, ↓xs1i_e, ↓xs2i_e, ↓xs1l_e, ↓xs2l_e, ↓xsil_e, ↓xs1_e, ↓xs2_e, ↓xs1a_e, ↓xsia_e, ↓xsiia_e, ↓xslia_e, ↓xsaia_e, ↓xsva_e, ↓xse1i_e, ↓xse1l_e, ↓xse1a_e, ↓xse0_e, ↓xfv_0, ↓xfv_c, ↓xgf_e, ↓xpf_e, ↓xia_e, ↓xia_n, ↓xba_e, ↓xba_n, ↓xla_e, ↓xla_n, ↓xob_e, ↓xra_e, ↓xno_e, ↓xle_e, ↓xnr_i, ↓xnr_b0, ↓xnr_b1, ↓xnr_n, ↓xdo_e, ↓xkl_0, ↓xe_iconst, ↓xe_bipush, ↓xe_lconst, ↓xe_imul, ↓xe_lmul, ↓xe_lcmp, ↓xe_i2l, ↓xe_iload, ↓xe_iload_n, ↓xe_lload, ↓xe_aload_n, ↓xe_istore, ↓xe_lstore, ↓xe_iinc, ↓xe_goto, ↓xe_ldc2_w, ↓xe_getfield, ↓xe_iaload, ↓xe_lastore, ↓xe_ireturn, ↓xe_if_ge, ↓xe_icmp_ge, ↓xe_if_le, ↓xe_invokestatic, dX6_lay_0, dX6_lay_1, dX6_lay_3, dX6_lay_4, dX6_lay_5, dX6_lay_6, dX6_lay_7, dX6_lay_8, dX6_lay_10, dX6_lay_12, dX6_lay_14, dX6_lay_17, dX6_lay_18, dX6_lay_19, dX6_lay_21, dX6_lay_22, dX6_lay_23, dX6_lay_25, dX6_lay_27, dX6_lay_30, dX6_lay_31, dX6_lay_33, dX6_lay_35, dX6_lay_38, dX6_lay_40, dX6_lay_41, dX6_lay_44, dX6_lay_46, dX6_lay_47, dX6_lay_48, dX6_lay_49, dX6_lay_52, dX6_lay_53, dX6_lay_56, dX6_lay_58, dX6_lay_59, dX6_lay_62, dX6_lay_64, dX6_lay_65, dX6_lay_66, dX6_lay_67, dX6_lay_69, dX6_lay_72, dX6_lay_75, dX6_lay_76, dX6_lay_78, dX6_lay_80, dX6_lay_83, dX6_lay_85, dX6_lay_88, dX6_lay_91, dX6_lay_94, dX6_lay_96, xpX6_7, xcX6_73, xkb_6, xki_0, xki_1, xki_m1, xkl_0, xkl_1, n_le, six, hti, hu1, he1, v0, v1, xt_14_80, xtc_14_80, xt_27_61, xtc_27_61, xt_35_40, xtc_35_40, xt_53_22, xtc_53_22, xt_72_m39, xtc_72_m39, xt_85_m60, xtc_85_m60, xt_91_m81, xtc_91_m81]
      refine ⟨fun q => absurd q (by omega), fun _ => ?_⟩
      by_cases hpos : 0 < x k
      · obtain ⟨L, hL, eL⟩ := s_nI (s := sd * ev k) (m := 80001) (by omega) (by omega)
        rw [eL]
        have hLx : (x k).toNat = L := by rw [← hl, eL, nI_toInt (by omega)]; omega
        refine mid L (by omega) m d _ hm1 hm hd ?_ htop
        rw [hV, ← hLx]
        rfl
      · have hc0 : (sd * ev k ≤ 0) = True := eq_true ((n_le _ _).mpr (by rw [hl, n_0]; omega))
        refine xgo O Rt xplX6_q xclX6_q [10, 33] 30 ?_
        simp (maxSteps := 10000000) (disch := omega) only [↓reduceIte, ↓xrun_s, ↓xck_e, xdo_e, xlg_0, xlg_c, xst1_0, xst1_1, xst1_c, xst2_0, xst2_1, xst2_c, xk2_n, xk2_i, xk2_a, xk2_l, xct_i, xct_a, xct_l, xf4_0, xf4_1, xf4_2, xf4_3, List.contains_cons, List.contains_nil, Bool.or_false, Bool.false_or, Bool.or_self, Bool.true_or, Bool.or_true, cond_true, cond_false, List.set_cons_zero, List.set_cons_succ, List.length_cons, List.length_nil, true_and, and_true, xu_s, xu_u, xeqs, Nat.le_refl, not_true_eq_false, xq_10, xq_01, Int32.reduceAdd, Int32.reduceMul, Int32.reduceSub, Int32.reduceLE, Int32.reduceLT, Int32.reduceToNatClampNeg, Nat.reduceAdd, Nat.reduceMul, Nat.reduceBEq, Nat.reduceLT, Nat.reduceLeDiff, Nat.reduceEqDiff, Nat.zero_add, Bool.false_eq_true, reduceCtorEq, if_false, if_true, not_false_eq_true, true_imp_iff, false_imp_iff, imp_self, ↓xil_e, ↓xll_e, ↓xal_e, ↓xs1i_e, ↓xs2i_e, ↓xs1l_e, ↓xs2l_e, ↓xsil_e, ↓xs1_e, ↓xs2_e, ↓xs1a_e, ↓xsia_e, ↓xsiia_e, ↓xslia_e, ↓xsaia_e, ↓xsva_e, ↓xse1i_e, ↓xse1l_e, ↓xse1a_e, ↓xse0_e, ↓xfv_0, ↓xfv_c, ↓xgf_e, ↓xpf_e, ↓xia_e, ↓xia_n, ↓xba_e, ↓xba_n, ↓xla_e, ↓xla_n, ↓xob_e, ↓xra_e, ↓xno_e, ↓xle_e, ↓xnr_i, ↓xnr_b0, ↓xnr_b1, ↓xnr_n, ↓xdo_e, ↓xkl_0, ↓xe_iconst, ↓xe_bipush, ↓xe_lconst, ↓xe_imul, ↓xe_lmul, ↓xe_lcmp, ↓xe_i2l, ↓xe_iload, ↓xe_iload_n, ↓xe_lload, ↓xe_aload_n, ↓xe_istore, ↓xe_lstore, ↓xe_iinc, ↓xe_goto, ↓xe_ldc2_w, ↓xe_getfield, ↓xe_iaload, ↓xe_lastore, ↓xe_ireturn, ↓xe_if_ge, ↓xe_icmp_ge, ↓xe_if_le, ↓xe_invokestatic, dX6_lay_0, dX6_lay_1, dX6_lay_3, dX6_lay_4, dX6_lay_5, dX6_lay_6, dX6_lay_7, dX6_lay_8, dX6_lay_10, dX6_lay_12, dX6_lay_14, dX6_lay_17, dX6_lay_18, dX6_lay_19, dX6_lay_21, dX6_lay_22, dX6_lay_23, dX6_lay_25, dX6_lay_27, dX6_lay_30, dX6_lay_31, dX6_lay_33, dX6_lay_35, dX6_lay_38, dX6_lay_40, dX6_lay_41, dX6_lay_44, dX6_lay_46, dX6_lay_47, dX6_lay_48, dX6_lay_49, dX6_lay_52, dX6_lay_53, dX6_lay_56, dX6_lay_58, dX6_lay_59, dX6_lay_62, dX6_lay_64, dX6_lay_65, dX6_lay_66, dX6_lay_67, dX6_lay_69, dX6_lay_72, dX6_lay_75, dX6_lay_76, dX6_lay_78, dX6_lay_80, dX6_lay_83, dX6_lay_85, dX6_lay_88, dX6_lay_91, dX6_lay_94, dX6_lay_96, xpX6_7, xcX6_73, xkb_6, xki_0, xki_1, xki_m1, xkl_0, xkl_1, hc0, nk, xt_14_80, xtc_14_80, xt_27_61, xtc_27_61, xt_35_40, xtc_35_40, xt_53_22, xtc_53_22, xt_72_m39, xtc_72_m39, xt_85_m60, xtc_85_m60, xt_91_m81, xtc_91_m81]
        refine ih (k + 1) (by omega) m d _ _ hm1 hm hd ?_ htop
        rw [hV]
        show pA x k = pA x k * prm k ^ (x k).toNat
        rw [show (x k).toNat = 0 by omega, Nat.pow_zero, Nat.mul_one]
  have w0 : vp_in (0 : Int32) 2000 := vp_in_nI (n := 0) (by omega) (by omega)
  have w1 : (0 : Int32).toNatClampNeg = 0 := rfl
  refine xgo O Rt xplX6_q xclX6_q [10, 25, 33] 30 ?_
  simp (maxSteps := 10000000) (disch := omega) only [↓reduceIte, ↓xrun_s, ↓xck_e, xdo_e, xlg_0, xlg_c, xst1_0, xst1_1, xst1_c, xst2_0, xst2_1, xst2_c, xk2_n, xk2_i, xk2_a, xk2_l, xct_i, xct_a, xct_l, xf4_0, xf4_1, xf4_2, xf4_3, List.contains_cons, List.contains_nil, Bool.or_false, Bool.false_or, Bool.or_self, Bool.true_or, Bool.or_true, cond_true, cond_false, List.set_cons_zero, List.set_cons_succ, List.length_cons, List.length_nil, true_and, and_true, xu_s, xu_u, xeqs, Nat.le_refl, not_true_eq_false, xq_10, xq_01, Int32.reduceAdd, Int32.reduceMul, Int32.reduceSub, Int32.reduceLE, Int32.reduceLT, Int32.reduceToNatClampNeg, Nat.reduceAdd, Nat.reduceMul, Nat.reduceBEq, Nat.reduceLT, Nat.reduceLeDiff, Nat.reduceEqDiff, Nat.zero_add, Bool.false_eq_true, reduceCtorEq, if_false, if_true, not_false_eq_true, true_imp_iff, false_imp_iff, imp_self, ↓xil_e, ↓xll_e, ↓xal_e, ↓xs1i_e, ↓xs2i_e, ↓xs1l_e, ↓xs2l_e, ↓xsil_e, ↓xs1_e, ↓xs2_e, ↓xs1a_e, ↓xsia_e, ↓xsiia_e, ↓xslia_e, ↓xsaia_e, ↓xsva_e, ↓xse1i_e, ↓xse1l_e, ↓xse1a_e, ↓xse0_e, ↓xfv_0, ↓xfv_c, ↓xgf_e, ↓xpf_e, ↓xia_e, ↓xia_n, ↓xba_e, ↓xba_n, ↓xla_e, ↓xla_n, ↓xob_e, ↓xra_e, ↓xno_e, ↓xle_e, ↓xnr_i, ↓xnr_b0, ↓xnr_b1, ↓xnr_n, ↓xdo_e, ↓xkl_0, ↓xe_iconst, ↓xe_bipush, ↓xe_lconst, ↓xe_imul, ↓xe_lmul, ↓xe_lcmp, ↓xe_i2l, ↓xe_iload, ↓xe_iload_n, ↓xe_lload, ↓xe_aload_n, ↓xe_istore, ↓xe_lstore, ↓xe_iinc, ↓xe_goto, ↓xe_ldc2_w, ↓xe_getfield, ↓xe_iaload, ↓xe_lastore, ↓xe_ireturn, ↓xe_if_ge, ↓xe_icmp_ge, ↓xe_if_le, ↓xe_invokestatic, dX6_lay_0, dX6_lay_1, dX6_lay_3, dX6_lay_4, dX6_lay_5, dX6_lay_6, dX6_lay_7, dX6_lay_8, dX6_lay_10, dX6_lay_12, dX6_lay_14, dX6_lay_17, dX6_lay_18, dX6_lay_19, dX6_lay_21, dX6_lay_22, dX6_lay_23, dX6_lay_25, dX6_lay_27, dX6_lay_30, dX6_lay_31, dX6_lay_33, dX6_lay_35, dX6_lay_38, dX6_lay_40, dX6_lay_41, dX6_lay_44, dX6_lay_46, dX6_lay_47, dX6_lay_48, dX6_lay_49, dX6_lay_52, dX6_lay_53, dX6_lay_56, dX6_lay_58, dX6_lay_59, dX6_lay_62, dX6_lay_64, dX6_lay_65, dX6_lay_66, dX6_lay_67, dX6_lay_69, dX6_lay_72, dX6_lay_75, dX6_lay_76, dX6_lay_78, dX6_lay_80, dX6_lay_83, dX6_lay_85, dX6_lay_88, dX6_lay_91, dX6_lay_94, dX6_lay_96, xpX6_7, xcX6_73, xkb_6, xki_0, xki_1, xki_m1, xkl_0, xkl_1, hd0, w0, w1, j1, updN, xt_14_80, xtc_14_80, xt_27_61, xtc_27_61, xt_35_40, xtc_35_40, xt_53_22, xtc_53_22, xt_72_m39, xtc_72_m39, xt_85_m60, xtc_85_m60, xt_91_m81, xtc_91_m81]
  refine outer 6 0 (by omega) 1 (upN d0 0 1) none none (by omega) (by omega) (fun i hi => ?_) ?_ ?_
  · have : i = 0 := by omega
    subst this
    simp [upN]
  · rw [bv_up]; simp [bv, BB0, pA]
  · rw [bv_up]; simp [bv, BB0]
